section
-- ===== PART A: goes FIRST, ahead of the names: the tables' words, and 'selects' of the private methods out of them =====
/-- a private method of a class that the tables say can be made, by its rows of tables_1 -/
def lw_okq (q : MethodName × Nat) : Prop := (q.1.cls ≠ "java/lang/invoke/MethodHandle" ∧ q.1.cls ≠ "java/lang/invoke/VarHandle") ∧ Cond.instantiable q.1.cls q.2 ∈ tables_1 ∧ Cond.privateMethod q.1 ∈ tables_1 ∧ Cond.instanceMethod q.1 ∈ tables_1
theorem lw_p0 : lw_okq (⟨"TextShelves", "lay", "(I)I"⟩, 5) := ⟨⟨by decide +kernel, by decide +kernel⟩, List.mem_of_getElem? (i := 14) (by decide +kernel), List.mem_of_getElem? (i := 157) (by decide +kernel), List.mem_of_getElem? (i := 158) (by decide +kernel)⟩
theorem lw_p1 : lw_okq (⟨"TextShelves", "layBare", "(IZI)I"⟩, 5) := ⟨⟨by decide +kernel, by decide +kernel⟩, List.mem_of_getElem? (i := 14) (by decide +kernel), List.mem_of_getElem? (i := 384) (by decide +kernel), List.mem_of_getElem? (i := 385) (by decide +kernel)⟩
theorem lw_p2 : lw_okq (⟨"TextShelves$Pieces", "endPiece", "()V"⟩, 3) := ⟨⟨by decide +kernel, by decide +kernel⟩, List.mem_of_getElem? (i := 46) (by decide +kernel), List.mem_of_getElem? (i := 500) (by decide +kernel), List.mem_of_getElem? (i := 501) (by decide +kernel)⟩
theorem lw_p3 : lw_okq (⟨"TextShelves$Pieces", "addEnd", "(I)V"⟩, 3) := ⟨⟨by decide +kernel, by decide +kernel⟩, List.mem_of_getElem? (i := 46) (by decide +kernel), List.mem_of_getElem? (i := 504) (by decide +kernel), List.mem_of_getElem? (i := 505) (by decide +kernel)⟩
theorem lw_p4 : lw_okq (⟨"TextShelves$Pieces", "leaveOutEmptyEnd", "()V"⟩, 3) := ⟨⟨by decide +kernel, by decide +kernel⟩, List.mem_of_getElem? (i := 46) (by decide +kernel), List.mem_of_getElem? (i := 509) (by decide +kernel), List.mem_of_getElem? (i := 510) (by decide +kernel)⟩
theorem lw_p5 : lw_okq (⟨"TextShelves$Pieces", "startOf", "(I)I"⟩, 3) := ⟨⟨by decide +kernel, by decide +kernel⟩, List.mem_of_getElem? (i := 46) (by decide +kernel), List.mem_of_getElem? (i := 513) (by decide +kernel), List.mem_of_getElem? (i := 514) (by decide +kernel)⟩
theorem lw_p6 : lw_okq (⟨"TextShelves$Pieces", "endOf", "(I)I"⟩, 3) := ⟨⟨by decide +kernel, by decide +kernel⟩, List.mem_of_getElem? (i := 46) (by decide +kernel), List.mem_of_getElem? (i := 517) (by decide +kernel), List.mem_of_getElem? (i := 518) (by decide +kernel)⟩
theorem lw_p7 : lw_okq (⟨"TextShelves", "firstPlaceHolds", "(III)Z"⟩, 5) := ⟨⟨by decide +kernel, by decide +kernel⟩, List.mem_of_getElem? (i := 14) (by decide +kernel), List.mem_of_getElem? (i := 577) (by decide +kernel), List.mem_of_getElem? (i := 578) (by decide +kernel)⟩
theorem lw_p8 : lw_okq (⟨"TextShelves", "lastPlaceHolds", "(III)Z"⟩, 5) := ⟨⟨by decide +kernel, by decide +kernel⟩, List.mem_of_getElem? (i := 14) (by decide +kernel), List.mem_of_getElem? (i := 583) (by decide +kernel), List.mem_of_getElem? (i := 584) (by decide +kernel)⟩
theorem lw_p9 : lw_okq (⟨"TextShelves", "orderHolds", "(II)Z"⟩, 5) := ⟨⟨by decide +kernel, by decide +kernel⟩, List.mem_of_getElem? (i := 14) (by decide +kernel), List.mem_of_getElem? (i := 587) (by decide +kernel), List.mem_of_getElem? (i := 588) (by decide +kernel)⟩
theorem lw_p10 : lw_okq (⟨"TextShelves", "replacingHolds", "(LTextShelves$Text;LTextShelves$Text;)Z"⟩, 5) := ⟨⟨by decide +kernel, by decide +kernel⟩, List.mem_of_getElem? (i := 14) (by decide +kernel), List.mem_of_getElem? (i := 595) (by decide +kernel), List.mem_of_getElem? (i := 596) (by decide +kernel)⟩
theorem lw_p11 : lw_okq (⟨"TextShelves", "partingHolds", "(LTextShelves$Text;)Z"⟩, 5) := ⟨⟨by decide +kernel, by decide +kernel⟩, List.mem_of_getElem? (i := 14) (by decide +kernel), List.mem_of_getElem? (i := 599) (by decide +kernel), List.mem_of_getElem? (i := 600) (by decide +kernel)⟩
theorem lw_p12 : lw_okq (⟨"TextShelvesModel", "sizeOf", "(I)I"⟩, 14) := ⟨⟨by decide +kernel, by decide +kernel⟩, List.mem_of_getElem? (i := 642) (by decide +kernel), List.mem_of_getElem? (i := 695) (by decide +kernel), List.mem_of_getElem? (i := 696) (by decide +kernel)⟩
theorem lw_p13 : lw_okq (⟨"TextShelvesModel", "begins", "()V"⟩, 14) := ⟨⟨by decide +kernel, by decide +kernel⟩, List.mem_of_getElem? (i := 642) (by decide +kernel), List.mem_of_getElem? (i := 713) (by decide +kernel), List.mem_of_getElem? (i := 714) (by decide +kernel)⟩
theorem lw_p14 : lw_okq (⟨"TextShelvesModel", "putsPart", "(III)V"⟩, 14) := ⟨⟨by decide +kernel, by decide +kernel⟩, List.mem_of_getElem? (i := 642) (by decide +kernel), List.mem_of_getElem? (i := 717) (by decide +kernel), List.mem_of_getElem? (i := 718) (by decide +kernel)⟩
theorem lw_p15 : lw_okq (⟨"TextShelvesModel", "signAt", "(II)I"⟩, 14) := ⟨⟨by decide +kernel, by decide +kernel⟩, List.mem_of_getElem? (i := 642) (by decide +kernel), List.mem_of_getElem? (i := 721) (by decide +kernel), List.mem_of_getElem? (i := 722) (by decide +kernel)⟩
def lw_privs_1 : List (MethodName × Nat) := [(⟨"TextShelves", "lay", "(I)I"⟩, 5), (⟨"TextShelves", "layBare", "(IZI)I"⟩, 5), (⟨"TextShelves$Pieces", "endPiece", "()V"⟩, 3), (⟨"TextShelves$Pieces", "addEnd", "(I)V"⟩, 3), (⟨"TextShelves$Pieces", "leaveOutEmptyEnd", "()V"⟩, 3), (⟨"TextShelves$Pieces", "startOf", "(I)I"⟩, 3), (⟨"TextShelves$Pieces", "endOf", "(I)I"⟩, 3), (⟨"TextShelves", "firstPlaceHolds", "(III)Z"⟩, 5), (⟨"TextShelves", "lastPlaceHolds", "(III)Z"⟩, 5), (⟨"TextShelves", "orderHolds", "(II)Z"⟩, 5), (⟨"TextShelves", "replacingHolds", "(LTextShelves$Text;LTextShelves$Text;)Z"⟩, 5), (⟨"TextShelves", "partingHolds", "(LTextShelves$Text;)Z"⟩, 5), (⟨"TextShelvesModel", "sizeOf", "(I)I"⟩, 14), (⟨"TextShelvesModel", "begins", "()V"⟩, 14), (⟨"TextShelvesModel", "putsPart", "(III)V"⟩, 14), (⟨"TextShelvesModel", "signAt", "(II)I"⟩, 14)]
theorem lw_r1 : ∀ q ∈ lw_privs_1, lw_okq q := List.forall_mem_cons.mpr ⟨lw_p0, List.forall_mem_cons.mpr ⟨lw_p1, List.forall_mem_cons.mpr ⟨lw_p2, List.forall_mem_cons.mpr ⟨lw_p3, List.forall_mem_cons.mpr ⟨lw_p4, List.forall_mem_cons.mpr ⟨lw_p5, List.forall_mem_cons.mpr ⟨lw_p6, List.forall_mem_cons.mpr ⟨lw_p7, List.forall_mem_cons.mpr ⟨lw_p8, List.forall_mem_cons.mpr ⟨lw_p9, List.forall_mem_cons.mpr ⟨lw_p10, List.forall_mem_cons.mpr ⟨lw_p11, List.forall_mem_cons.mpr ⟨lw_p12, List.forall_mem_cons.mpr ⟨lw_p13, List.forall_mem_cons.mpr ⟨lw_p14, List.forall_mem_cons.mpr ⟨lw_p15, fun _ h => absurd h List.not_mem_nil⟩⟩⟩⟩⟩⟩⟩⟩⟩⟩⟩⟩⟩⟩⟩⟩
theorem lw_p16 : lw_okq (⟨"TextShelvesModel", "puts", "(I)V"⟩, 14) := ⟨⟨by decide +kernel, by decide +kernel⟩, List.mem_of_getElem? (i := 642) (by decide +kernel), List.mem_of_getElem? (i := 725) (by decide +kernel), List.mem_of_getElem? (i := 726) (by decide +kernel)⟩
theorem lw_p17 : lw_okq (⟨"TextShelvesModel", "lays", "(I)I"⟩, 14) := ⟨⟨by decide +kernel, by decide +kernel⟩, List.mem_of_getElem? (i := 642) (by decide +kernel), List.mem_of_getElem? (i := 729) (by decide +kernel), List.mem_of_getElem? (i := 730) (by decide +kernel)⟩
theorem lw_p18 : lw_okq (⟨"TextShelvesModel", "stands", "(III)Z"⟩, 14) := ⟨⟨by decide +kernel, by decide +kernel⟩, List.mem_of_getElem? (i := 642) (by decide +kernel), List.mem_of_getElem? (i := 820) (by decide +kernel), List.mem_of_getElem? (i := 821) (by decide +kernel)⟩
theorem lw_p19 : lw_okq (⟨"TextShelvesModel", "isRegion", "(IIIIIZ)Z"⟩, 14) := ⟨⟨by decide +kernel, by decide +kernel⟩, List.mem_of_getElem? (i := 642) (by decide +kernel), List.mem_of_getElem? (i := 855) (by decide +kernel), List.mem_of_getElem? (i := 856) (by decide +kernel)⟩
theorem lw_p20 : lw_okq (⟨"TextShelvesModel", "order", "(IIZ)I"⟩, 14) := ⟨⟨by decide +kernel, by decide +kernel⟩, List.mem_of_getElem? (i := 642) (by decide +kernel), List.mem_of_getElem? (i := 878) (by decide +kernel), List.mem_of_getElem? (i := 879) (by decide +kernel)⟩
theorem lw_p21 : lw_okq (⟨"TextShelvesModel", "strips", "(IZI)I"⟩, 14) := ⟨⟨by decide +kernel, by decide +kernel⟩, List.mem_of_getElem? (i := 642) (by decide +kernel), List.mem_of_getElem? (i := 898) (by decide +kernel), List.mem_of_getElem? (i := 899) (by decide +kernel)⟩
theorem lw_p22 : lw_okq (⟨"TextShelvesModel", "addPiece", "(II)V"⟩, 14) := ⟨⟨by decide +kernel, by decide +kernel⟩, List.mem_of_getElem? (i := 642) (by decide +kernel), List.mem_of_getElem? (i := 923) (by decide +kernel), List.mem_of_getElem? (i := 924) (by decide +kernel)⟩
theorem lw_p23 : lw_okq (⟨"TextShelvesModel", "putsPiece", "(I)V"⟩, 14) := ⟨⟨by decide +kernel, by decide +kernel⟩, List.mem_of_getElem? (i := 642) (by decide +kernel), List.mem_of_getElem? (i := 935) (by decide +kernel), List.mem_of_getElem? (i := 936) (by decide +kernel)⟩
theorem lw_p24 : lw_okq (⟨"TextShelvesModel", "finds", "(II)I"⟩, 14) := ⟨⟨by decide +kernel, by decide +kernel⟩, List.mem_of_getElem? (i := 642) (by decide +kernel), List.mem_of_getElem? (i := 947) (by decide +kernel), List.mem_of_getElem? (i := 948) (by decide +kernel)⟩
theorem lw_p25 : lw_okq (⟨"TextShelvesModel", "arePlacesSo", "(III)Z"⟩, 14) := ⟨⟨by decide +kernel, by decide +kernel⟩, List.mem_of_getElem? (i := 642) (by decide +kernel), List.mem_of_getElem? (i := 963) (by decide +kernel), List.mem_of_getElem? (i := 964) (by decide +kernel)⟩
theorem lw_p26 : lw_okq (⟨"TextShelvesModel", "isOrderSo", "(II)Z"⟩, 14) := ⟨⟨by decide +kernel, by decide +kernel⟩, List.mem_of_getElem? (i := 642) (by decide +kernel), List.mem_of_getElem? (i := 967) (by decide +kernel), List.mem_of_getElem? (i := 968) (by decide +kernel)⟩
theorem lw_p27 : lw_okq (⟨"TextShelvesModel", "areFindsSo", "(II)Z"⟩, 14) := ⟨⟨by decide +kernel, by decide +kernel⟩, List.mem_of_getElem? (i := 642) (by decide +kernel), List.mem_of_getElem? (i := 974) (by decide +kernel), List.mem_of_getElem? (i := 975) (by decide +kernel)⟩
theorem lw_p28 : lw_okq (⟨"TextShelvesModel", "arePiecesSo", "(I)Z"⟩, 14) := ⟨⟨by decide +kernel, by decide +kernel⟩, List.mem_of_getElem? (i := 642) (by decide +kernel), List.mem_of_getElem? (i := 978) (by decide +kernel), List.mem_of_getElem? (i := 979) (by decide +kernel)⟩
theorem lw_p29 : lw_okq (⟨"TextShelvesModel", "allSigns", "()I"⟩, 14) := ⟨⟨by decide +kernel, by decide +kernel⟩, List.mem_of_getElem? (i := 642) (by decide +kernel), List.mem_of_getElem? (i := 989) (by decide +kernel), List.mem_of_getElem? (i := 990) (by decide +kernel)⟩
def lw_privs_2 : List (MethodName × Nat) := [(⟨"TextShelvesModel", "puts", "(I)V"⟩, 14), (⟨"TextShelvesModel", "lays", "(I)I"⟩, 14), (⟨"TextShelvesModel", "stands", "(III)Z"⟩, 14), (⟨"TextShelvesModel", "isRegion", "(IIIIIZ)Z"⟩, 14), (⟨"TextShelvesModel", "order", "(IIZ)I"⟩, 14), (⟨"TextShelvesModel", "strips", "(IZI)I"⟩, 14), (⟨"TextShelvesModel", "addPiece", "(II)V"⟩, 14), (⟨"TextShelvesModel", "putsPiece", "(I)V"⟩, 14), (⟨"TextShelvesModel", "finds", "(II)I"⟩, 14), (⟨"TextShelvesModel", "arePlacesSo", "(III)Z"⟩, 14), (⟨"TextShelvesModel", "isOrderSo", "(II)Z"⟩, 14), (⟨"TextShelvesModel", "areFindsSo", "(II)Z"⟩, 14), (⟨"TextShelvesModel", "arePiecesSo", "(I)Z"⟩, 14), (⟨"TextShelvesModel", "allSigns", "()I"⟩, 14)]
theorem lw_r2 : ∀ q ∈ lw_privs_2, lw_okq q := List.forall_mem_cons.mpr ⟨lw_p16, List.forall_mem_cons.mpr ⟨lw_p17, List.forall_mem_cons.mpr ⟨lw_p18, List.forall_mem_cons.mpr ⟨lw_p19, List.forall_mem_cons.mpr ⟨lw_p20, List.forall_mem_cons.mpr ⟨lw_p21, List.forall_mem_cons.mpr ⟨lw_p22, List.forall_mem_cons.mpr ⟨lw_p23, List.forall_mem_cons.mpr ⟨lw_p24, List.forall_mem_cons.mpr ⟨lw_p25, List.forall_mem_cons.mpr ⟨lw_p26, List.forall_mem_cons.mpr ⟨lw_p27, List.forall_mem_cons.mpr ⟨lw_p28, List.forall_mem_cons.mpr ⟨lw_p29, fun _ h => absurd h List.not_mem_nil⟩⟩⟩⟩⟩⟩⟩⟩⟩⟩⟩⟩⟩⟩
def lw_privs : List (MethodName × Nat) := lw_privs_1 ++ (lw_privs_2)
def lw_tbl : List Cond := k2_sels lw_privs ++ tables_1
theorem lw_privs_ok : ∀ q ∈ lw_privs, lw_okq q := by
  show ∀ q ∈ lw_privs_1 ++ (lw_privs_2), lw_okq q
  exact List.forall_mem_append.mpr ⟨lw_r1, lw_r2⟩
-- ===== end of PART A; then your names; then what follows =====
end
section
/-! names, decode rows (out of the printed names) -/
def RX0 : String := "TextShelves$Image"
def TX0 : u_T := fun k => match k with
  | 0 => ("TextShelves$Image", "texts", "[LTextShelves$Text;", true)
  | _ => ("TextShelves$Image", "parts", "LTextShelves$Pieces;", true)
def tyX0 : Nat → FieldType := fun k => match k with
  | 0 => .array (.object "TextShelves$Text")
  | _ => .object "TextShelves$Pieces"
theorem nmX0 : ∀ a, a < 2 → ∀ b, b < 2 → a ≠ b → (TX0 a).2.1 ≠ (TX0 b).2.1 := by decide +kernel
theorem tyX0_ok : ∀ k, k < 2 → parseFieldDescriptor (TX0 k).2.2.1 = some (tyX0 k) := by decide +kernel
abbrev cX0_init : ByteArray := prog_2_method_1_code
def yX0_init : MethodName := ⟨RX0, "<init>", "()V"⟩
abbrev cX0_text : ByteArray := prog_2_method_2_code
def yX0_text : MethodName := ⟨RX0, "text", "(I)LTextShelves$Text;"⟩
abbrev cX0_exchange : ByteArray := prog_2_method_3_code
def yX0_exchange : MethodName := ⟨RX0, "exchange", "(II)V"⟩
abbrev cX0_become : ByteArray := prog_2_method_4_code
def yX0_become : MethodName := ⟨RX0, "become", "(LTextShelves$Image;)V"⟩
abbrev cX0_sizeOfTexts : ByteArray := prog_2_method_5_code
def yX0_sizeOfTexts : MethodName := ⟨RX0, "sizeOfTexts", "()I"⟩
def RX1 : String := "TextShelves$Pieces"
def TX1 : u_T := fun k => match k with
  | 0 => ("TextShelves$Pieces", "all", "LTextShelves$Text;", true)
  | 1 => ("TextShelves$Pieces", "ends", "[I", true)
  | _ => ("TextShelves$Pieces", "size", "I", false)
def tyX1 : Nat → FieldType := fun k => match k with
  | 0 => .object "TextShelves$Text"
  | 1 => .array .int
  | _ => .int
theorem nmX1 : ∀ a, a < 3 → ∀ b, b < 3 → a ≠ b → (TX1 a).2.1 ≠ (TX1 b).2.1 := by decide +kernel
theorem tyX1_ok : ∀ k, k < 3 → parseFieldDescriptor (TX1 k).2.2.1 = some (tyX1 k) := by decide +kernel
abbrev cX1_init : ByteArray := prog_3_method_1_code
def yX1_init : MethodName := ⟨RX1, "<init>", "()V"⟩
abbrev cX1_size : ByteArray := prog_3_method_2_code
def yX1_size : MethodName := ⟨RX1, "size", "()I"⟩
abbrev cX1_partAnew : ByteArray := prog_3_method_3_code
def yX1_partAnew : MethodName := ⟨RX1, "partAnew", "(LTextShelves$Text;II)V"⟩
abbrev cX1_addPieceTo : ByteArray := prog_3_method_4_code
def yX1_addPieceTo : MethodName := ⟨RX1, "addPieceTo", "(LTextShelves$Text;I)V"⟩
abbrev cX1_addJoinedTo : ByteArray := prog_3_method_5_code
def yX1_addJoinedTo : MethodName := ⟨RX1, "addJoinedTo", "(LTextShelves$Text;I)V"⟩
abbrev cX1_sizeJoined : ByteArray := prog_3_method_6_code
def yX1_sizeJoined : MethodName := ⟨RX1, "sizeJoined", "()I"⟩
abbrev cX1_become : ByteArray := prog_3_method_7_code
def yX1_become : MethodName := ⟨RX1, "become", "(LTextShelves$Pieces;)V"⟩
abbrev cX1_foldAll : ByteArray := prog_3_method_8_code
def yX1_foldAll : MethodName := ⟨RX1, "foldAll", "(J)J"⟩
abbrev cX1_endPiece : ByteArray := prog_3_method_9_code
def yX1_endPiece : MethodName := ⟨RX1, "endPiece", "()V"⟩
abbrev cX1_addEnd : ByteArray := prog_3_method_10_code
def yX1_addEnd : MethodName := ⟨RX1, "addEnd", "(I)V"⟩
abbrev cX1_leaveOutEmptyEnd : ByteArray := prog_3_method_11_code
def yX1_leaveOutEmptyEnd : MethodName := ⟨RX1, "leaveOutEmptyEnd", "()V"⟩
abbrev cX1_startOf : ByteArray := prog_3_method_12_code
def yX1_startOf : MethodName := ⟨RX1, "startOf", "(I)I"⟩
abbrev cX1_endOf : ByteArray := prog_3_method_13_code
def yX1_endOf : MethodName := ⟨RX1, "endOf", "(I)I"⟩
def RX2 : String := "TextShelves$Text"
def TX2 : u_T := fun k => match k with
  | 0 => ("TextShelves$Text", "signs", "[I", true)
  | _ => ("TextShelves$Text", "size", "I", false)
def tyX2 : Nat → FieldType := fun k => match k with
  | 0 => .array .int
  | _ => .int
theorem nmX2 : ∀ a, a < 2 → ∀ b, b < 2 → a ≠ b → (TX2 a).2.1 ≠ (TX2 b).2.1 := by decide +kernel
theorem tyX2_ok : ∀ k, k < 2 → parseFieldDescriptor (TX2 k).2.2.1 = some (tyX2 k) := by decide +kernel
abbrev cX2_init : ByteArray := prog_4_method_1_code
def yX2_init : MethodName := ⟨RX2, "<init>", "(I)V"⟩
abbrev cX2_size : ByteArray := prog_4_method_2_code
def yX2_size : MethodName := ⟨RX2, "size", "()I"⟩
abbrev cX2_at : ByteArray := prog_4_method_3_code
def yX2_at : MethodName := ⟨RX2, "at", "(I)I"⟩
abbrev cX2_clear : ByteArray := prog_4_method_4_code
def yX2_clear : MethodName := ⟨RX2, "clear", "()V"⟩
abbrev cX2_add : ByteArray := prog_4_method_5_code
def yX2_add : MethodName := ⟨RX2, "add", "(I)V"⟩
abbrev cX2_addSpan : ByteArray := prog_4_method_6_code
def yX2_addSpan : MethodName := ⟨RX2, "addSpan", "(LTextShelves$Text;II)V"⟩
abbrev cX2_addText : ByteArray := prog_4_method_7_code
def yX2_addText : MethodName := ⟨RX2, "addText", "(LTextShelves$Text;)V"⟩
abbrev cX2_addTurned : ByteArray := prog_4_method_8_code
def yX2_addTurned : MethodName := ⟨RX2, "addTurned", "(LTextShelves$Text;)V"⟩
abbrev cX2_addDigitsFromLowest : ByteArray := prog_4_method_9_code
def yX2_addDigitsFromLowest : MethodName := ⟨RX2, "addDigitsFromLowest", "(J)V"⟩
abbrev cX2_addReplaced : ByteArray := prog_4_method_10_code
def yX2_addReplaced : MethodName := ⟨RX2, "addReplaced", "(LTextShelves$Text;LTextShelves$Text;LTextShelves$Text;)V"⟩
abbrev cX2_become : ByteArray := prog_4_method_11_code
def yX2_become : MethodName := ⟨RX2, "become", "(LTextShelves$Text;)V"⟩
abbrev cX2_change : ByteArray := prog_4_method_12_code
def yX2_change : MethodName := ⟨RX2, "change", "(II)V"⟩
abbrev cX2_signFrom : ByteArray := prog_4_method_13_code
def yX2_signFrom : MethodName := ⟨RX2, "signFrom", "(II)I"⟩
abbrev cX2_signBack : ByteArray := prog_4_method_14_code
def yX2_signBack : MethodName := ⟨RX2, "signBack", "(II)I"⟩
abbrev cX2_placeFrom : ByteArray := prog_4_method_15_code
def yX2_placeFrom : MethodName := ⟨RX2, "placeFrom", "(LTextShelves$Text;I)I"⟩
abbrev cX2_placeBack : ByteArray := prog_4_method_16_code
def yX2_placeBack : MethodName := ⟨RX2, "placeBack", "(LTextShelves$Text;I)I"⟩
abbrev cX2_bears : ByteArray := prog_4_method_17_code
def yX2_bears : MethodName := ⟨RX2, "bears", "(LTextShelves$Text;I)Z"⟩
abbrev cX2_agreesWholly : ByteArray := prog_4_method_18_code
def yX2_agreesWholly : MethodName := ⟨RX2, "agreesWholly", "(LTextShelves$Text;Z)Z"⟩
abbrev cX2_agrees : ByteArray := prog_4_method_19_code
def yX2_agrees : MethodName := ⟨RX2, "agrees", "(ILTextShelves$Text;IIZ)Z"⟩
abbrev cX2_order : ByteArray := prog_4_method_20_code
def yX2_order : MethodName := ⟨RX2, "order", "(LTextShelves$Text;Z)I"⟩
abbrev cX2_finds : ByteArray := prog_4_method_21_code
def yX2_finds : MethodName := ⟨RX2, "finds", "(LTextShelves$Text;)I"⟩
abbrev cX2_sharedFront : ByteArray := prog_4_method_22_code
def yX2_sharedFront : MethodName := ⟨RX2, "sharedFront", "(LTextShelves$Text;)I"⟩
abbrev cX2_sharedRear : ByteArray := prog_4_method_23_code
def yX2_sharedRear : MethodName := ⟨RX2, "sharedRear", "(LTextShelves$Text;)I"⟩
abbrev cX2_endOfFront : ByteArray := prog_4_method_24_code
def yX2_endOfFront : MethodName := ⟨RX2, "endOfFront", "(Z)I"⟩
abbrev cX2_startOfRear : ByteArray := prog_4_method_25_code
def yX2_startOfRear : MethodName := ⟨RX2, "startOfRear", "(IZ)I"⟩
abbrev cX2_foldSpan : ByteArray := prog_4_method_26_code
def yX2_foldSpan : MethodName := ⟨RX2, "foldSpan", "(JII)J"⟩
def RX3 : String := "TextShelves"
def TX3 : u_T := fun k => match k with
  | 0 => ("TextShelves", "now", "LTextShelves$Image;", true)
  | 1 => ("TextShelves", "kept", "[LTextShelves$Image;", true)
  | 2 => ("TextShelves", "made", "LTextShelves$Text;", true)
  | 3 => ("TextShelves", "twice", "LTextShelves$Text;", true)
  | _ => ("TextShelves", "trial", "LTextShelves$Pieces;", true)
def tyX3 : Nat → FieldType := fun k => match k with
  | 0 => .object "TextShelves$Image"
  | 1 => .array (.object "TextShelves$Image")
  | 2 => .object "TextShelves$Text"
  | 3 => .object "TextShelves$Text"
  | _ => .object "TextShelves$Pieces"
theorem nmX3 : ∀ a, a < 5 → ∀ b, b < 5 → a ≠ b → (TX3 a).2.1 ≠ (TX3 b).2.1 := by decide +kernel
theorem tyX3_ok : ∀ k, k < 5 → parseFieldDescriptor (TX3 k).2.2.1 = some (tyX3 k) := by decide +kernel
abbrev cX3_init : ByteArray := prog_1_method_1_code
def yX3_init : MethodName := ⟨RX3, "<init>", "()V"⟩
abbrev cX3_wipe : ByteArray := prog_1_method_2_code
def yX3_wipe : MethodName := ⟨RX3, "wipe", "(I)I"⟩
abbrev cX3_type : ByteArray := prog_1_method_3_code
def yX3_type : MethodName := ⟨RX3, "type", "(II)I"⟩
abbrev cX3_feed : ByteArray := prog_1_method_4_code
def yX3_feed : MethodName := ⟨RX3, "feed", "(IJI)I"⟩
abbrev cX3_copy : ByteArray := prog_1_method_5_code
def yX3_copy : MethodName := ⟨RX3, "copy", "(II)I"⟩
abbrev cX3_swap : ByteArray := prog_1_method_6_code
def yX3_swap : MethodName := ⟨RX3, "swap", "(II)I"⟩
abbrev cX3_concat : ByteArray := prog_1_method_7_code
def yX3_concat : MethodName := ⟨RX3, "concat", "(III)I"⟩
abbrev cX3_substring : ByteArray := prog_1_method_8_code
def yX3_substring : MethodName := ⟨RX3, "substring", "(IIII)I"⟩
abbrev cX3_tail : ByteArray := prog_1_method_9_code
def yX3_tail : MethodName := ⟨RX3, "tail", "(III)I"⟩
abbrev cX3_number : ByteArray := prog_1_method_10_code
def yX3_number : MethodName := ⟨RX3, "number", "(II)I"⟩
abbrev cX3_big : ByteArray := prog_1_method_11_code
def yX3_big : MethodName := ⟨RX3, "big", "(JI)I"⟩
abbrev cX3_length : ByteArray := prog_1_method_12_code
def yX3_length : MethodName := ⟨RX3, "length", "(I)I"⟩
abbrev cX3_isEmpty : ByteArray := prog_1_method_13_code
def yX3_isEmpty : MethodName := ⟨RX3, "isEmpty", "(I)Z"⟩
abbrev cX3_isBlank : ByteArray := prog_1_method_14_code
def yX3_isBlank : MethodName := ⟨RX3, "isBlank", "(I)Z"⟩
abbrev cX3_charAt : ByteArray := prog_1_method_15_code
def yX3_charAt : MethodName := ⟨RX3, "charAt", "(II)I"⟩
abbrev cX3_hash : ByteArray := prog_1_method_16_code
def yX3_hash : MethodName := ⟨RX3, "hash", "(I)I"⟩
abbrev cX3_first : ByteArray := prog_1_method_17_code
def yX3_first : MethodName := ⟨RX3, "first", "(II)I"⟩
abbrev cX3_firstFrom : ByteArray := prog_1_method_18_code
def yX3_firstFrom : MethodName := ⟨RX3, "firstFrom", "(III)I"⟩
abbrev cX3_last : ByteArray := prog_1_method_19_code
def yX3_last : MethodName := ⟨RX3, "last", "(II)I"⟩
abbrev cX3_lastFrom : ByteArray := prog_1_method_20_code
def yX3_lastFrom : MethodName := ⟨RX3, "lastFrom", "(III)I"⟩
abbrev cX3_find : ByteArray := prog_1_method_21_code
def yX3_find : MethodName := ⟨RX3, "find", "(II)I"⟩
abbrev cX3_findFrom : ByteArray := prog_1_method_22_code
def yX3_findFrom : MethodName := ⟨RX3, "findFrom", "(III)I"⟩
abbrev cX3_findLast : ByteArray := prog_1_method_23_code
def yX3_findLast : MethodName := ⟨RX3, "findLast", "(II)I"⟩
abbrev cX3_findLastFrom : ByteArray := prog_1_method_24_code
def yX3_findLastFrom : MethodName := ⟨RX3, "findLastFrom", "(III)I"⟩
abbrev cX3_contains : ByteArray := prog_1_method_25_code
def yX3_contains : MethodName := ⟨RX3, "contains", "(II)Z"⟩
abbrev cX3_starts : ByteArray := prog_1_method_26_code
def yX3_starts : MethodName := ⟨RX3, "starts", "(II)Z"⟩
abbrev cX3_startsAt : ByteArray := prog_1_method_27_code
def yX3_startsAt : MethodName := ⟨RX3, "startsAt", "(III)Z"⟩
abbrev cX3_ends : ByteArray := prog_1_method_28_code
def yX3_ends : MethodName := ⟨RX3, "ends", "(II)Z"⟩
abbrev cX3_region : ByteArray := prog_1_method_29_code
def yX3_region : MethodName := ⟨RX3, "region", "(IIIII)Z"⟩
abbrev cX3_regionAlike : ByteArray := prog_1_method_30_code
def yX3_regionAlike : MethodName := ⟨RX3, "regionAlike", "(IIIII)Z"⟩
abbrev cX3_same : ByteArray := prog_1_method_31_code
def yX3_same : MethodName := ⟨RX3, "same", "(II)Z"⟩
abbrev cX3_alike : ByteArray := prog_1_method_32_code
def yX3_alike : MethodName := ⟨RX3, "alike", "(II)Z"⟩
abbrev cX3_compare : ByteArray := prog_1_method_33_code
def yX3_compare : MethodName := ⟨RX3, "compare", "(II)I"⟩
abbrev cX3_compareAlike : ByteArray := prog_1_method_34_code
def yX3_compareAlike : MethodName := ⟨RX3, "compareAlike", "(II)I"⟩
abbrev cX3_replaceSign : ByteArray := prog_1_method_35_code
def yX3_replaceSign : MethodName := ⟨RX3, "replaceSign", "(IIII)I"⟩
abbrev cX3_replaceText : ByteArray := prog_1_method_36_code
def yX3_replaceText : MethodName := ⟨RX3, "replaceText", "(IIII)I"⟩
abbrev cX3_trim : ByteArray := prog_1_method_37_code
def yX3_trim : MethodName := ⟨RX3, "trim", "(II)I"⟩
abbrev cX3_strip : ByteArray := prog_1_method_38_code
def yX3_strip : MethodName := ⟨RX3, "strip", "(II)I"⟩
abbrev cX3_repeat : ByteArray := prog_1_method_39_code
def yX3_repeat : MethodName := ⟨RX3, "repeat", "(III)I"⟩
abbrev cX3_turn : ByteArray := prog_1_method_40_code
def yX3_turn : MethodName := ⟨RX3, "turn", "(II)I"⟩
abbrev cX3_part : ByteArray := prog_1_method_41_code
def yX3_part : MethodName := ⟨RX3, "part", "(III)I"⟩
abbrev cX3_pieces : ByteArray := prog_1_method_42_code
def yX3_pieces : MethodName := ⟨RX3, "pieces", "()I"⟩
abbrev cX3_piece : ByteArray := prog_1_method_43_code
def yX3_piece : MethodName := ⟨RX3, "piece", "(II)I"⟩
abbrev cX3_join : ByteArray := prog_1_method_44_code
def yX3_join : MethodName := ⟨RX3, "join", "(II)I"⟩
abbrev cX3_count : ByteArray := prog_1_method_45_code
def yX3_count : MethodName := ⟨RX3, "count", "(II)I"⟩
abbrev cX3_head : ByteArray := prog_1_method_46_code
def yX3_head : MethodName := ⟨RX3, "head", "(II)I"⟩
abbrev cX3_foot : ByteArray := prog_1_method_47_code
def yX3_foot : MethodName := ⟨RX3, "foot", "(II)I"⟩
abbrev cX3_holds : ByteArray := prog_1_method_48_code
def yX3_holds : MethodName := ⟨RX3, "holds", "(III)Z"⟩
abbrev cX3_keep : ByteArray := prog_1_method_49_code
def yX3_keep : MethodName := ⟨RX3, "keep", "(I)I"⟩
abbrev cX3_back : ByteArray := prog_1_method_50_code
def yX3_back : MethodName := ⟨RX3, "back", "(I)I"⟩
abbrev cX3_digest : ByteArray := prog_1_method_51_code
def yX3_digest : MethodName := ⟨RX3, "digest", "()J"⟩
abbrev cX3_lay : ByteArray := prog_1_method_52_code
def yX3_lay : MethodName := ⟨RX3, "lay", "(I)I"⟩
abbrev cX3_layBare : ByteArray := prog_1_method_53_code
def yX3_layBare : MethodName := ⟨RX3, "layBare", "(IZI)I"⟩
abbrev cX3_firstPlaceHolds : ByteArray := prog_1_method_54_code
def yX3_firstPlaceHolds : MethodName := ⟨RX3, "firstPlaceHolds", "(III)Z"⟩
abbrev cX3_lastPlaceHolds : ByteArray := prog_1_method_55_code
def yX3_lastPlaceHolds : MethodName := ⟨RX3, "lastPlaceHolds", "(III)Z"⟩
abbrev cX3_orderHolds : ByteArray := prog_1_method_56_code
def yX3_orderHolds : MethodName := ⟨RX3, "orderHolds", "(II)Z"⟩
abbrev cX3_replacingHolds : ByteArray := prog_1_method_57_code
def yX3_replacingHolds : MethodName := ⟨RX3, "replacingHolds", "(LTextShelves$Text;LTextShelves$Text;)Z"⟩
abbrev cX3_partingHolds : ByteArray := prog_1_method_58_code
def yX3_partingHolds : MethodName := ⟨RX3, "partingHolds", "(LTextShelves$Text;)Z"⟩
abbrev cX3_isSign : ByteArray := prog_1_method_59_code
def yX3_isSign : MethodName := ⟨RX3, "isSign", "(I)Z"⟩
abbrev cX3_areSigns : ByteArray := prog_1_method_60_code
def yX3_areSigns : MethodName := ⟨RX3, "areSigns", "(JI)Z"⟩
abbrev cX3_byteOf : ByteArray := prog_1_method_61_code
def yX3_byteOf : MethodName := ⟨RX3, "byteOf", "(JI)I"⟩
abbrev cX3_isBlankSign : ByteArray := prog_1_method_62_code
def yX3_isBlankSign : MethodName := ⟨RX3, "isBlankSign", "(I)Z"⟩
abbrev cX3_isLoose : ByteArray := prog_1_method_63_code
def yX3_isLoose : MethodName := ⟨RX3, "isLoose", "(IZ)Z"⟩
abbrev cX3_asTold : ByteArray := prog_1_method_64_code
def yX3_asTold : MethodName := ⟨RX3, "asTold", "(IZ)I"⟩
def RX4 : String := "TextShelvesModel"
def TX4 : u_T := fun k => match k with
  | 0 => ("TextShelvesModel", "signs", "[I", true)
  | 1 => ("TextShelvesModel", "sizes", "[I", true)
  | 2 => ("TextShelvesModel", "pieceMany", "I", false)
  | 3 => ("TextShelvesModel", "parted", "[I", true)
  | 4 => ("TextShelvesModel", "pieceFroms", "[I", true)
  | 5 => ("TextShelvesModel", "pieceSizes", "[I", true)
  | 6 => ("TextShelvesModel", "keptSigns", "[I", true)
  | 7 => ("TextShelvesModel", "keptSizes", "[I", true)
  | 8 => ("TextShelvesModel", "keptMany", "[I", true)
  | 9 => ("TextShelvesModel", "keptParted", "[I", true)
  | 10 => ("TextShelvesModel", "keptFroms", "[I", true)
  | 11 => ("TextShelvesModel", "keptPieceSizes", "[I", true)
  | 12 => ("TextShelvesModel", "made", "[I", true)
  | _ => ("TextShelvesModel", "madeMany", "I", false)
def tyX4 : Nat → FieldType := fun k => match k with
  | 0 => .array .int
  | 1 => .array .int
  | 2 => .int
  | 3 => .array .int
  | 4 => .array .int
  | 5 => .array .int
  | 6 => .array .int
  | 7 => .array .int
  | 8 => .array .int
  | 9 => .array .int
  | 10 => .array .int
  | 11 => .array .int
  | 12 => .array .int
  | _ => .int
theorem nmX4 : ∀ a, a < 14 → ∀ b, b < 14 → a ≠ b → (TX4 a).2.1 ≠ (TX4 b).2.1 := by decide +kernel
theorem tyX4_ok : ∀ k, k < 14 → parseFieldDescriptor (TX4 k).2.2.1 = some (tyX4 k) := by decide +kernel
abbrev cX4_init : ByteArray := prog_6_method_1_code
def yX4_init : MethodName := ⟨RX4, "<init>", "()V"⟩
abbrev cX4_isIn : ByteArray := prog_6_method_2_code
def yX4_isIn : MethodName := ⟨RX4, "isIn", "(III)Z"⟩
abbrev cX4_isSign : ByteArray := prog_6_method_3_code
def yX4_isSign : MethodName := ⟨RX4, "isSign", "(I)Z"⟩
abbrev cX4_meant : ByteArray := prog_6_method_4_code
def yX4_meant : MethodName := ⟨RX4, "meant", "(I)I"⟩
abbrev cX4_sizeOf : ByteArray := prog_6_method_5_code
def yX4_sizeOf : MethodName := ⟨RX4, "sizeOf", "(I)I"⟩
abbrev cX4_signAt : ByteArray := prog_6_method_6_code
def yX4_signAt : MethodName := ⟨RX4, "signAt", "(II)I"⟩
abbrev cX4_begins : ByteArray := prog_6_method_7_code
def yX4_begins : MethodName := ⟨RX4, "begins", "()V"⟩
abbrev cX4_puts : ByteArray := prog_6_method_8_code
def yX4_puts : MethodName := ⟨RX4, "puts", "(I)V"⟩
abbrev cX4_putsPart : ByteArray := prog_6_method_9_code
def yX4_putsPart : MethodName := ⟨RX4, "putsPart", "(III)V"⟩
abbrev cX4_lays : ByteArray := prog_6_method_10_code
def yX4_lays : MethodName := ⟨RX4, "lays", "(I)I"⟩
abbrev cX4_wipe : ByteArray := prog_6_method_11_code
def yX4_wipe : MethodName := ⟨RX4, "wipe", "(I)I"⟩
abbrev cX4_type : ByteArray := prog_6_method_12_code
def yX4_type : MethodName := ⟨RX4, "type", "(II)I"⟩
abbrev cX4_feed : ByteArray := prog_6_method_13_code
def yX4_feed : MethodName := ⟨RX4, "feed", "(IJI)I"⟩
abbrev cX4_copy : ByteArray := prog_6_method_14_code
def yX4_copy : MethodName := ⟨RX4, "copy", "(II)I"⟩
abbrev cX4_swap : ByteArray := prog_6_method_15_code
def yX4_swap : MethodName := ⟨RX4, "swap", "(II)I"⟩
abbrev cX4_concat : ByteArray := prog_6_method_16_code
def yX4_concat : MethodName := ⟨RX4, "concat", "(III)I"⟩
abbrev cX4_substring : ByteArray := prog_6_method_17_code
def yX4_substring : MethodName := ⟨RX4, "substring", "(IIII)I"⟩
abbrev cX4_tail : ByteArray := prog_6_method_18_code
def yX4_tail : MethodName := ⟨RX4, "tail", "(III)I"⟩
abbrev cX4_number : ByteArray := prog_6_method_19_code
def yX4_number : MethodName := ⟨RX4, "number", "(II)I"⟩
abbrev cX4_big : ByteArray := prog_6_method_20_code
def yX4_big : MethodName := ⟨RX4, "big", "(JI)I"⟩
abbrev cX4_length : ByteArray := prog_6_method_21_code
def yX4_length : MethodName := ⟨RX4, "length", "(I)I"⟩
abbrev cX4_isEmpty : ByteArray := prog_6_method_22_code
def yX4_isEmpty : MethodName := ⟨RX4, "isEmpty", "(I)Z"⟩
abbrev cX4_isBlankSign : ByteArray := prog_6_method_23_code
def yX4_isBlankSign : MethodName := ⟨RX4, "isBlankSign", "(I)Z"⟩
abbrev cX4_isBlank : ByteArray := prog_6_method_24_code
def yX4_isBlank : MethodName := ⟨RX4, "isBlank", "(I)Z"⟩
abbrev cX4_charAt : ByteArray := prog_6_method_25_code
def yX4_charAt : MethodName := ⟨RX4, "charAt", "(II)I"⟩
abbrev cX4_hash : ByteArray := prog_6_method_26_code
def yX4_hash : MethodName := ⟨RX4, "hash", "(I)I"⟩
abbrev cX4_first : ByteArray := prog_6_method_27_code
def yX4_first : MethodName := ⟨RX4, "first", "(II)I"⟩
abbrev cX4_firstFrom : ByteArray := prog_6_method_28_code
def yX4_firstFrom : MethodName := ⟨RX4, "firstFrom", "(III)I"⟩
abbrev cX4_last : ByteArray := prog_6_method_29_code
def yX4_last : MethodName := ⟨RX4, "last", "(II)I"⟩
abbrev cX4_lastFrom : ByteArray := prog_6_method_30_code
def yX4_lastFrom : MethodName := ⟨RX4, "lastFrom", "(III)I"⟩
abbrev cX4_stands : ByteArray := prog_6_method_31_code
def yX4_stands : MethodName := ⟨RX4, "stands", "(III)Z"⟩
abbrev cX4_find : ByteArray := prog_6_method_32_code
def yX4_find : MethodName := ⟨RX4, "find", "(II)I"⟩
abbrev cX4_findFrom : ByteArray := prog_6_method_33_code
def yX4_findFrom : MethodName := ⟨RX4, "findFrom", "(III)I"⟩
abbrev cX4_findLast : ByteArray := prog_6_method_34_code
def yX4_findLast : MethodName := ⟨RX4, "findLast", "(II)I"⟩
abbrev cX4_findLastFrom : ByteArray := prog_6_method_35_code
def yX4_findLastFrom : MethodName := ⟨RX4, "findLastFrom", "(III)I"⟩
abbrev cX4_contains : ByteArray := prog_6_method_36_code
def yX4_contains : MethodName := ⟨RX4, "contains", "(II)Z"⟩
abbrev cX4_starts : ByteArray := prog_6_method_37_code
def yX4_starts : MethodName := ⟨RX4, "starts", "(II)Z"⟩
abbrev cX4_startsAt : ByteArray := prog_6_method_38_code
def yX4_startsAt : MethodName := ⟨RX4, "startsAt", "(III)Z"⟩
abbrev cX4_ends : ByteArray := prog_6_method_39_code
def yX4_ends : MethodName := ⟨RX4, "ends", "(II)Z"⟩
abbrev cX4_small : ByteArray := prog_6_method_40_code
def yX4_small : MethodName := ⟨RX4, "small", "(I)I"⟩
abbrev cX4_isRegion : ByteArray := prog_6_method_41_code
def yX4_isRegion : MethodName := ⟨RX4, "isRegion", "(IIIIIZ)Z"⟩
abbrev cX4_region : ByteArray := prog_6_method_42_code
def yX4_region : MethodName := ⟨RX4, "region", "(IIIII)Z"⟩
abbrev cX4_regionAlike : ByteArray := prog_6_method_43_code
def yX4_regionAlike : MethodName := ⟨RX4, "regionAlike", "(IIIII)Z"⟩
abbrev cX4_same : ByteArray := prog_6_method_44_code
def yX4_same : MethodName := ⟨RX4, "same", "(II)Z"⟩
abbrev cX4_alike : ByteArray := prog_6_method_45_code
def yX4_alike : MethodName := ⟨RX4, "alike", "(II)Z"⟩
abbrev cX4_order : ByteArray := prog_6_method_46_code
def yX4_order : MethodName := ⟨RX4, "order", "(IIZ)I"⟩
abbrev cX4_compare : ByteArray := prog_6_method_47_code
def yX4_compare : MethodName := ⟨RX4, "compare", "(II)I"⟩
abbrev cX4_compareAlike : ByteArray := prog_6_method_48_code
def yX4_compareAlike : MethodName := ⟨RX4, "compareAlike", "(II)I"⟩
abbrev cX4_replaceSign : ByteArray := prog_6_method_49_code
def yX4_replaceSign : MethodName := ⟨RX4, "replaceSign", "(IIII)I"⟩
abbrev cX4_replaceText : ByteArray := prog_6_method_50_code
def yX4_replaceText : MethodName := ⟨RX4, "replaceText", "(IIII)I"⟩
abbrev cX4_strips : ByteArray := prog_6_method_51_code
def yX4_strips : MethodName := ⟨RX4, "strips", "(IZI)I"⟩
abbrev cX4_trim : ByteArray := prog_6_method_52_code
def yX4_trim : MethodName := ⟨RX4, "trim", "(II)I"⟩
abbrev cX4_strip : ByteArray := prog_6_method_53_code
def yX4_strip : MethodName := ⟨RX4, "strip", "(II)I"⟩
abbrev cX4_repeat : ByteArray := prog_6_method_54_code
def yX4_repeat : MethodName := ⟨RX4, "repeat", "(III)I"⟩
abbrev cX4_turn : ByteArray := prog_6_method_55_code
def yX4_turn : MethodName := ⟨RX4, "turn", "(II)I"⟩
abbrev cX4_isSpecial : ByteArray := prog_6_method_56_code
def yX4_isSpecial : MethodName := ⟨RX4, "isSpecial", "(I)Z"⟩
abbrev cX4_addPiece : ByteArray := prog_6_method_57_code
def yX4_addPiece : MethodName := ⟨RX4, "addPiece", "(II)V"⟩
abbrev cX4_part : ByteArray := prog_6_method_58_code
def yX4_part : MethodName := ⟨RX4, "part", "(III)I"⟩
abbrev cX4_pieces : ByteArray := prog_6_method_59_code
def yX4_pieces : MethodName := ⟨RX4, "pieces", "()I"⟩
abbrev cX4_putsPiece : ByteArray := prog_6_method_60_code
def yX4_putsPiece : MethodName := ⟨RX4, "putsPiece", "(I)V"⟩
abbrev cX4_piece : ByteArray := prog_6_method_61_code
def yX4_piece : MethodName := ⟨RX4, "piece", "(II)I"⟩
abbrev cX4_join : ByteArray := prog_6_method_62_code
def yX4_join : MethodName := ⟨RX4, "join", "(II)I"⟩
abbrev cX4_finds : ByteArray := prog_6_method_63_code
def yX4_finds : MethodName := ⟨RX4, "finds", "(II)I"⟩
abbrev cX4_count : ByteArray := prog_6_method_64_code
def yX4_count : MethodName := ⟨RX4, "count", "(II)I"⟩
abbrev cX4_head : ByteArray := prog_6_method_65_code
def yX4_head : MethodName := ⟨RX4, "head", "(II)I"⟩
abbrev cX4_foot : ByteArray := prog_6_method_66_code
def yX4_foot : MethodName := ⟨RX4, "foot", "(II)I"⟩
abbrev cX4_arePlacesSo : ByteArray := prog_6_method_67_code
def yX4_arePlacesSo : MethodName := ⟨RX4, "arePlacesSo", "(III)Z"⟩
abbrev cX4_isOrderSo : ByteArray := prog_6_method_68_code
def yX4_isOrderSo : MethodName := ⟨RX4, "isOrderSo", "(II)Z"⟩
abbrev cX4_areFindsSo : ByteArray := prog_6_method_69_code
def yX4_areFindsSo : MethodName := ⟨RX4, "areFindsSo", "(II)Z"⟩
abbrev cX4_arePiecesSo : ByteArray := prog_6_method_70_code
def yX4_arePiecesSo : MethodName := ⟨RX4, "arePiecesSo", "(I)Z"⟩
abbrev cX4_holds : ByteArray := prog_6_method_71_code
def yX4_holds : MethodName := ⟨RX4, "holds", "(III)Z"⟩
abbrev cX4_allSigns : ByteArray := prog_6_method_72_code
def yX4_allSigns : MethodName := ⟨RX4, "allSigns", "()I"⟩
abbrev cX4_moves : ByteArray := prog_6_method_73_code
def yX4_moves : MethodName := ⟨RX4, "moves", "([II[III)V"⟩
abbrev cX4_keep : ByteArray := prog_6_method_74_code
def yX4_keep : MethodName := ⟨RX4, "keep", "(I)I"⟩
abbrev cX4_back : ByteArray := prog_6_method_75_code
def yX4_back : MethodName := ⟨RX4, "back", "(I)I"⟩
abbrev cX4_digest : ByteArray := prog_6_method_76_code
def yX4_digest : MethodName := ⟨RX4, "digest", "()J"⟩
def RJ11 : String := "java/lang/Character"
def TJ11 : u_T := fun k => match k with
  | _ => ("", "", "", false)
def tyJ11 : Nat → FieldType := fun k => match k with
  | _ => .int
abbrev cJ11_isValidCodePoint_9a6ad : ByteArray := prog_7_method_11_code
def yJ11_isValidCodePoint_9a6ad : MethodName := ⟨RJ11, "isValidCodePoint", "(I)Z"⟩
abbrev cJ11_highSurrogate_5068e : ByteArray := prog_7_method_28_code
def yJ11_highSurrogate_5068e : MethodName := ⟨RJ11, "highSurrogate", "(I)C"⟩
abbrev cJ11_lowSurrogate_5068e : ByteArray := prog_7_method_29_code
def yJ11_lowSurrogate_5068e : MethodName := ⟨RJ11, "lowSurrogate", "(I)C"⟩
def RJ6 : String := "java/lang/Integer"
def TJ6 : u_T := fun k => match k with
  | _ => ("", "", "", false)
def tyJ6 : Nat → FieldType := fun k => match k with
  | _ => .int
abbrev cJ6_compare_7cf53 : ByteArray := prog_8_method_40_code
def yJ6_compare_7cf53 : MethodName := ⟨RJ6, "compare", "(II)I"⟩
def RJ9 : String := "java/lang/Math"
def TJ9 : u_T := fun k => match k with
  | _ => ("", "", "", false)
def tyJ9 : Nat → FieldType := fun k => match k with
  | _ => .int
abbrev cJ9_floorMod_7cf53 : ByteArray := prog_9_method_50_code
def yJ9_floorMod_7cf53 : MethodName := ⟨RJ9, "floorMod", "(II)I"⟩
abbrev cJ9_abs_067f4 : ByteArray := prog_9_method_61_code
def yJ9_abs_067f4 : MethodName := ⟨RJ9, "abs", "(J)J"⟩
abbrev cJ9_max_7cf53 : ByteArray := prog_9_method_65_code
def yJ9_max_7cf53 : MethodName := ⟨RJ9, "max", "(II)I"⟩
abbrev cJ9_min_7cf53 : ByteArray := prog_9_method_69_code
def yJ9_min_7cf53 : MethodName := ⟨RJ9, "min", "(II)I"⟩
def RJ0 : String := "java/lang/String"
def TJ0 : u_T := fun k => match k with
  | _ => ("", "", "", false)
def tyJ0 : Nat → FieldType := fun k => match k with
  | _ => .int
abbrev cJ0_length_8abf5 : ByteArray := prog_10_method_54_code
def yJ0_length_8abf5 : MethodName := ⟨RJ0, "length", "()I"⟩
abbrev cJ0_indexOf_0f7a4 : ByteArray := prog_10_method_79_code
def yJ0_indexOf_0f7a4 : MethodName := ⟨RJ0, "indexOf", "(I)I"⟩
abbrev cJ0_indexOf_7cf53 : ByteArray := prog_10_method_80_code
def yJ0_indexOf_7cf53 : MethodName := ⟨RJ0, "indexOf", "(II)I"⟩
abbrev cJ0_coder_7d493 : ByteArray := prog_10_method_152_code
def yJ0_coder_7d493 : MethodName := ⟨RJ0, "coder", "()B"⟩
abbrev cJ0_isLatin1_aae02 : ByteArray := prog_10_method_154_code
def yJ0_isLatin1_aae02 : MethodName := ⟨RJ0, "isLatin1", "()Z"⟩
abbrev cJ0_checkBoundsBeginEnd_23922 : ByteArray := prog_10_method_158_code
def yJ0_checkBoundsBeginEnd_23922 : MethodName := ⟨RJ0, "checkBoundsBeginEnd", "(III)V"⟩
def RJ1 : String := "java/lang/StringLatin1"
def TJ1 : u_T := fun k => match k with
  | _ => ("", "", "", false)
def tyJ1 : Nat → FieldType := fun k => match k with
  | _ => .int
abbrev cJ1_canEncode_9a6ad : ByteArray := prog_11_method_4_code
def yJ1_canEncode_9a6ad : MethodName := ⟨RJ1, "canEncode", "(I)Z"⟩
abbrev cJ1_indexOf_4cfef : ByteArray := prog_11_method_22_code
def yJ1_indexOf_4cfef : MethodName := ⟨RJ1, "indexOf", "([BIII)I"⟩
abbrev cJ1_indexOfChar_4cfef : ByteArray := prog_11_method_23_code
def yJ1_indexOfChar_4cfef : MethodName := ⟨RJ1, "indexOfChar", "([BIII)I"⟩
def RJ2 : String := "java/lang/StringUTF16"
def TJ2 : u_T := fun k => match k with
  | _ => ("", "", "", false)
def tyJ2 : Nat → FieldType := fun k => match k with
  | _ => .int
abbrev cJ2_getChar_3b067 : ByteArray := prog_12_method_5_code
def yJ2_getChar_3b067 : MethodName := ⟨RJ2, "getChar", "([BI)C"⟩
abbrev cJ2_length_9d52b : ByteArray := prog_12_method_6_code
def yJ2_length_9d52b : MethodName := ⟨RJ2, "length", "([B)I"⟩
abbrev cJ2_indexOf_4cfef : ByteArray := prog_12_method_40_code
def yJ2_indexOf_4cfef : MethodName := ⟨RJ2, "indexOf", "([BIII)I"⟩
abbrev cJ2_indexOfChar_4cfef : ByteArray := prog_12_method_47_code
def yJ2_indexOfChar_4cfef : MethodName := ⟨RJ2, "indexOfChar", "([BIII)I"⟩
abbrev cJ2_indexOfCharUnsafe_4cfef : ByteArray := prog_12_method_48_code
def yJ2_indexOfCharUnsafe_4cfef : MethodName := ⟨RJ2, "indexOfCharUnsafe", "([BIII)I"⟩
abbrev cJ2_indexOfSupplementary_4cfef : ByteArray := prog_12_method_49_code
def yJ2_indexOfSupplementary_4cfef : MethodName := ⟨RJ2, "indexOfSupplementary", "([BIII)I"⟩
abbrev cJ2_checkBoundsBeginEnd_d044e : ByteArray := prog_12_method_93_code
def yJ2_checkBoundsBeginEnd_d044e : MethodName := ⟨RJ2, "checkBoundsBeginEnd", "(II[B)V"⟩
def RJ3 : String := "jdk/internal/util/Preconditions"
def TJ3 : u_T := fun k => match k with
  | _ => ("", "", "", false)
def tyJ3 : Nat → FieldType := fun k => match k with
  | _ => .int
abbrev cJ3_checkFromToIndex_8c36e : ByteArray := prog_13_method_12_code
def yJ3_checkFromToIndex_8c36e : MethodName := ⟨RJ3, "checkFromToIndex", "(IIILjava/util/function/BiFunction;)I"⟩
def RL : String := "TextShelvesLaw"
abbrev cL_law : ByteArray := code
def yL_law : MethodName := ⟨RL, "law", "([I)Z"⟩
abbrev vwCl : List vw_C := [(RX0, TX0, 2), (RX1, TX1, 3), (RX2, TX2, 2), (RX3, TX3, 5), (RX4, TX4, 14)]
end
section
/-! the tables' words that may be handed on, and each of them by its place -/
def AW : List Cond := lw_tbl.filter goodWord
theorem aw_t {w : Cond} (i : Nat) (h : tables_1[i]? = some w) (hg : goodWord w = true) : w ∈ AW := List.mem_filter.mpr ⟨List.mem_append_right _ (List.mem_of_getElem? h), hg⟩
theorem aw_s {w : Cond} (i : Nat) (h : (k2_sels lw_privs)[i]? = some w) (hg : goodWord w = true) : w ∈ AW := List.mem_filter.mpr ⟨List.mem_append_left _ (List.mem_of_getElem? h), hg⟩
theorem aw_good {w : Cond} (h : w ∈ AW) : w ∈ AW ∧ ((w.onTables && w.keeps) = true ∨ ∃ ty, w = .arrayClass ty) := ⟨h, good_of_word (List.mem_filter.mp h).2⟩
theorem aw_tbl {w : Cond} (h : w ∈ AW) : w ∈ lw_tbl := (List.mem_filter.mp h).1
theorem gi_aw {ws : List Cond} (h : ∀ w ∈ ws, w ∈ AW) : GoodIn AW ws := fun w hw => aw_good (h w hw)
theorem aw_cons {c : Cond} (hc : c ∈ AW) : ∀ w ∈ c :: AW, w ∈ AW := fun w hw => by
  rcases List.mem_cons.mp hw with rfl | h
  · exact hc
  · exact h
def MWv (y : MethodName) (C : String) (bytes : ByteArray) (maxL : Nat) (rt : Option FieldType) (nn : Nat) : Prop := Cond.instanceMethod y ∈ AW ∧ Cond.selects C y y ∈ AW ∧ Cond.initialized C ∈ AW ∧ Cond.code y bytes maxL rt ∈ AW ∧ y.cls = C ∧ y.cls ≠ "java/lang/invoke/MethodHandle" ∧ y.cls ≠ "java/lang/invoke/VarHandle" ∧ (parseMethodDescriptor y.desc).map (fun d => d.parameters.length) = some nn
def MWs (y : MethodName) (bytes : ByteArray) (maxL : Nat) (rt : Option FieldType) (nn : Nat) : Prop := Cond.static y ∈ AW ∧ Cond.initialized y.cls ∈ AW ∧ Cond.code y bytes maxL rt ∈ AW ∧ y.cls ≠ "java/lang/invoke/MethodHandle" ∧ y.cls ≠ "java/lang/invoke/VarHandle" ∧ (parseMethodDescriptor y.desc).map (fun d => d.parameters.length) = some nn
def MWi (y : MethodName) (bytes : ByteArray) (maxL : Nat) (nn : Nat) : Prop := Cond.instanceMethod y ∈ AW ∧ Cond.initialized y.cls ∈ AW ∧ Cond.code y bytes maxL none ∈ AW ∧ y.name = "<init>" ∧ y.cls ≠ "java/lang/invoke/MethodHandle" ∧ y.cls ≠ "java/lang/invoke/VarHandle" ∧ (parseMethodDescriptor y.desc).map (fun d => d.parameters.length) = some nn
theorem a_n_L : Cond.initialized RL ∈ AW := aw_t 0 (by decide +kernel) rfl
theorem a_n_X3 : Cond.initialized RX3 ∈ AW := aw_t 1 (by decide +kernel) rfl
theorem a_n_X0 : Cond.initialized RX0 ∈ AW := aw_t 2 (by decide +kernel) rfl
theorem a_n_X2 : Cond.initialized RX2 ∈ AW := aw_t 3 (by decide +kernel) rfl
theorem a_n_J9 : Cond.initialized RJ9 ∈ AW := aw_t 4 (by decide +kernel) rfl
theorem a_n_X1 : Cond.initialized RX1 ∈ AW := aw_t 5 (by decide +kernel) rfl
theorem a_n_X4 : Cond.initialized RX4 ∈ AW := aw_t 6 (by decide +kernel) rfl
theorem a_n_J6 : Cond.initialized RJ6 ∈ AW := aw_t 7 (by decide +kernel) rfl
theorem a_n_J0 : Cond.initialized RJ0 ∈ AW := aw_t 8 (by decide +kernel) rfl
theorem a_n_J1 : Cond.initialized RJ1 ∈ AW := aw_t 9 (by decide +kernel) rfl
theorem a_n_J2 : Cond.initialized RJ2 ∈ AW := aw_t 10 (by decide +kernel) rfl
theorem a_n_J3 : Cond.initialized RJ3 ∈ AW := aw_t 11 (by decide +kernel) rfl
theorem a_n_J11 : Cond.initialized RJ11 ∈ AW := aw_t 12 (by decide +kernel) rfl
theorem a_x_L_7 : Cond.classLink RL 7 RX3 ∈ AW := aw_t 13 (by decide +kernel) rfl
theorem a_m_X3 : Cond.instantiable RX3 5 ∈ AW := aw_t 14 (by decide +kernel) rfl
theorem a_l_L_9 : Cond.methodLink RL 9 yX3_init ∈ AW := aw_t 15 (by decide +kernel) rfl
theorem a_i_X3_init : Cond.instanceMethod yX3_init ∈ AW := aw_t 16 (by decide +kernel) rfl
theorem a_c_X3_init : Cond.code yX3_init cX3_init 2 none ∈ AW := aw_t 17 (by decide +kernel) rfl
theorem a_l_X3_1 : Cond.methodLink RX3 1 objectInit ∈ AW := aw_t 18 (by decide +kernel) rfl
theorem a_i_object : Cond.instanceMethod objectInit ∈ AW := aw_t 19 (by decide +kernel) rfl
theorem a_c_object : Cond.code objectInit ⟨#[0xb1]⟩ 1 none ∈ AW := aw_t 20 (by decide +kernel) rfl
theorem a_x_X3_7 : Cond.classLink RX3 7 RX0 ∈ AW := aw_t 21 (by decide +kernel) rfl
theorem a_m_X0 : Cond.instantiable RX0 2 ∈ AW := aw_t 22 (by decide +kernel) rfl
theorem a_l_X3_9 : Cond.methodLink RX3 9 yX0_init ∈ AW := aw_t 23 (by decide +kernel) rfl
theorem a_i_X0_init : Cond.instanceMethod yX0_init ∈ AW := aw_t 24 (by decide +kernel) rfl
theorem a_c_X0_init : Cond.code yX0_init cX0_init 2 none ∈ AW := aw_t 25 (by decide +kernel) rfl
theorem a_l_X0_3 : Cond.methodLink RX0 3 objectInit ∈ AW := aw_t 26 (by decide +kernel) rfl
theorem a_x_X0_9 : Cond.classLink RX0 9 RX2 ∈ AW := aw_t 27 (by decide +kernel) rfl
theorem a_m_X2 : Cond.instantiable RX2 2 ∈ AW := aw_t 29 (by decide +kernel) rfl
theorem a_l_X0_17 : Cond.methodLink RX0 17 yX2_init ∈ AW := aw_t 30 (by decide +kernel) rfl
theorem a_i_X2_init : Cond.instanceMethod yX2_init ∈ AW := aw_t 31 (by decide +kernel) rfl
theorem a_c_X2_init : Cond.code yX2_init cX2_init 2 none ∈ AW := aw_t 32 (by decide +kernel) rfl
theorem a_l_X2_3 : Cond.methodLink RX2 3 objectInit ∈ AW := aw_t 33 (by decide +kernel) rfl
theorem a_l_X2_9 : Cond.methodLink RX2 9 yJ9_max_7cf53 ∈ AW := aw_t 34 (by decide +kernel) rfl
theorem a_t_J9_max_7cf53 : Cond.static yJ9_max_7cf53 ∈ AW := aw_t 35 (by decide +kernel) rfl
theorem a_c_J9_max_7cf53 : Cond.code yJ9_max_7cf53 cJ9_max_7cf53 2 (some .int) ∈ AW := aw_t 36 (by decide +kernel) rfl
theorem a_f_X2_15 : Cond.fieldLink RX2 15 "TextShelves$Text" "signs" "[I" ∈ AW := aw_t 37 (by decide +kernel) rfl
theorem a_f_X2_21 : Cond.fieldLink RX2 21 "TextShelves$Text" "size" "I" ∈ AW := aw_t 38 (by decide +kernel) rfl
theorem a_x_X0_20 : Cond.classLink RX0 20 RX1 ∈ AW := aw_t 45 (by decide +kernel) rfl
theorem a_m_X1 : Cond.instantiable RX1 3 ∈ AW := aw_t 46 (by decide +kernel) rfl
theorem a_l_X0_22 : Cond.methodLink RX0 22 yX1_init ∈ AW := aw_t 47 (by decide +kernel) rfl
theorem a_i_X1_init : Cond.instanceMethod yX1_init ∈ AW := aw_t 48 (by decide +kernel) rfl
theorem a_c_X1_init : Cond.code yX1_init cX1_init 1 none ∈ AW := aw_t 49 (by decide +kernel) rfl
theorem a_l_X1_3 : Cond.methodLink RX1 3 objectInit ∈ AW := aw_t 50 (by decide +kernel) rfl
theorem a_x_X1_9 : Cond.classLink RX1 9 RX2 ∈ AW := aw_t 51 (by decide +kernel) rfl
theorem a_l_X1_11 : Cond.methodLink RX1 11 yX2_init ∈ AW := aw_t 52 (by decide +kernel) rfl
theorem a_f_X1_14 : Cond.fieldLink RX1 14 "TextShelves$Pieces" "all" "LTextShelves$Text;" ∈ AW := aw_t 53 (by decide +kernel) rfl
theorem a_f_X1_20 : Cond.fieldLink RX1 20 "TextShelves$Pieces" "ends" "[I" ∈ AW := aw_t 54 (by decide +kernel) rfl
theorem a_f_X1_24 : Cond.fieldLink RX1 24 "TextShelves$Pieces" "size" "I" ∈ AW := aw_t 55 (by decide +kernel) rfl
theorem a_f_X0_11 : Cond.fieldLink RX0 11 "TextShelves$Image" "texts" "[LTextShelves$Text;" ∈ AW := aw_t 63 (by decide +kernel) rfl
theorem a_f_X0_23 : Cond.fieldLink RX0 23 "TextShelves$Image" "parts" "LTextShelves$Pieces;" ∈ AW := aw_t 64 (by decide +kernel) rfl
theorem a_x_X3_20 : Cond.classLink RX3 20 RX2 ∈ AW := aw_t 72 (by decide +kernel) rfl
theorem a_l_X3_22 : Cond.methodLink RX3 22 yX2_init ∈ AW := aw_t 73 (by decide +kernel) rfl
theorem a_x_X3_32 : Cond.classLink RX3 32 RX1 ∈ AW := aw_t 74 (by decide +kernel) rfl
theorem a_l_X3_34 : Cond.methodLink RX3 34 yX1_init ∈ AW := aw_t 75 (by decide +kernel) rfl
theorem a_f_X3_10 : Cond.fieldLink RX3 10 "TextShelves" "now" "LTextShelves$Image;" ∈ AW := aw_t 76 (by decide +kernel) rfl
theorem a_f_X3_16 : Cond.fieldLink RX3 16 "TextShelves" "kept" "[LTextShelves$Image;" ∈ AW := aw_t 77 (by decide +kernel) rfl
theorem a_f_X3_25 : Cond.fieldLink RX3 25 "TextShelves" "made" "LTextShelves$Text;" ∈ AW := aw_t 78 (by decide +kernel) rfl
theorem a_f_X3_29 : Cond.fieldLink RX3 29 "TextShelves" "twice" "LTextShelves$Text;" ∈ AW := aw_t 79 (by decide +kernel) rfl
theorem a_f_X3_35 : Cond.fieldLink RX3 35 "TextShelves" "trial" "LTextShelves$Pieces;" ∈ AW := aw_t 80 (by decide +kernel) rfl
theorem a_l_L_13 : Cond.methodLink RL 13 yX3_wipe ∈ AW := aw_t 92 (by decide +kernel) rfl
theorem a_i_X3_wipe : Cond.instanceMethod yX3_wipe ∈ AW := aw_t 93 (by decide +kernel) rfl
theorem a_s_X3_wipe : Cond.selects RX3 yX3_wipe yX3_wipe ∈ AW := aw_t 94 (by decide +kernel) rfl
theorem a_c_X3_wipe : Cond.code yX3_wipe cX3_wipe 4 (some .int) ∈ AW := aw_t 95 (by decide +kernel) rfl
theorem a_l_X3_39 : Cond.methodLink RX3 39 yX0_text ∈ AW := aw_t 96 (by decide +kernel) rfl
theorem a_i_X0_text : Cond.instanceMethod yX0_text ∈ AW := aw_t 97 (by decide +kernel) rfl
theorem a_s_X0_text : Cond.selects RX0 yX0_text yX0_text ∈ AW := aw_t 98 (by decide +kernel) rfl
theorem a_c_X0_text : Cond.code yX0_text cX0_text 2 (some (.object "TextShelves$Text")) ∈ AW := aw_t 99 (by decide +kernel) rfl
theorem a_l_X0_27 : Cond.methodLink RX0 27 yJ9_floorMod_7cf53 ∈ AW := aw_t 100 (by decide +kernel) rfl
theorem a_t_J9_floorMod_7cf53 : Cond.static yJ9_floorMod_7cf53 ∈ AW := aw_t 101 (by decide +kernel) rfl
theorem a_c_J9_floorMod_7cf53 : Cond.code yJ9_floorMod_7cf53 cJ9_floorMod_7cf53 3 (some .int) ∈ AW := aw_t 102 (by decide +kernel) rfl
theorem a_l_X3_43 : Cond.methodLink RX3 43 yX2_size ∈ AW := aw_t 103 (by decide +kernel) rfl
theorem a_i_X2_size : Cond.instanceMethod yX2_size ∈ AW := aw_t 104 (by decide +kernel) rfl
theorem a_s_X2_size : Cond.selects RX2 yX2_size yX2_size ∈ AW := aw_t 105 (by decide +kernel) rfl
theorem a_c_X2_size : Cond.code yX2_size cX2_size 1 (some .int) ∈ AW := aw_t 106 (by decide +kernel) rfl
theorem a_l_X3_47 : Cond.methodLink RX3 47 yX2_clear ∈ AW := aw_t 107 (by decide +kernel) rfl
theorem a_i_X2_clear : Cond.instanceMethod yX2_clear ∈ AW := aw_t 108 (by decide +kernel) rfl
theorem a_s_X2_clear : Cond.selects RX2 yX2_clear yX2_clear ∈ AW := aw_t 109 (by decide +kernel) rfl
theorem a_c_X2_clear : Cond.code yX2_clear cX2_clear 1 none ∈ AW := aw_t 110 (by decide +kernel) rfl
theorem a_l_L_18 : Cond.methodLink RL 18 yX3_type ∈ AW := aw_t 111 (by decide +kernel) rfl
theorem a_i_X3_type : Cond.instanceMethod yX3_type ∈ AW := aw_t 112 (by decide +kernel) rfl
theorem a_s_X3_type : Cond.selects RX3 yX3_type yX3_type ∈ AW := aw_t 113 (by decide +kernel) rfl
theorem a_c_X3_type : Cond.code yX3_type cX3_type 4 (some .int) ∈ AW := aw_t 114 (by decide +kernel) rfl
theorem a_l_X3_50 : Cond.methodLink RX3 50 yX3_isSign ∈ AW := aw_t 115 (by decide +kernel) rfl
theorem a_t_X3_isSign : Cond.static yX3_isSign ∈ AW := aw_t 116 (by decide +kernel) rfl
theorem a_c_X3_isSign : Cond.code yX3_isSign cX3_isSign 1 (some .boolean) ∈ AW := aw_t 117 (by decide +kernel) rfl
theorem a_k_X3_54 : Cond.constant RX3 54 (-1000001) ∈ AW := aw_t 118 (by decide +kernel) rfl
theorem a_k_X3_55 : Cond.constant RX3 55 (-1000004) ∈ AW := aw_t 119 (by decide +kernel) rfl
theorem a_l_X3_56 : Cond.methodLink RX3 56 yX2_add ∈ AW := aw_t 120 (by decide +kernel) rfl
theorem a_i_X2_add : Cond.instanceMethod yX2_add ∈ AW := aw_t 121 (by decide +kernel) rfl
theorem a_s_X2_add : Cond.selects RX2 yX2_add yX2_add ∈ AW := aw_t 122 (by decide +kernel) rfl
theorem a_c_X2_add : Cond.code yX2_add cX2_add 2 none ∈ AW := aw_t 123 (by decide +kernel) rfl
theorem a_l_L_25 : Cond.methodLink RL 25 yX3_feed ∈ AW := aw_t 124 (by decide +kernel) rfl
theorem a_i_X3_feed : Cond.instanceMethod yX3_feed ∈ AW := aw_t 125 (by decide +kernel) rfl
theorem a_s_X3_feed : Cond.selects RX3 yX3_feed yX3_feed ∈ AW := aw_t 126 (by decide +kernel) rfl
theorem a_c_X3_feed : Cond.code yX3_feed cX3_feed 7 (some .int) ∈ AW := aw_t 127 (by decide +kernel) rfl
theorem a_l_X3_59 : Cond.methodLink RX3 59 yX3_areSigns ∈ AW := aw_t 128 (by decide +kernel) rfl
theorem a_t_X3_areSigns : Cond.static yX3_areSigns ∈ AW := aw_t 129 (by decide +kernel) rfl
theorem a_c_X3_areSigns : Cond.code yX3_areSigns cX3_areSigns 4 (some .boolean) ∈ AW := aw_t 130 (by decide +kernel) rfl
theorem a_l_X3_63 : Cond.methodLink RX3 63 yX3_byteOf ∈ AW := aw_t 131 (by decide +kernel) rfl
theorem a_t_X3_byteOf : Cond.static yX3_byteOf ∈ AW := aw_t 132 (by decide +kernel) rfl
theorem a_c_X3_byteOf : Cond.code yX3_byteOf cX3_byteOf 3 (some .int) ∈ AW := aw_t 133 (by decide +kernel) rfl
theorem a_l_L_30 : Cond.methodLink RL 30 yX3_copy ∈ AW := aw_t 134 (by decide +kernel) rfl
theorem a_i_X3_copy : Cond.instanceMethod yX3_copy ∈ AW := aw_t 135 (by decide +kernel) rfl
theorem a_s_X3_copy : Cond.selects RX3 yX3_copy yX3_copy ∈ AW := aw_t 136 (by decide +kernel) rfl
theorem a_c_X3_copy : Cond.code yX3_copy cX3_copy 3 (some .int) ∈ AW := aw_t 137 (by decide +kernel) rfl
theorem a_l_X3_67 : Cond.methodLink RX3 67 yX2_become ∈ AW := aw_t 138 (by decide +kernel) rfl
theorem a_i_X2_become : Cond.instanceMethod yX2_become ∈ AW := aw_t 139 (by decide +kernel) rfl
theorem a_s_X2_become : Cond.selects RX2 yX2_become yX2_become ∈ AW := aw_t 140 (by decide +kernel) rfl
theorem a_c_X2_become : Cond.code yX2_become cX2_become 2 none ∈ AW := aw_t 141 (by decide +kernel) rfl
theorem a_l_X2_51 : Cond.methodLink RX2 51 yX2_clear ∈ AW := aw_t 142 (by decide +kernel) rfl
theorem a_l_X2_47 : Cond.methodLink RX2 47 yX2_addText ∈ AW := aw_t 143 (by decide +kernel) rfl
theorem a_i_X2_addText : Cond.instanceMethod yX2_addText ∈ AW := aw_t 144 (by decide +kernel) rfl
theorem a_s_X2_addText : Cond.selects RX2 yX2_addText yX2_addText ∈ AW := aw_t 145 (by decide +kernel) rfl
theorem a_c_X2_addText : Cond.code yX2_addText cX2_addText 2 none ∈ AW := aw_t 146 (by decide +kernel) rfl
theorem a_l_X2_33 : Cond.methodLink RX2 33 yX2_addSpan ∈ AW := aw_t 147 (by decide +kernel) rfl
theorem a_i_X2_addSpan : Cond.instanceMethod yX2_addSpan ∈ AW := aw_t 148 (by decide +kernel) rfl
theorem a_s_X2_addSpan : Cond.selects RX2 yX2_addSpan yX2_addSpan ∈ AW := aw_t 149 (by decide +kernel) rfl
theorem a_c_X2_addSpan : Cond.code yX2_addSpan cX2_addSpan 5 none ∈ AW := aw_t 150 (by decide +kernel) rfl
theorem a_l_X2_25 : Cond.methodLink RX2 25 yX2_at ∈ AW := aw_t 151 (by decide +kernel) rfl
theorem a_i_X2_at : Cond.instanceMethod yX2_at ∈ AW := aw_t 152 (by decide +kernel) rfl
theorem a_s_X2_at : Cond.selects RX2 yX2_at yX2_at ∈ AW := aw_t 153 (by decide +kernel) rfl
theorem a_c_X2_at : Cond.code yX2_at cX2_at 2 (some .int) ∈ AW := aw_t 154 (by decide +kernel) rfl
theorem a_l_X2_29 : Cond.methodLink RX2 29 yX2_add ∈ AW := aw_t 155 (by decide +kernel) rfl
theorem a_l_X3_71 : Cond.methodLink RX3 71 yX3_lay ∈ AW := aw_t 156 (by decide +kernel) rfl
theorem a_i_X3_lay : Cond.instanceMethod yX3_lay ∈ AW := aw_t 158 (by decide +kernel) rfl
theorem a_c_X3_lay : Cond.code yX3_lay cX3_lay 3 (some .int) ∈ AW := aw_t 159 (by decide +kernel) rfl
theorem a_l_L_34 : Cond.methodLink RL 34 yX3_swap ∈ AW := aw_t 160 (by decide +kernel) rfl
theorem a_i_X3_swap : Cond.instanceMethod yX3_swap ∈ AW := aw_t 161 (by decide +kernel) rfl
theorem a_s_X3_swap : Cond.selects RX3 yX3_swap yX3_swap ∈ AW := aw_t 162 (by decide +kernel) rfl
theorem a_c_X3_swap : Cond.code yX3_swap cX3_swap 3 (some .int) ∈ AW := aw_t 163 (by decide +kernel) rfl
theorem a_l_X3_75 : Cond.methodLink RX3 75 yX0_exchange ∈ AW := aw_t 164 (by decide +kernel) rfl
theorem a_i_X0_exchange : Cond.instanceMethod yX0_exchange ∈ AW := aw_t 165 (by decide +kernel) rfl
theorem a_s_X0_exchange : Cond.selects RX0 yX0_exchange yX0_exchange ∈ AW := aw_t 166 (by decide +kernel) rfl
theorem a_c_X0_exchange : Cond.code yX0_exchange cX0_exchange 4 none ∈ AW := aw_t 167 (by decide +kernel) rfl
theorem a_l_X0_33 : Cond.methodLink RX0 33 yX0_text ∈ AW := aw_t 168 (by decide +kernel) rfl
theorem a_l_L_38 : Cond.methodLink RL 38 yX3_concat ∈ AW := aw_t 169 (by decide +kernel) rfl
theorem a_i_X3_concat : Cond.instanceMethod yX3_concat ∈ AW := aw_t 170 (by decide +kernel) rfl
theorem a_s_X3_concat : Cond.selects RX3 yX3_concat yX3_concat ∈ AW := aw_t 171 (by decide +kernel) rfl
theorem a_c_X3_concat : Cond.code yX3_concat cX3_concat 6 (some .int) ∈ AW := aw_t 172 (by decide +kernel) rfl
theorem a_l_X3_79 : Cond.methodLink RX3 79 yX2_addText ∈ AW := aw_t 173 (by decide +kernel) rfl
theorem a_l_L_43 : Cond.methodLink RL 43 yX3_substring ∈ AW := aw_t 174 (by decide +kernel) rfl
theorem a_i_X3_substring : Cond.instanceMethod yX3_substring ∈ AW := aw_t 175 (by decide +kernel) rfl
theorem a_s_X3_substring : Cond.selects RX3 yX3_substring yX3_substring ∈ AW := aw_t 176 (by decide +kernel) rfl
theorem a_c_X3_substring : Cond.code yX3_substring cX3_substring 6 (some .int) ∈ AW := aw_t 177 (by decide +kernel) rfl
theorem a_k_X3_82 : Cond.constant RX3 82 (-1000002) ∈ AW := aw_t 178 (by decide +kernel) rfl
theorem a_l_X3_83 : Cond.methodLink RX3 83 yX2_addSpan ∈ AW := aw_t 179 (by decide +kernel) rfl
theorem a_l_L_48 : Cond.methodLink RL 48 yX3_tail ∈ AW := aw_t 180 (by decide +kernel) rfl
theorem a_i_X3_tail : Cond.instanceMethod yX3_tail ∈ AW := aw_t 181 (by decide +kernel) rfl
theorem a_s_X3_tail : Cond.selects RX3 yX3_tail yX3_tail ∈ AW := aw_t 182 (by decide +kernel) rfl
theorem a_c_X3_tail : Cond.code yX3_tail cX3_tail 4 (some .int) ∈ AW := aw_t 183 (by decide +kernel) rfl
theorem a_l_X3_87 : Cond.methodLink RX3 87 yX3_substring ∈ AW := aw_t 184 (by decide +kernel) rfl
theorem a_l_L_52 : Cond.methodLink RL 52 yX3_number ∈ AW := aw_t 185 (by decide +kernel) rfl
theorem a_i_X3_number : Cond.instanceMethod yX3_number ∈ AW := aw_t 186 (by decide +kernel) rfl
theorem a_s_X3_number : Cond.selects RX3 yX3_number yX3_number ∈ AW := aw_t 187 (by decide +kernel) rfl
theorem a_c_X3_number : Cond.code yX3_number cX3_number 3 (some .int) ∈ AW := aw_t 188 (by decide +kernel) rfl
theorem a_l_X3_91 : Cond.methodLink RX3 91 yX3_big ∈ AW := aw_t 189 (by decide +kernel) rfl
theorem a_i_X3_big : Cond.instanceMethod yX3_big ∈ AW := aw_t 190 (by decide +kernel) rfl
theorem a_s_X3_big : Cond.selects RX3 yX3_big yX3_big ∈ AW := aw_t 191 (by decide +kernel) rfl
theorem a_c_X3_big : Cond.code yX3_big cX3_big 4 (some .int) ∈ AW := aw_t 192 (by decide +kernel) rfl
theorem a_l_X3_94 : Cond.methodLink RX3 94 yX2_addDigitsFromLowest ∈ AW := aw_t 193 (by decide +kernel) rfl
theorem a_i_X2_addDigitsFromLowest : Cond.instanceMethod yX2_addDigitsFromLowest ∈ AW := aw_t 194 (by decide +kernel) rfl
theorem a_s_X2_addDigitsFromLowest : Cond.selects RX2 yX2_addDigitsFromLowest yX2_addDigitsFromLowest ∈ AW := aw_t 195 (by decide +kernel) rfl
theorem a_c_X2_addDigitsFromLowest : Cond.code yX2_addDigitsFromLowest cX2_addDigitsFromLowest 6 none ∈ AW := aw_t 196 (by decide +kernel) rfl
theorem a_k_X2_37 : Cond.constantLong RX2 37 (10) ∈ AW := aw_t 197 (by decide +kernel) rfl
theorem a_l_X2_39 : Cond.methodLink RX2 39 yJ9_abs_067f4 ∈ AW := aw_t 198 (by decide +kernel) rfl
theorem a_t_J9_abs_067f4 : Cond.static yJ9_abs_067f4 ∈ AW := aw_t 199 (by decide +kernel) rfl
theorem a_c_J9_abs_067f4 : Cond.code yJ9_abs_067f4 cJ9_abs_067f4 2 (some .long) ∈ AW := aw_t 200 (by decide +kernel) rfl
theorem a_l_X3_98 : Cond.methodLink RX3 98 yX2_addTurned ∈ AW := aw_t 201 (by decide +kernel) rfl
theorem a_i_X2_addTurned : Cond.instanceMethod yX2_addTurned ∈ AW := aw_t 202 (by decide +kernel) rfl
theorem a_s_X2_addTurned : Cond.selects RX2 yX2_addTurned yX2_addTurned ∈ AW := aw_t 203 (by decide +kernel) rfl
theorem a_c_X2_addTurned : Cond.code yX2_addTurned cX2_addTurned 3 none ∈ AW := aw_t 204 (by decide +kernel) rfl
theorem a_l_L_56 : Cond.methodLink RL 56 yX3_big ∈ AW := aw_t 205 (by decide +kernel) rfl
theorem a_l_L_61 : Cond.methodLink RL 61 yX3_length ∈ AW := aw_t 206 (by decide +kernel) rfl
theorem a_i_X3_length : Cond.instanceMethod yX3_length ∈ AW := aw_t 207 (by decide +kernel) rfl
theorem a_s_X3_length : Cond.selects RX3 yX3_length yX3_length ∈ AW := aw_t 208 (by decide +kernel) rfl
theorem a_c_X3_length : Cond.code yX3_length cX3_length 2 (some .int) ∈ AW := aw_t 209 (by decide +kernel) rfl
theorem a_l_L_65 : Cond.methodLink RL 65 yX3_isEmpty ∈ AW := aw_t 210 (by decide +kernel) rfl
theorem a_i_X3_isEmpty : Cond.instanceMethod yX3_isEmpty ∈ AW := aw_t 211 (by decide +kernel) rfl
theorem a_s_X3_isEmpty : Cond.selects RX3 yX3_isEmpty yX3_isEmpty ∈ AW := aw_t 212 (by decide +kernel) rfl
theorem a_c_X3_isEmpty : Cond.code yX3_isEmpty cX3_isEmpty 2 (some .boolean) ∈ AW := aw_t 213 (by decide +kernel) rfl
theorem a_l_L_70 : Cond.methodLink RL 70 yX3_isBlank ∈ AW := aw_t 214 (by decide +kernel) rfl
theorem a_i_X3_isBlank : Cond.instanceMethod yX3_isBlank ∈ AW := aw_t 215 (by decide +kernel) rfl
theorem a_s_X3_isBlank : Cond.selects RX3 yX3_isBlank yX3_isBlank ∈ AW := aw_t 216 (by decide +kernel) rfl
theorem a_c_X3_isBlank : Cond.code yX3_isBlank cX3_isBlank 3 (some .boolean) ∈ AW := aw_t 217 (by decide +kernel) rfl
theorem a_l_X3_101 : Cond.methodLink RX3 101 yX2_endOfFront ∈ AW := aw_t 218 (by decide +kernel) rfl
theorem a_i_X2_endOfFront : Cond.instanceMethod yX2_endOfFront ∈ AW := aw_t 219 (by decide +kernel) rfl
theorem a_s_X2_endOfFront : Cond.selects RX2 yX2_endOfFront yX2_endOfFront ∈ AW := aw_t 220 (by decide +kernel) rfl
theorem a_c_X2_endOfFront : Cond.code yX2_endOfFront cX2_endOfFront 3 (some .int) ∈ AW := aw_t 221 (by decide +kernel) rfl
theorem a_t_X3_isLoose : Cond.static yX3_isLoose ∈ AW := aw_t 223 (by decide +kernel) rfl
theorem a_c_X3_isLoose : Cond.code yX3_isLoose cX3_isLoose 2 (some .boolean) ∈ AW := aw_t 224 (by decide +kernel) rfl
theorem a_l_X3_273 : Cond.methodLink RX3 273 yX3_isBlankSign ∈ AW := aw_t 225 (by decide +kernel) rfl
theorem a_t_X3_isBlankSign : Cond.static yX3_isBlankSign ∈ AW := aw_t 226 (by decide +kernel) rfl
theorem a_c_X3_isBlankSign : Cond.code yX3_isBlankSign cX3_isBlankSign 1 (some .boolean) ∈ AW := aw_t 227 (by decide +kernel) rfl
theorem a_l_L_74 : Cond.methodLink RL 74 yX3_charAt ∈ AW := aw_t 228 (by decide +kernel) rfl
theorem a_i_X3_charAt : Cond.instanceMethod yX3_charAt ∈ AW := aw_t 229 (by decide +kernel) rfl
theorem a_s_X3_charAt : Cond.selects RX3 yX3_charAt yX3_charAt ∈ AW := aw_t 230 (by decide +kernel) rfl
theorem a_c_X3_charAt : Cond.code yX3_charAt cX3_charAt 4 (some .int) ∈ AW := aw_t 231 (by decide +kernel) rfl
theorem a_l_X3_105 : Cond.methodLink RX3 105 yX2_at ∈ AW := aw_t 232 (by decide +kernel) rfl
theorem a_l_L_78 : Cond.methodLink RL 78 yX3_hash ∈ AW := aw_t 233 (by decide +kernel) rfl
theorem a_i_X3_hash : Cond.instanceMethod yX3_hash ∈ AW := aw_t 234 (by decide +kernel) rfl
theorem a_s_X3_hash : Cond.selects RX3 yX3_hash yX3_hash ∈ AW := aw_t 235 (by decide +kernel) rfl
theorem a_c_X3_hash : Cond.code yX3_hash cX3_hash 5 (some .int) ∈ AW := aw_t 236 (by decide +kernel) rfl
theorem a_l_L_82 : Cond.methodLink RL 82 yX3_first ∈ AW := aw_t 237 (by decide +kernel) rfl
theorem a_i_X3_first : Cond.instanceMethod yX3_first ∈ AW := aw_t 238 (by decide +kernel) rfl
theorem a_s_X3_first : Cond.selects RX3 yX3_first yX3_first ∈ AW := aw_t 239 (by decide +kernel) rfl
theorem a_c_X3_first : Cond.code yX3_first cX3_first 3 (some .int) ∈ AW := aw_t 240 (by decide +kernel) rfl
theorem a_l_X3_108 : Cond.methodLink RX3 108 yX3_firstFrom ∈ AW := aw_t 241 (by decide +kernel) rfl
theorem a_i_X3_firstFrom : Cond.instanceMethod yX3_firstFrom ∈ AW := aw_t 242 (by decide +kernel) rfl
theorem a_s_X3_firstFrom : Cond.selects RX3 yX3_firstFrom yX3_firstFrom ∈ AW := aw_t 243 (by decide +kernel) rfl
theorem a_c_X3_firstFrom : Cond.code yX3_firstFrom cX3_firstFrom 4 (some .int) ∈ AW := aw_t 244 (by decide +kernel) rfl
theorem a_l_X3_112 : Cond.methodLink RX3 112 yX2_signFrom ∈ AW := aw_t 245 (by decide +kernel) rfl
theorem a_i_X2_signFrom : Cond.instanceMethod yX2_signFrom ∈ AW := aw_t 246 (by decide +kernel) rfl
theorem a_s_X2_signFrom : Cond.selects RX2 yX2_signFrom yX2_signFrom ∈ AW := aw_t 247 (by decide +kernel) rfl
theorem a_c_X2_signFrom : Cond.code yX2_signFrom cX2_signFrom 4 (some .int) ∈ AW := aw_t 248 (by decide +kernel) rfl
theorem a_l_L_86 : Cond.methodLink RL 86 yX3_firstFrom ∈ AW := aw_t 249 (by decide +kernel) rfl
theorem a_l_L_90 : Cond.methodLink RL 90 yX3_last ∈ AW := aw_t 250 (by decide +kernel) rfl
theorem a_i_X3_last : Cond.instanceMethod yX3_last ∈ AW := aw_t 251 (by decide +kernel) rfl
theorem a_s_X3_last : Cond.selects RX3 yX3_last yX3_last ∈ AW := aw_t 252 (by decide +kernel) rfl
theorem a_c_X3_last : Cond.code yX3_last cX3_last 3 (some .int) ∈ AW := aw_t 253 (by decide +kernel) rfl
theorem a_l_X3_116 : Cond.methodLink RX3 116 yX3_lastFrom ∈ AW := aw_t 254 (by decide +kernel) rfl
theorem a_i_X3_lastFrom : Cond.instanceMethod yX3_lastFrom ∈ AW := aw_t 255 (by decide +kernel) rfl
theorem a_s_X3_lastFrom : Cond.selects RX3 yX3_lastFrom yX3_lastFrom ∈ AW := aw_t 256 (by decide +kernel) rfl
theorem a_c_X3_lastFrom : Cond.code yX3_lastFrom cX3_lastFrom 4 (some .int) ∈ AW := aw_t 257 (by decide +kernel) rfl
theorem a_l_X3_119 : Cond.methodLink RX3 119 yX2_signBack ∈ AW := aw_t 258 (by decide +kernel) rfl
theorem a_i_X2_signBack : Cond.instanceMethod yX2_signBack ∈ AW := aw_t 259 (by decide +kernel) rfl
theorem a_s_X2_signBack : Cond.selects RX2 yX2_signBack yX2_signBack ∈ AW := aw_t 260 (by decide +kernel) rfl
theorem a_c_X2_signBack : Cond.code yX2_signBack cX2_signBack 4 (some .int) ∈ AW := aw_t 261 (by decide +kernel) rfl
theorem a_l_X2_54 : Cond.methodLink RX2 54 yJ9_min_7cf53 ∈ AW := aw_t 262 (by decide +kernel) rfl
theorem a_t_J9_min_7cf53 : Cond.static yJ9_min_7cf53 ∈ AW := aw_t 263 (by decide +kernel) rfl
theorem a_c_J9_min_7cf53 : Cond.code yJ9_min_7cf53 cJ9_min_7cf53 2 (some .int) ∈ AW := aw_t 264 (by decide +kernel) rfl
theorem a_l_L_94 : Cond.methodLink RL 94 yX3_lastFrom ∈ AW := aw_t 265 (by decide +kernel) rfl
theorem a_l_L_98 : Cond.methodLink RL 98 yX3_find ∈ AW := aw_t 266 (by decide +kernel) rfl
theorem a_i_X3_find : Cond.instanceMethod yX3_find ∈ AW := aw_t 267 (by decide +kernel) rfl
theorem a_s_X3_find : Cond.selects RX3 yX3_find yX3_find ∈ AW := aw_t 268 (by decide +kernel) rfl
theorem a_c_X3_find : Cond.code yX3_find cX3_find 3 (some .int) ∈ AW := aw_t 269 (by decide +kernel) rfl
theorem a_l_X3_122 : Cond.methodLink RX3 122 yX3_findFrom ∈ AW := aw_t 270 (by decide +kernel) rfl
theorem a_i_X3_findFrom : Cond.instanceMethod yX3_findFrom ∈ AW := aw_t 271 (by decide +kernel) rfl
theorem a_s_X3_findFrom : Cond.selects RX3 yX3_findFrom yX3_findFrom ∈ AW := aw_t 272 (by decide +kernel) rfl
theorem a_c_X3_findFrom : Cond.code yX3_findFrom cX3_findFrom 4 (some .int) ∈ AW := aw_t 273 (by decide +kernel) rfl
theorem a_l_X3_125 : Cond.methodLink RX3 125 yX2_placeFrom ∈ AW := aw_t 274 (by decide +kernel) rfl
theorem a_i_X2_placeFrom : Cond.instanceMethod yX2_placeFrom ∈ AW := aw_t 275 (by decide +kernel) rfl
theorem a_s_X2_placeFrom : Cond.selects RX2 yX2_placeFrom yX2_placeFrom ∈ AW := aw_t 276 (by decide +kernel) rfl
theorem a_c_X2_placeFrom : Cond.code yX2_placeFrom cX2_placeFrom 5 (some .int) ∈ AW := aw_t 277 (by decide +kernel) rfl
theorem a_l_X2_43 : Cond.methodLink RX2 43 yX2_bears ∈ AW := aw_t 278 (by decide +kernel) rfl
theorem a_i_X2_bears : Cond.instanceMethod yX2_bears ∈ AW := aw_t 279 (by decide +kernel) rfl
theorem a_s_X2_bears : Cond.selects RX2 yX2_bears yX2_bears ∈ AW := aw_t 280 (by decide +kernel) rfl
theorem a_c_X2_bears : Cond.code yX2_bears cX2_bears 3 (some .boolean) ∈ AW := aw_t 281 (by decide +kernel) rfl
theorem a_l_X2_57 : Cond.methodLink RX2 57 yX2_agrees ∈ AW := aw_t 282 (by decide +kernel) rfl
theorem a_i_X2_agrees : Cond.instanceMethod yX2_agrees ∈ AW := aw_t 283 (by decide +kernel) rfl
theorem a_s_X2_agrees : Cond.selects RX2 yX2_agrees yX2_agrees ∈ AW := aw_t 284 (by decide +kernel) rfl
theorem a_c_X2_agrees : Cond.code yX2_agrees cX2_agrees 8 (some .boolean) ∈ AW := aw_t 285 (by decide +kernel) rfl
theorem a_t_X3_asTold : Cond.static yX3_asTold ∈ AW := aw_t 287 (by decide +kernel) rfl
theorem a_c_X3_asTold : Cond.code yX3_asTold cX3_asTold 3 (some .int) ∈ AW := aw_t 288 (by decide +kernel) rfl
theorem a_l_L_102 : Cond.methodLink RL 102 yX3_findFrom ∈ AW := aw_t 289 (by decide +kernel) rfl
theorem a_l_L_106 : Cond.methodLink RL 106 yX3_findLast ∈ AW := aw_t 290 (by decide +kernel) rfl
theorem a_i_X3_findLast : Cond.instanceMethod yX3_findLast ∈ AW := aw_t 291 (by decide +kernel) rfl
theorem a_s_X3_findLast : Cond.selects RX3 yX3_findLast yX3_findLast ∈ AW := aw_t 292 (by decide +kernel) rfl
theorem a_c_X3_findLast : Cond.code yX3_findLast cX3_findLast 3 (some .int) ∈ AW := aw_t 293 (by decide +kernel) rfl
theorem a_l_X3_129 : Cond.methodLink RX3 129 yX3_findLastFrom ∈ AW := aw_t 294 (by decide +kernel) rfl
theorem a_i_X3_findLastFrom : Cond.instanceMethod yX3_findLastFrom ∈ AW := aw_t 295 (by decide +kernel) rfl
theorem a_s_X3_findLastFrom : Cond.selects RX3 yX3_findLastFrom yX3_findLastFrom ∈ AW := aw_t 296 (by decide +kernel) rfl
theorem a_c_X3_findLastFrom : Cond.code yX3_findLastFrom cX3_findLastFrom 4 (some .int) ∈ AW := aw_t 297 (by decide +kernel) rfl
theorem a_l_X3_132 : Cond.methodLink RX3 132 yX2_placeBack ∈ AW := aw_t 298 (by decide +kernel) rfl
theorem a_i_X2_placeBack : Cond.instanceMethod yX2_placeBack ∈ AW := aw_t 299 (by decide +kernel) rfl
theorem a_s_X2_placeBack : Cond.selects RX2 yX2_placeBack yX2_placeBack ∈ AW := aw_t 300 (by decide +kernel) rfl
theorem a_c_X2_placeBack : Cond.code yX2_placeBack cX2_placeBack 4 (some .int) ∈ AW := aw_t 301 (by decide +kernel) rfl
theorem a_l_L_110 : Cond.methodLink RL 110 yX3_findLastFrom ∈ AW := aw_t 302 (by decide +kernel) rfl
theorem a_l_L_114 : Cond.methodLink RL 114 yX3_contains ∈ AW := aw_t 303 (by decide +kernel) rfl
theorem a_i_X3_contains : Cond.instanceMethod yX3_contains ∈ AW := aw_t 304 (by decide +kernel) rfl
theorem a_s_X3_contains : Cond.selects RX3 yX3_contains yX3_contains ∈ AW := aw_t 305 (by decide +kernel) rfl
theorem a_c_X3_contains : Cond.code yX3_contains cX3_contains 3 (some .boolean) ∈ AW := aw_t 306 (by decide +kernel) rfl
theorem a_l_X3_135 : Cond.methodLink RX3 135 yX3_find ∈ AW := aw_t 307 (by decide +kernel) rfl
theorem a_l_L_119 : Cond.methodLink RL 119 yX3_starts ∈ AW := aw_t 308 (by decide +kernel) rfl
theorem a_i_X3_starts : Cond.instanceMethod yX3_starts ∈ AW := aw_t 309 (by decide +kernel) rfl
theorem a_s_X3_starts : Cond.selects RX3 yX3_starts yX3_starts ∈ AW := aw_t 310 (by decide +kernel) rfl
theorem a_c_X3_starts : Cond.code yX3_starts cX3_starts 3 (some .boolean) ∈ AW := aw_t 311 (by decide +kernel) rfl
theorem a_l_X3_138 : Cond.methodLink RX3 138 yX3_startsAt ∈ AW := aw_t 312 (by decide +kernel) rfl
theorem a_i_X3_startsAt : Cond.instanceMethod yX3_startsAt ∈ AW := aw_t 313 (by decide +kernel) rfl
theorem a_s_X3_startsAt : Cond.selects RX3 yX3_startsAt yX3_startsAt ∈ AW := aw_t 314 (by decide +kernel) rfl
theorem a_c_X3_startsAt : Cond.code yX3_startsAt cX3_startsAt 4 (some .boolean) ∈ AW := aw_t 315 (by decide +kernel) rfl
theorem a_l_X3_142 : Cond.methodLink RX3 142 yX2_bears ∈ AW := aw_t 316 (by decide +kernel) rfl
theorem a_l_L_123 : Cond.methodLink RL 123 yX3_startsAt ∈ AW := aw_t 317 (by decide +kernel) rfl
theorem a_l_L_128 : Cond.methodLink RL 128 yX3_ends ∈ AW := aw_t 318 (by decide +kernel) rfl
theorem a_i_X3_ends : Cond.instanceMethod yX3_ends ∈ AW := aw_t 319 (by decide +kernel) rfl
theorem a_s_X3_ends : Cond.selects RX3 yX3_ends yX3_ends ∈ AW := aw_t 320 (by decide +kernel) rfl
theorem a_c_X3_ends : Cond.code yX3_ends cX3_ends 3 (some .boolean) ∈ AW := aw_t 321 (by decide +kernel) rfl
theorem a_l_X3_146 : Cond.methodLink RX3 146 yX3_length ∈ AW := aw_t 322 (by decide +kernel) rfl
theorem a_l_L_132 : Cond.methodLink RL 132 yX3_region ∈ AW := aw_t 323 (by decide +kernel) rfl
theorem a_i_X3_region : Cond.instanceMethod yX3_region ∈ AW := aw_t 324 (by decide +kernel) rfl
theorem a_s_X3_region : Cond.selects RX3 yX3_region yX3_region ∈ AW := aw_t 325 (by decide +kernel) rfl
theorem a_c_X3_region : Cond.code yX3_region cX3_region 6 (some .boolean) ∈ AW := aw_t 326 (by decide +kernel) rfl
theorem a_l_X3_149 : Cond.methodLink RX3 149 yX2_agrees ∈ AW := aw_t 327 (by decide +kernel) rfl
theorem a_l_L_137 : Cond.methodLink RL 137 yX3_regionAlike ∈ AW := aw_t 328 (by decide +kernel) rfl
theorem a_i_X3_regionAlike : Cond.instanceMethod yX3_regionAlike ∈ AW := aw_t 329 (by decide +kernel) rfl
theorem a_s_X3_regionAlike : Cond.selects RX3 yX3_regionAlike yX3_regionAlike ∈ AW := aw_t 330 (by decide +kernel) rfl
theorem a_c_X3_regionAlike : Cond.code yX3_regionAlike cX3_regionAlike 6 (some .boolean) ∈ AW := aw_t 331 (by decide +kernel) rfl
theorem a_l_L_141 : Cond.methodLink RL 141 yX3_same ∈ AW := aw_t 332 (by decide +kernel) rfl
theorem a_i_X3_same : Cond.instanceMethod yX3_same ∈ AW := aw_t 333 (by decide +kernel) rfl
theorem a_s_X3_same : Cond.selects RX3 yX3_same yX3_same ∈ AW := aw_t 334 (by decide +kernel) rfl
theorem a_c_X3_same : Cond.code yX3_same cX3_same 3 (some .boolean) ∈ AW := aw_t 335 (by decide +kernel) rfl
theorem a_l_X3_153 : Cond.methodLink RX3 153 yX2_agreesWholly ∈ AW := aw_t 336 (by decide +kernel) rfl
theorem a_i_X2_agreesWholly : Cond.instanceMethod yX2_agreesWholly ∈ AW := aw_t 337 (by decide +kernel) rfl
theorem a_s_X2_agreesWholly : Cond.selects RX2 yX2_agreesWholly yX2_agreesWholly ∈ AW := aw_t 338 (by decide +kernel) rfl
theorem a_c_X2_agreesWholly : Cond.code yX2_agreesWholly cX2_agreesWholly 3 (some .boolean) ∈ AW := aw_t 339 (by decide +kernel) rfl
theorem a_l_L_145 : Cond.methodLink RL 145 yX3_alike ∈ AW := aw_t 340 (by decide +kernel) rfl
theorem a_i_X3_alike : Cond.instanceMethod yX3_alike ∈ AW := aw_t 341 (by decide +kernel) rfl
theorem a_s_X3_alike : Cond.selects RX3 yX3_alike yX3_alike ∈ AW := aw_t 342 (by decide +kernel) rfl
theorem a_c_X3_alike : Cond.code yX3_alike cX3_alike 3 (some .boolean) ∈ AW := aw_t 343 (by decide +kernel) rfl
theorem a_l_L_149 : Cond.methodLink RL 149 yX3_compare ∈ AW := aw_t 344 (by decide +kernel) rfl
theorem a_i_X3_compare : Cond.instanceMethod yX3_compare ∈ AW := aw_t 345 (by decide +kernel) rfl
theorem a_s_X3_compare : Cond.selects RX3 yX3_compare yX3_compare ∈ AW := aw_t 346 (by decide +kernel) rfl
theorem a_c_X3_compare : Cond.code yX3_compare cX3_compare 3 (some .int) ∈ AW := aw_t 347 (by decide +kernel) rfl
theorem a_l_X3_157 : Cond.methodLink RX3 157 yX2_order ∈ AW := aw_t 348 (by decide +kernel) rfl
theorem a_i_X2_order : Cond.instanceMethod yX2_order ∈ AW := aw_t 349 (by decide +kernel) rfl
theorem a_s_X2_order : Cond.selects RX2 yX2_order yX2_order ∈ AW := aw_t 350 (by decide +kernel) rfl
theorem a_c_X2_order : Cond.code yX2_order cX2_order 5 (some .int) ∈ AW := aw_t 351 (by decide +kernel) rfl
theorem a_l_L_153 : Cond.methodLink RL 153 yX3_compareAlike ∈ AW := aw_t 352 (by decide +kernel) rfl
theorem a_i_X3_compareAlike : Cond.instanceMethod yX3_compareAlike ∈ AW := aw_t 353 (by decide +kernel) rfl
theorem a_s_X3_compareAlike : Cond.selects RX3 yX3_compareAlike yX3_compareAlike ∈ AW := aw_t 354 (by decide +kernel) rfl
theorem a_c_X3_compareAlike : Cond.code yX3_compareAlike cX3_compareAlike 3 (some .int) ∈ AW := aw_t 355 (by decide +kernel) rfl
theorem a_l_X3_161 : Cond.methodLink RX3 161 yJ6_compare_7cf53 ∈ AW := aw_t 356 (by decide +kernel) rfl
theorem a_t_J6_compare_7cf53 : Cond.static yJ6_compare_7cf53 ∈ AW := aw_t 357 (by decide +kernel) rfl
theorem a_c_J6_compare_7cf53 : Cond.code yJ6_compare_7cf53 cJ6_compare_7cf53 2 (some .int) ∈ AW := aw_t 358 (by decide +kernel) rfl
theorem a_l_L_157 : Cond.methodLink RL 157 yX3_replaceSign ∈ AW := aw_t 359 (by decide +kernel) rfl
theorem a_i_X3_replaceSign : Cond.instanceMethod yX3_replaceSign ∈ AW := aw_t 360 (by decide +kernel) rfl
theorem a_s_X3_replaceSign : Cond.selects RX3 yX3_replaceSign yX3_replaceSign ∈ AW := aw_t 361 (by decide +kernel) rfl
theorem a_c_X3_replaceSign : Cond.code yX3_replaceSign cX3_replaceSign 5 (some .int) ∈ AW := aw_t 362 (by decide +kernel) rfl
theorem a_l_X3_166 : Cond.methodLink RX3 166 yX2_change ∈ AW := aw_t 363 (by decide +kernel) rfl
theorem a_i_X2_change : Cond.instanceMethod yX2_change ∈ AW := aw_t 364 (by decide +kernel) rfl
theorem a_s_X2_change : Cond.selects RX2 yX2_change yX2_change ∈ AW := aw_t 365 (by decide +kernel) rfl
theorem a_c_X2_change : Cond.code yX2_change cX2_change 4 none ∈ AW := aw_t 366 (by decide +kernel) rfl
theorem a_l_L_161 : Cond.methodLink RL 161 yX3_replaceText ∈ AW := aw_t 367 (by decide +kernel) rfl
theorem a_i_X3_replaceText : Cond.instanceMethod yX3_replaceText ∈ AW := aw_t 368 (by decide +kernel) rfl
theorem a_s_X3_replaceText : Cond.selects RX3 yX3_replaceText yX3_replaceText ∈ AW := aw_t 369 (by decide +kernel) rfl
theorem a_c_X3_replaceText : Cond.code yX3_replaceText cX3_replaceText 8 (some .int) ∈ AW := aw_t 370 (by decide +kernel) rfl
theorem a_l_X3_169 : Cond.methodLink RX3 169 yX2_finds ∈ AW := aw_t 371 (by decide +kernel) rfl
theorem a_i_X2_finds : Cond.instanceMethod yX2_finds ∈ AW := aw_t 372 (by decide +kernel) rfl
theorem a_s_X2_finds : Cond.selects RX2 yX2_finds yX2_finds ∈ AW := aw_t 373 (by decide +kernel) rfl
theorem a_c_X2_finds : Cond.code yX2_finds cX2_finds 4 (some .int) ∈ AW := aw_t 374 (by decide +kernel) rfl
theorem a_l_X3_173 : Cond.methodLink RX3 173 yX2_addReplaced ∈ AW := aw_t 375 (by decide +kernel) rfl
theorem a_i_X2_addReplaced : Cond.instanceMethod yX2_addReplaced ∈ AW := aw_t 376 (by decide +kernel) rfl
theorem a_s_X2_addReplaced : Cond.selects RX2 yX2_addReplaced yX2_addReplaced ∈ AW := aw_t 377 (by decide +kernel) rfl
theorem a_c_X2_addReplaced : Cond.code yX2_addReplaced cX2_addReplaced 5 none ∈ AW := aw_t 378 (by decide +kernel) rfl
theorem a_l_L_165 : Cond.methodLink RL 165 yX3_trim ∈ AW := aw_t 379 (by decide +kernel) rfl
theorem a_i_X3_trim : Cond.instanceMethod yX3_trim ∈ AW := aw_t 380 (by decide +kernel) rfl
theorem a_s_X3_trim : Cond.selects RX3 yX3_trim yX3_trim ∈ AW := aw_t 381 (by decide +kernel) rfl
theorem a_c_X3_trim : Cond.code yX3_trim cX3_trim 3 (some .int) ∈ AW := aw_t 382 (by decide +kernel) rfl
theorem a_l_X3_177 : Cond.methodLink RX3 177 yX3_layBare ∈ AW := aw_t 383 (by decide +kernel) rfl
theorem a_i_X3_layBare : Cond.instanceMethod yX3_layBare ∈ AW := aw_t 385 (by decide +kernel) rfl
theorem a_c_X3_layBare : Cond.code yX3_layBare cX3_layBare 6 (some .int) ∈ AW := aw_t 386 (by decide +kernel) rfl
theorem a_l_X3_253 : Cond.methodLink RX3 253 yX2_startOfRear ∈ AW := aw_t 387 (by decide +kernel) rfl
theorem a_i_X2_startOfRear : Cond.instanceMethod yX2_startOfRear ∈ AW := aw_t 388 (by decide +kernel) rfl
theorem a_s_X2_startOfRear : Cond.selects RX2 yX2_startOfRear yX2_startOfRear ∈ AW := aw_t 389 (by decide +kernel) rfl
theorem a_c_X2_startOfRear : Cond.code yX2_startOfRear cX2_startOfRear 4 (some .int) ∈ AW := aw_t 390 (by decide +kernel) rfl
theorem a_l_L_169 : Cond.methodLink RL 169 yX3_strip ∈ AW := aw_t 391 (by decide +kernel) rfl
theorem a_i_X3_strip : Cond.instanceMethod yX3_strip ∈ AW := aw_t 392 (by decide +kernel) rfl
theorem a_s_X3_strip : Cond.selects RX3 yX3_strip yX3_strip ∈ AW := aw_t 393 (by decide +kernel) rfl
theorem a_c_X3_strip : Cond.code yX3_strip cX3_strip 3 (some .int) ∈ AW := aw_t 394 (by decide +kernel) rfl
theorem a_l_L_173 : Cond.methodLink RL 173 yX3_repeat ∈ AW := aw_t 395 (by decide +kernel) rfl
theorem a_i_X3_repeat : Cond.instanceMethod yX3_repeat ∈ AW := aw_t 396 (by decide +kernel) rfl
theorem a_s_X3_repeat : Cond.selects RX3 yX3_repeat yX3_repeat ∈ AW := aw_t 397 (by decide +kernel) rfl
theorem a_c_X3_repeat : Cond.code yX3_repeat cX3_repeat 7 (some .int) ∈ AW := aw_t 398 (by decide +kernel) rfl
theorem a_k_X3_181 : Cond.constant RX3 181 (-1000003) ∈ AW := aw_t 399 (by decide +kernel) rfl
theorem a_k_X3_182 : Cond.constantLong RX3 182 (300) ∈ AW := aw_t 400 (by decide +kernel) rfl
theorem a_l_L_177 : Cond.methodLink RL 177 yX3_turn ∈ AW := aw_t 401 (by decide +kernel) rfl
theorem a_i_X3_turn : Cond.instanceMethod yX3_turn ∈ AW := aw_t 402 (by decide +kernel) rfl
theorem a_s_X3_turn : Cond.selects RX3 yX3_turn yX3_turn ∈ AW := aw_t 403 (by decide +kernel) rfl
theorem a_c_X3_turn : Cond.code yX3_turn cX3_turn 3 (some .int) ∈ AW := aw_t 404 (by decide +kernel) rfl
theorem a_l_L_181 : Cond.methodLink RL 181 yX3_part ∈ AW := aw_t 405 (by decide +kernel) rfl
theorem a_i_X3_part : Cond.instanceMethod yX3_part ∈ AW := aw_t 406 (by decide +kernel) rfl
theorem a_s_X3_part : Cond.selects RX3 yX3_part yX3_part ∈ AW := aw_t 407 (by decide +kernel) rfl
theorem a_c_X3_part : Cond.code yX3_part cX3_part 4 (some .int) ∈ AW := aw_t 408 (by decide +kernel) rfl
theorem a_l_X3_186 : Cond.methodLink RX3 186 yJ0_indexOf_0f7a4 ∈ AW := aw_t 410 (by decide +kernel) rfl
theorem a_i_J0_indexOf_0f7a4 : Cond.instanceMethod yJ0_indexOf_0f7a4 ∈ AW := aw_t 411 (by decide +kernel) rfl
theorem a_s_J0_indexOf_0f7a4 : Cond.selects RJ0 yJ0_indexOf_0f7a4 yJ0_indexOf_0f7a4 ∈ AW := aw_t 412 (by decide +kernel) rfl
theorem a_c_J0_indexOf_0f7a4 : Cond.code yJ0_indexOf_0f7a4 cJ0_indexOf_0f7a4 2 (some .int) ∈ AW := aw_t 413 (by decide +kernel) rfl
theorem a_l_J0_633 : Cond.methodLink RJ0 633 yJ0_indexOf_7cf53 ∈ AW := aw_t 414 (by decide +kernel) rfl
theorem a_i_J0_indexOf_7cf53 : Cond.instanceMethod yJ0_indexOf_7cf53 ∈ AW := aw_t 415 (by decide +kernel) rfl
theorem a_s_J0_indexOf_7cf53 : Cond.selects RJ0 yJ0_indexOf_7cf53 yJ0_indexOf_7cf53 ∈ AW := aw_t 416 (by decide +kernel) rfl
theorem a_c_J0_indexOf_7cf53 : Cond.code yJ0_indexOf_7cf53 cJ0_indexOf_7cf53 3 (some .int) ∈ AW := aw_t 417 (by decide +kernel) rfl
theorem a_l_J0_492 : Cond.methodLink RJ0 492 yJ0_isLatin1_aae02 ∈ AW := aw_t 418 (by decide +kernel) rfl
theorem a_i_J0_isLatin1_aae02 : Cond.instanceMethod yJ0_isLatin1_aae02 ∈ AW := aw_t 419 (by decide +kernel) rfl
theorem a_s_J0_isLatin1_aae02 : Cond.selects RJ0 yJ0_isLatin1_aae02 yJ0_isLatin1_aae02 ∈ AW := aw_t 420 (by decide +kernel) rfl
theorem a_c_J0_isLatin1_aae02 : Cond.code yJ0_isLatin1_aae02 cJ0_isLatin1_aae02 1 (some .boolean) ∈ AW := aw_t 421 (by decide +kernel) rfl
theorem a_f_J0_38 : Cond.fieldLink RJ0 38 "java/lang/String" "COMPACT_STRINGS" "Z" ∈ AW := aw_t 422 (by decide +kernel) rfl
theorem a_l_J0_505 : Cond.methodLink RJ0 505 yJ0_length_8abf5 ∈ AW := aw_t 424 (by decide +kernel) rfl
theorem a_i_J0_length_8abf5 : Cond.instanceMethod yJ0_length_8abf5 ∈ AW := aw_t 425 (by decide +kernel) rfl
theorem a_s_J0_length_8abf5 : Cond.selects RJ0 yJ0_length_8abf5 yJ0_length_8abf5 ∈ AW := aw_t 426 (by decide +kernel) rfl
theorem a_c_J0_length_8abf5 : Cond.code yJ0_length_8abf5 cJ0_length_8abf5 1 (some .int) ∈ AW := aw_t 427 (by decide +kernel) rfl
theorem a_l_J0_335 : Cond.methodLink RJ0 335 yJ0_coder_7d493 ∈ AW := aw_t 428 (by decide +kernel) rfl
theorem a_i_J0_coder_7d493 : Cond.instanceMethod yJ0_coder_7d493 ∈ AW := aw_t 429 (by decide +kernel) rfl
theorem a_s_J0_coder_7d493 : Cond.selects RJ0 yJ0_coder_7d493 yJ0_coder_7d493 ∈ AW := aw_t 430 (by decide +kernel) rfl
theorem a_c_J0_coder_7d493 : Cond.code yJ0_coder_7d493 cJ0_coder_7d493 1 (some .byte) ∈ AW := aw_t 431 (by decide +kernel) rfl
theorem a_l_J0_637 : Cond.methodLink RJ0 637 yJ1_indexOf_4cfef ∈ AW := aw_t 432 (by decide +kernel) rfl
theorem a_t_J1_indexOf_4cfef : Cond.static yJ1_indexOf_4cfef ∈ AW := aw_t 433 (by decide +kernel) rfl
theorem a_c_J1_indexOf_4cfef : Cond.code yJ1_indexOf_4cfef cJ1_indexOf_4cfef 4 (some .int) ∈ AW := aw_t 434 (by decide +kernel) rfl
theorem a_l_J1_88 : Cond.methodLink RJ1 88 yJ1_canEncode_9a6ad ∈ AW := aw_t 435 (by decide +kernel) rfl
theorem a_t_J1_canEncode_9a6ad : Cond.static yJ1_canEncode_9a6ad ∈ AW := aw_t 436 (by decide +kernel) rfl
theorem a_c_J1_canEncode_9a6ad : Cond.code yJ1_canEncode_9a6ad cJ1_canEncode_9a6ad 1 (some .boolean) ∈ AW := aw_t 437 (by decide +kernel) rfl
theorem a_l_J1_92 : Cond.methodLink RJ1 92 yJ9_max_7cf53 ∈ AW := aw_t 438 (by decide +kernel) rfl
theorem a_l_J1_38 : Cond.methodLink RJ1 38 yJ9_min_7cf53 ∈ AW := aw_t 439 (by decide +kernel) rfl
theorem a_l_J1_95 : Cond.methodLink RJ1 95 yJ1_indexOfChar_4cfef ∈ AW := aw_t 440 (by decide +kernel) rfl
theorem a_t_J1_indexOfChar_4cfef : Cond.static yJ1_indexOfChar_4cfef ∈ AW := aw_t 441 (by decide +kernel) rfl
theorem a_c_J1_indexOfChar_4cfef : Cond.code yJ1_indexOfChar_4cfef cJ1_indexOfChar_4cfef 6 (some .int) ∈ AW := aw_t 442 (by decide +kernel) rfl
theorem a_l_J0_640 : Cond.methodLink RJ0 640 yJ2_indexOf_4cfef ∈ AW := aw_t 443 (by decide +kernel) rfl
theorem a_t_J2_indexOf_4cfef : Cond.static yJ2_indexOf_4cfef ∈ AW := aw_t 444 (by decide +kernel) rfl
theorem a_c_J2_indexOf_4cfef : Cond.code yJ2_indexOf_4cfef cJ2_indexOf_4cfef 4 (some .int) ∈ AW := aw_t 445 (by decide +kernel) rfl
theorem a_l_J2_224 : Cond.methodLink RJ2 224 yJ9_max_7cf53 ∈ AW := aw_t 446 (by decide +kernel) rfl
theorem a_l_J2_183 : Cond.methodLink RJ2 183 yJ9_min_7cf53 ∈ AW := aw_t 447 (by decide +kernel) rfl
theorem a_k_J2_227 : Cond.constant RJ2 227 (65536) ∈ AW := aw_t 448 (by decide +kernel) rfl
theorem a_l_J2_228 : Cond.methodLink RJ2 228 yJ2_indexOfChar_4cfef ∈ AW := aw_t 449 (by decide +kernel) rfl
theorem a_t_J2_indexOfChar_4cfef : Cond.static yJ2_indexOfChar_4cfef ∈ AW := aw_t 450 (by decide +kernel) rfl
theorem a_c_J2_indexOfChar_4cfef : Cond.code yJ2_indexOfChar_4cfef cJ2_indexOfChar_4cfef 4 (some .int) ∈ AW := aw_t 451 (by decide +kernel) rfl
theorem a_l_J2_96 : Cond.methodLink RJ2 96 yJ2_checkBoundsBeginEnd_d044e ∈ AW := aw_t 452 (by decide +kernel) rfl
theorem a_t_J2_checkBoundsBeginEnd_d044e : Cond.static yJ2_checkBoundsBeginEnd_d044e ∈ AW := aw_t 453 (by decide +kernel) rfl
theorem a_c_J2_checkBoundsBeginEnd_d044e : Cond.code yJ2_checkBoundsBeginEnd_d044e cJ2_checkBoundsBeginEnd_d044e 3 none ∈ AW := aw_t 454 (by decide +kernel) rfl
theorem a_l_J2_48 : Cond.methodLink RJ2 48 yJ2_length_9d52b ∈ AW := aw_t 455 (by decide +kernel) rfl
theorem a_t_J2_length_9d52b : Cond.static yJ2_length_9d52b ∈ AW := aw_t 456 (by decide +kernel) rfl
theorem a_c_J2_length_9d52b : Cond.code yJ2_length_9d52b cJ2_length_9d52b 1 (some .int) ∈ AW := aw_t 457 (by decide +kernel) rfl
theorem a_l_J2_241 : Cond.methodLink RJ2 241 yJ0_checkBoundsBeginEnd_23922 ∈ AW := aw_t 458 (by decide +kernel) rfl
theorem a_t_J0_checkBoundsBeginEnd_23922 : Cond.static yJ0_checkBoundsBeginEnd_23922 ∈ AW := aw_t 459 (by decide +kernel) rfl
theorem a_c_J0_checkBoundsBeginEnd_23922 : Cond.code yJ0_checkBoundsBeginEnd_23922 cJ0_checkBoundsBeginEnd_23922 3 none ∈ AW := aw_t 460 (by decide +kernel) rfl
theorem a_f_J0_1053 : Cond.fieldLink RJ0 1053 "jdk/internal/util/Preconditions" "SIOOBE_FORMATTER" "Ljava/util/function/BiFunction;" ∈ AW := aw_t 461 (by decide +kernel) rfl
theorem a_l_J0_1062 : Cond.methodLink RJ0 1062 yJ3_checkFromToIndex_8c36e ∈ AW := aw_t 463 (by decide +kernel) rfl
theorem a_t_J3_checkFromToIndex_8c36e : Cond.static yJ3_checkFromToIndex_8c36e ∈ AW := aw_t 464 (by decide +kernel) rfl
theorem a_c_J3_checkFromToIndex_8c36e : Cond.code yJ3_checkFromToIndex_8c36e cJ3_checkFromToIndex_8c36e 4 (some .int) ∈ AW := aw_t 465 (by decide +kernel) rfl
theorem a_l_J2_244 : Cond.methodLink RJ2 244 yJ2_indexOfCharUnsafe_4cfef ∈ AW := aw_t 466 (by decide +kernel) rfl
theorem a_t_J2_indexOfCharUnsafe_4cfef : Cond.static yJ2_indexOfCharUnsafe_4cfef ∈ AW := aw_t 467 (by decide +kernel) rfl
theorem a_c_J2_indexOfCharUnsafe_4cfef : Cond.code yJ2_indexOfCharUnsafe_4cfef cJ2_indexOfCharUnsafe_4cfef 5 (some .int) ∈ AW := aw_t 468 (by decide +kernel) rfl
theorem a_l_J2_71 : Cond.methodLink RJ2 71 yJ2_getChar_3b067 ∈ AW := aw_t 469 (by decide +kernel) rfl
theorem a_t_J2_getChar_3b067 : Cond.static yJ2_getChar_3b067 ∈ AW := aw_t 470 (by decide +kernel) rfl
theorem a_c_J2_getChar_3b067 : Cond.code yJ2_getChar_3b067 cJ2_getChar_3b067 2 (some .char) ∈ AW := aw_t 471 (by decide +kernel) rfl
theorem a_f_J2_44 : Cond.fieldLink RJ2 44 "java/lang/StringUTF16" "$assertionsDisabled" "Z" ∈ AW := aw_t 472 (by decide +kernel) rfl
theorem a_f_J2_59 : Cond.fieldLink RJ2 59 "java/lang/StringUTF16" "HI_BYTE_SHIFT" "I" ∈ AW := aw_t 474 (by decide +kernel) rfl
theorem a_f_J2_63 : Cond.fieldLink RJ2 63 "java/lang/StringUTF16" "LO_BYTE_SHIFT" "I" ∈ AW := aw_t 476 (by decide +kernel) rfl
theorem a_l_J2_232 : Cond.methodLink RJ2 232 yJ2_indexOfSupplementary_4cfef ∈ AW := aw_t 478 (by decide +kernel) rfl
theorem a_t_J2_indexOfSupplementary_4cfef : Cond.static yJ2_indexOfSupplementary_4cfef ∈ AW := aw_t 479 (by decide +kernel) rfl
theorem a_c_J2_indexOfSupplementary_4cfef : Cond.code yJ2_indexOfSupplementary_4cfef cJ2_indexOfSupplementary_4cfef 7 (some .int) ∈ AW := aw_t 480 (by decide +kernel) rfl
theorem a_l_J2_164 : Cond.methodLink RJ2 164 yJ11_isValidCodePoint_9a6ad ∈ AW := aw_t 481 (by decide +kernel) rfl
theorem a_t_J11_isValidCodePoint_9a6ad : Cond.static yJ11_isValidCodePoint_9a6ad ∈ AW := aw_t 482 (by decide +kernel) rfl
theorem a_c_J11_isValidCodePoint_9a6ad : Cond.code yJ11_isValidCodePoint_9a6ad cJ11_isValidCodePoint_9a6ad 2 (some .boolean) ∈ AW := aw_t 483 (by decide +kernel) rfl
theorem a_l_J2_157 : Cond.methodLink RJ2 157 yJ11_highSurrogate_5068e ∈ AW := aw_t 484 (by decide +kernel) rfl
theorem a_t_J11_highSurrogate_5068e : Cond.static yJ11_highSurrogate_5068e ∈ AW := aw_t 485 (by decide +kernel) rfl
theorem a_c_J11_highSurrogate_5068e : Cond.code yJ11_highSurrogate_5068e cJ11_highSurrogate_5068e 1 (some .char) ∈ AW := aw_t 486 (by decide +kernel) rfl
theorem a_k_J11_110 : Cond.constant RJ11 110 (55232) ∈ AW := aw_t 487 (by decide +kernel) rfl
theorem a_l_J2_161 : Cond.methodLink RJ2 161 yJ11_lowSurrogate_5068e ∈ AW := aw_t 488 (by decide +kernel) rfl
theorem a_t_J11_lowSurrogate_5068e : Cond.static yJ11_lowSurrogate_5068e ∈ AW := aw_t 489 (by decide +kernel) rfl
theorem a_c_J11_lowSurrogate_5068e : Cond.code yJ11_lowSurrogate_5068e cJ11_lowSurrogate_5068e 1 (some .char) ∈ AW := aw_t 490 (by decide +kernel) rfl
theorem a_k_J11_76 : Cond.constant RJ11 76 (56320) ∈ AW := aw_t 491 (by decide +kernel) rfl
theorem a_l_X3_194 : Cond.methodLink RX3 194 yX1_partAnew ∈ AW := aw_t 492 (by decide +kernel) rfl
theorem a_i_X1_partAnew : Cond.instanceMethod yX1_partAnew ∈ AW := aw_t 493 (by decide +kernel) rfl
theorem a_s_X1_partAnew : Cond.selects RX1 yX1_partAnew yX1_partAnew ∈ AW := aw_t 494 (by decide +kernel) rfl
theorem a_c_X1_partAnew : Cond.code yX1_partAnew cX1_partAnew 5 none ∈ AW := aw_t 495 (by decide +kernel) rfl
theorem a_l_X1_28 : Cond.methodLink RX1 28 yX2_clear ∈ AW := aw_t 496 (by decide +kernel) rfl
theorem a_l_X1_31 : Cond.methodLink RX1 31 yX2_size ∈ AW := aw_t 497 (by decide +kernel) rfl
theorem a_l_X1_34 : Cond.methodLink RX1 34 yX2_at ∈ AW := aw_t 498 (by decide +kernel) rfl
theorem a_l_X1_38 : Cond.methodLink RX1 38 yX1_endPiece ∈ AW := aw_t 499 (by decide +kernel) rfl
theorem a_i_X1_endPiece : Cond.instanceMethod yX1_endPiece ∈ AW := aw_t 501 (by decide +kernel) rfl
theorem a_c_X1_endPiece : Cond.code yX1_endPiece cX1_endPiece 1 none ∈ AW := aw_t 502 (by decide +kernel) rfl
theorem a_l_X1_71 : Cond.methodLink RX1 71 yX1_addEnd ∈ AW := aw_t 503 (by decide +kernel) rfl
theorem a_i_X1_addEnd : Cond.instanceMethod yX1_addEnd ∈ AW := aw_t 505 (by decide +kernel) rfl
theorem a_c_X1_addEnd : Cond.code yX1_addEnd cX1_addEnd 2 none ∈ AW := aw_t 506 (by decide +kernel) rfl
theorem a_l_X1_41 : Cond.methodLink RX1 41 yX2_add ∈ AW := aw_t 507 (by decide +kernel) rfl
theorem a_l_X1_44 : Cond.methodLink RX1 44 yX1_leaveOutEmptyEnd ∈ AW := aw_t 508 (by decide +kernel) rfl
theorem a_i_X1_leaveOutEmptyEnd : Cond.instanceMethod yX1_leaveOutEmptyEnd ∈ AW := aw_t 510 (by decide +kernel) rfl
theorem a_c_X1_leaveOutEmptyEnd : Cond.code yX1_leaveOutEmptyEnd cX1_leaveOutEmptyEnd 1 none ∈ AW := aw_t 511 (by decide +kernel) rfl
theorem a_l_X1_47 : Cond.methodLink RX1 47 yX1_startOf ∈ AW := aw_t 512 (by decide +kernel) rfl
theorem a_i_X1_startOf : Cond.instanceMethod yX1_startOf ∈ AW := aw_t 514 (by decide +kernel) rfl
theorem a_c_X1_startOf : Cond.code yX1_startOf cX1_startOf 2 (some .int) ∈ AW := aw_t 515 (by decide +kernel) rfl
theorem a_l_X1_50 : Cond.methodLink RX1 50 yX1_endOf ∈ AW := aw_t 516 (by decide +kernel) rfl
theorem a_i_X1_endOf : Cond.instanceMethod yX1_endOf ∈ AW := aw_t 518 (by decide +kernel) rfl
theorem a_c_X1_endOf : Cond.code yX1_endOf cX1_endOf 2 (some .int) ∈ AW := aw_t 519 (by decide +kernel) rfl
theorem a_l_X3_197 : Cond.methodLink RX3 197 yX1_size ∈ AW := aw_t 520 (by decide +kernel) rfl
theorem a_i_X1_size : Cond.instanceMethod yX1_size ∈ AW := aw_t 521 (by decide +kernel) rfl
theorem a_s_X1_size : Cond.selects RX1 yX1_size yX1_size ∈ AW := aw_t 522 (by decide +kernel) rfl
theorem a_c_X1_size : Cond.code yX1_size cX1_size 1 (some .int) ∈ AW := aw_t 523 (by decide +kernel) rfl
theorem a_l_L_185 : Cond.methodLink RL 185 yX3_pieces ∈ AW := aw_t 525 (by decide +kernel) rfl
theorem a_i_X3_pieces : Cond.instanceMethod yX3_pieces ∈ AW := aw_t 526 (by decide +kernel) rfl
theorem a_s_X3_pieces : Cond.selects RX3 yX3_pieces yX3_pieces ∈ AW := aw_t 527 (by decide +kernel) rfl
theorem a_c_X3_pieces : Cond.code yX3_pieces cX3_pieces 1 (some .int) ∈ AW := aw_t 528 (by decide +kernel) rfl
theorem a_l_L_190 : Cond.methodLink RL 190 yX3_piece ∈ AW := aw_t 529 (by decide +kernel) rfl
theorem a_i_X3_piece : Cond.instanceMethod yX3_piece ∈ AW := aw_t 530 (by decide +kernel) rfl
theorem a_s_X3_piece : Cond.selects RX3 yX3_piece yX3_piece ∈ AW := aw_t 531 (by decide +kernel) rfl
theorem a_c_X3_piece : Cond.code yX3_piece cX3_piece 3 (some .int) ∈ AW := aw_t 532 (by decide +kernel) rfl
theorem a_l_X3_198 : Cond.methodLink RX3 198 yX1_addPieceTo ∈ AW := aw_t 533 (by decide +kernel) rfl
theorem a_i_X1_addPieceTo : Cond.instanceMethod yX1_addPieceTo ∈ AW := aw_t 534 (by decide +kernel) rfl
theorem a_s_X1_addPieceTo : Cond.selects RX1 yX1_addPieceTo yX1_addPieceTo ∈ AW := aw_t 535 (by decide +kernel) rfl
theorem a_c_X1_addPieceTo : Cond.code yX1_addPieceTo cX1_addPieceTo 3 none ∈ AW := aw_t 536 (by decide +kernel) rfl
theorem a_l_X1_53 : Cond.methodLink RX1 53 yX2_addSpan ∈ AW := aw_t 537 (by decide +kernel) rfl
theorem a_l_L_194 : Cond.methodLink RL 194 yX3_join ∈ AW := aw_t 538 (by decide +kernel) rfl
theorem a_i_X3_join : Cond.instanceMethod yX3_join ∈ AW := aw_t 539 (by decide +kernel) rfl
theorem a_s_X3_join : Cond.selects RX3 yX3_join yX3_join ∈ AW := aw_t 540 (by decide +kernel) rfl
theorem a_c_X3_join : Cond.code yX3_join cX3_join 3 (some .int) ∈ AW := aw_t 541 (by decide +kernel) rfl
theorem a_l_X3_202 : Cond.methodLink RX3 202 yX1_sizeJoined ∈ AW := aw_t 542 (by decide +kernel) rfl
theorem a_i_X1_sizeJoined : Cond.instanceMethod yX1_sizeJoined ∈ AW := aw_t 543 (by decide +kernel) rfl
theorem a_s_X1_sizeJoined : Cond.selects RX1 yX1_sizeJoined yX1_sizeJoined ∈ AW := aw_t 544 (by decide +kernel) rfl
theorem a_c_X1_sizeJoined : Cond.code yX1_sizeJoined cX1_sizeJoined 1 (some .int) ∈ AW := aw_t 545 (by decide +kernel) rfl
theorem a_l_X1_61 : Cond.methodLink RX1 61 yJ9_max_7cf53 ∈ AW := aw_t 546 (by decide +kernel) rfl
theorem a_l_X3_205 : Cond.methodLink RX3 205 yX1_addJoinedTo ∈ AW := aw_t 547 (by decide +kernel) rfl
theorem a_i_X1_addJoinedTo : Cond.instanceMethod yX1_addJoinedTo ∈ AW := aw_t 548 (by decide +kernel) rfl
theorem a_s_X1_addJoinedTo : Cond.selects RX1 yX1_addJoinedTo yX1_addJoinedTo ∈ AW := aw_t 549 (by decide +kernel) rfl
theorem a_c_X1_addJoinedTo : Cond.code yX1_addJoinedTo cX1_addJoinedTo 4 none ∈ AW := aw_t 550 (by decide +kernel) rfl
theorem a_l_X1_57 : Cond.methodLink RX1 57 yX1_addPieceTo ∈ AW := aw_t 551 (by decide +kernel) rfl
theorem a_l_L_198 : Cond.methodLink RL 198 yX3_count ∈ AW := aw_t 552 (by decide +kernel) rfl
theorem a_i_X3_count : Cond.instanceMethod yX3_count ∈ AW := aw_t 553 (by decide +kernel) rfl
theorem a_s_X3_count : Cond.selects RX3 yX3_count yX3_count ∈ AW := aw_t 554 (by decide +kernel) rfl
theorem a_c_X3_count : Cond.code yX3_count cX3_count 4 (some .int) ∈ AW := aw_t 555 (by decide +kernel) rfl
theorem a_l_L_202 : Cond.methodLink RL 202 yX3_head ∈ AW := aw_t 556 (by decide +kernel) rfl
theorem a_i_X3_head : Cond.instanceMethod yX3_head ∈ AW := aw_t 557 (by decide +kernel) rfl
theorem a_s_X3_head : Cond.selects RX3 yX3_head yX3_head ∈ AW := aw_t 558 (by decide +kernel) rfl
theorem a_c_X3_head : Cond.code yX3_head cX3_head 3 (some .int) ∈ AW := aw_t 559 (by decide +kernel) rfl
theorem a_l_X3_208 : Cond.methodLink RX3 208 yX2_sharedFront ∈ AW := aw_t 560 (by decide +kernel) rfl
theorem a_i_X2_sharedFront : Cond.instanceMethod yX2_sharedFront ∈ AW := aw_t 561 (by decide +kernel) rfl
theorem a_s_X2_sharedFront : Cond.selects RX2 yX2_sharedFront yX2_sharedFront ∈ AW := aw_t 562 (by decide +kernel) rfl
theorem a_c_X2_sharedFront : Cond.code yX2_sharedFront cX2_sharedFront 4 (some .int) ∈ AW := aw_t 563 (by decide +kernel) rfl
theorem a_l_L_206 : Cond.methodLink RL 206 yX3_foot ∈ AW := aw_t 564 (by decide +kernel) rfl
theorem a_i_X3_foot : Cond.instanceMethod yX3_foot ∈ AW := aw_t 565 (by decide +kernel) rfl
theorem a_s_X3_foot : Cond.selects RX3 yX3_foot yX3_foot ∈ AW := aw_t 566 (by decide +kernel) rfl
theorem a_c_X3_foot : Cond.code yX3_foot cX3_foot 3 (some .int) ∈ AW := aw_t 567 (by decide +kernel) rfl
theorem a_l_X3_211 : Cond.methodLink RX3 211 yX2_sharedRear ∈ AW := aw_t 568 (by decide +kernel) rfl
theorem a_i_X2_sharedRear : Cond.instanceMethod yX2_sharedRear ∈ AW := aw_t 569 (by decide +kernel) rfl
theorem a_s_X2_sharedRear : Cond.selects RX2 yX2_sharedRear yX2_sharedRear ∈ AW := aw_t 570 (by decide +kernel) rfl
theorem a_c_X2_sharedRear : Cond.code yX2_sharedRear cX2_sharedRear 4 (some .int) ∈ AW := aw_t 571 (by decide +kernel) rfl
theorem a_l_L_210 : Cond.methodLink RL 210 yX3_holds ∈ AW := aw_t 572 (by decide +kernel) rfl
theorem a_i_X3_holds : Cond.instanceMethod yX3_holds ∈ AW := aw_t 573 (by decide +kernel) rfl
theorem a_s_X3_holds : Cond.selects RX3 yX3_holds yX3_holds ∈ AW := aw_t 574 (by decide +kernel) rfl
theorem a_c_X3_holds : Cond.code yX3_holds cX3_holds 4 (some .boolean) ∈ AW := aw_t 575 (by decide +kernel) rfl
theorem a_l_X3_214 : Cond.methodLink RX3 214 yX3_firstPlaceHolds ∈ AW := aw_t 576 (by decide +kernel) rfl
theorem a_i_X3_firstPlaceHolds : Cond.instanceMethod yX3_firstPlaceHolds ∈ AW := aw_t 578 (by decide +kernel) rfl
theorem a_c_X3_firstPlaceHolds : Cond.code yX3_firstPlaceHolds cX3_firstPlaceHolds 8 (some .boolean) ∈ AW := aw_t 579 (by decide +kernel) rfl
theorem a_l_X3_257 : Cond.methodLink RX3 257 yJ9_min_7cf53 ∈ AW := aw_t 580 (by decide +kernel) rfl
theorem a_l_X3_260 : Cond.methodLink RX3 260 yJ9_max_7cf53 ∈ AW := aw_t 581 (by decide +kernel) rfl
theorem a_l_X3_217 : Cond.methodLink RX3 217 yX3_lastPlaceHolds ∈ AW := aw_t 582 (by decide +kernel) rfl
theorem a_i_X3_lastPlaceHolds : Cond.instanceMethod yX3_lastPlaceHolds ∈ AW := aw_t 584 (by decide +kernel) rfl
theorem a_c_X3_lastPlaceHolds : Cond.code yX3_lastPlaceHolds cX3_lastPlaceHolds 7 (some .boolean) ∈ AW := aw_t 585 (by decide +kernel) rfl
theorem a_l_X3_220 : Cond.methodLink RX3 220 yX3_orderHolds ∈ AW := aw_t 586 (by decide +kernel) rfl
theorem a_i_X3_orderHolds : Cond.instanceMethod yX3_orderHolds ∈ AW := aw_t 588 (by decide +kernel) rfl
theorem a_c_X3_orderHolds : Cond.code yX3_orderHolds cX3_orderHolds 5 (some .boolean) ∈ AW := aw_t 589 (by decide +kernel) rfl
theorem a_l_X3_263 : Cond.methodLink RX3 263 yX3_compare ∈ AW := aw_t 590 (by decide +kernel) rfl
theorem a_l_X3_264 : Cond.methodLink RX3 264 yX3_same ∈ AW := aw_t 591 (by decide +kernel) rfl
theorem a_l_X3_267 : Cond.methodLink RX3 267 yX3_head ∈ AW := aw_t 592 (by decide +kernel) rfl
theorem a_l_X3_270 : Cond.methodLink RX3 270 yX3_charAt ∈ AW := aw_t 593 (by decide +kernel) rfl
theorem a_l_X3_224 : Cond.methodLink RX3 224 yX3_replacingHolds ∈ AW := aw_t 594 (by decide +kernel) rfl
theorem a_i_X3_replacingHolds : Cond.instanceMethod yX3_replacingHolds ∈ AW := aw_t 596 (by decide +kernel) rfl
theorem a_c_X3_replacingHolds : Cond.code yX3_replacingHolds cX3_replacingHolds 3 (some .boolean) ∈ AW := aw_t 597 (by decide +kernel) rfl
theorem a_l_X3_228 : Cond.methodLink RX3 228 yX3_partingHolds ∈ AW := aw_t 598 (by decide +kernel) rfl
theorem a_i_X3_partingHolds : Cond.instanceMethod yX3_partingHolds ∈ AW := aw_t 600 (by decide +kernel) rfl
theorem a_c_X3_partingHolds : Cond.code yX3_partingHolds cX3_partingHolds 2 (some .boolean) ∈ AW := aw_t 601 (by decide +kernel) rfl
theorem a_l_L_214 : Cond.methodLink RL 214 yX3_keep ∈ AW := aw_t 602 (by decide +kernel) rfl
theorem a_i_X3_keep : Cond.instanceMethod yX3_keep ∈ AW := aw_t 603 (by decide +kernel) rfl
theorem a_s_X3_keep : Cond.selects RX3 yX3_keep yX3_keep ∈ AW := aw_t 604 (by decide +kernel) rfl
theorem a_c_X3_keep : Cond.code yX3_keep cX3_keep 2 (some .int) ∈ AW := aw_t 605 (by decide +kernel) rfl
theorem a_l_X3_232 : Cond.methodLink RX3 232 yJ9_floorMod_7cf53 ∈ AW := aw_t 606 (by decide +kernel) rfl
theorem a_l_X3_237 : Cond.methodLink RX3 237 yX0_become ∈ AW := aw_t 607 (by decide +kernel) rfl
theorem a_i_X0_become : Cond.instanceMethod yX0_become ∈ AW := aw_t 608 (by decide +kernel) rfl
theorem a_s_X0_become : Cond.selects RX0 yX0_become yX0_become ∈ AW := aw_t 609 (by decide +kernel) rfl
theorem a_c_X0_become : Cond.code yX0_become cX0_become 3 none ∈ AW := aw_t 610 (by decide +kernel) rfl
theorem a_l_X0_37 : Cond.methodLink RX0 37 yX2_become ∈ AW := aw_t 611 (by decide +kernel) rfl
theorem a_l_X0_41 : Cond.methodLink RX0 41 yX1_become ∈ AW := aw_t 612 (by decide +kernel) rfl
theorem a_i_X1_become : Cond.instanceMethod yX1_become ∈ AW := aw_t 613 (by decide +kernel) rfl
theorem a_s_X1_become : Cond.selects RX1 yX1_become yX1_become ∈ AW := aw_t 614 (by decide +kernel) rfl
theorem a_c_X1_become : Cond.code yX1_become cX1_become 3 none ∈ AW := aw_t 615 (by decide +kernel) rfl
theorem a_l_X1_67 : Cond.methodLink RX1 67 yX2_become ∈ AW := aw_t 616 (by decide +kernel) rfl
theorem a_l_X3_240 : Cond.methodLink RX3 240 yX0_sizeOfTexts ∈ AW := aw_t 617 (by decide +kernel) rfl
theorem a_i_X0_sizeOfTexts : Cond.instanceMethod yX0_sizeOfTexts ∈ AW := aw_t 618 (by decide +kernel) rfl
theorem a_s_X0_sizeOfTexts : Cond.selects RX0 yX0_sizeOfTexts yX0_sizeOfTexts ∈ AW := aw_t 619 (by decide +kernel) rfl
theorem a_c_X0_sizeOfTexts : Cond.code yX0_sizeOfTexts cX0_sizeOfTexts 3 (some .int) ∈ AW := aw_t 620 (by decide +kernel) rfl
theorem a_l_X0_44 : Cond.methodLink RX0 44 yX2_size ∈ AW := aw_t 621 (by decide +kernel) rfl
theorem a_l_L_218 : Cond.methodLink RL 218 yX3_back ∈ AW := aw_t 622 (by decide +kernel) rfl
theorem a_i_X3_back : Cond.instanceMethod yX3_back ∈ AW := aw_t 623 (by decide +kernel) rfl
theorem a_s_X3_back : Cond.selects RX3 yX3_back yX3_back ∈ AW := aw_t 624 (by decide +kernel) rfl
theorem a_c_X3_back : Cond.code yX3_back cX3_back 2 (some .int) ∈ AW := aw_t 625 (by decide +kernel) rfl
theorem a_l_L_222 : Cond.methodLink RL 222 yX3_digest ∈ AW := aw_t 626 (by decide +kernel) rfl
theorem a_i_X3_digest : Cond.instanceMethod yX3_digest ∈ AW := aw_t 627 (by decide +kernel) rfl
theorem a_s_X3_digest : Cond.selects RX3 yX3_digest yX3_digest ∈ AW := aw_t 628 (by decide +kernel) rfl
theorem a_c_X3_digest : Cond.code yX3_digest cX3_digest 5 (some .long) ∈ AW := aw_t 629 (by decide +kernel) rfl
theorem a_k_X3_243 : Cond.constantLong RX3 243 (17) ∈ AW := aw_t 630 (by decide +kernel) rfl
theorem a_l_X3_245 : Cond.methodLink RX3 245 yX2_foldSpan ∈ AW := aw_t 631 (by decide +kernel) rfl
theorem a_i_X2_foldSpan : Cond.instanceMethod yX2_foldSpan ∈ AW := aw_t 632 (by decide +kernel) rfl
theorem a_s_X2_foldSpan : Cond.selects RX2 yX2_foldSpan yX2_foldSpan ∈ AW := aw_t 633 (by decide +kernel) rfl
theorem a_c_X2_foldSpan : Cond.code yX2_foldSpan cX2_foldSpan 8 (some .long) ∈ AW := aw_t 634 (by decide +kernel) rfl
theorem a_k_X2_69 : Cond.constantLong RX2 69 (31) ∈ AW := aw_t 635 (by decide +kernel) rfl
theorem a_l_X3_249 : Cond.methodLink RX3 249 yX1_foldAll ∈ AW := aw_t 636 (by decide +kernel) rfl
theorem a_i_X1_foldAll : Cond.instanceMethod yX1_foldAll ∈ AW := aw_t 637 (by decide +kernel) rfl
theorem a_s_X1_foldAll : Cond.selects RX1 yX1_foldAll yX1_foldAll ∈ AW := aw_t 638 (by decide +kernel) rfl
theorem a_c_X1_foldAll : Cond.code yX1_foldAll cX1_foldAll 6 (some .long) ∈ AW := aw_t 639 (by decide +kernel) rfl
theorem a_l_X1_74 : Cond.methodLink RX1 74 yX2_foldSpan ∈ AW := aw_t 640 (by decide +kernel) rfl
theorem a_x_L_10 : Cond.classLink RL 10 RX4 ∈ AW := aw_t 641 (by decide +kernel) rfl
theorem a_m_X4 : Cond.instantiable RX4 14 ∈ AW := aw_t 642 (by decide +kernel) rfl
theorem a_l_L_12 : Cond.methodLink RL 12 yX4_init ∈ AW := aw_t 643 (by decide +kernel) rfl
theorem a_i_X4_init : Cond.instanceMethod yX4_init ∈ AW := aw_t 644 (by decide +kernel) rfl
theorem a_c_X4_init : Cond.code yX4_init cX4_init 1 none ∈ AW := aw_t 645 (by decide +kernel) rfl
theorem a_l_X4_1 : Cond.methodLink RX4 1 objectInit ∈ AW := aw_t 646 (by decide +kernel) rfl
theorem a_f_X4_7 : Cond.fieldLink RX4 7 "TextShelvesModel" "signs" "[I" ∈ AW := aw_t 647 (by decide +kernel) rfl
theorem a_f_X4_13 : Cond.fieldLink RX4 13 "TextShelvesModel" "sizes" "[I" ∈ AW := aw_t 648 (by decide +kernel) rfl
theorem a_f_X4_138 : Cond.fieldLink RX4 138 "TextShelvesModel" "pieceMany" "I" ∈ AW := aw_t 649 (by decide +kernel) rfl
theorem a_f_X4_16 : Cond.fieldLink RX4 16 "TextShelvesModel" "parted" "[I" ∈ AW := aw_t 650 (by decide +kernel) rfl
theorem a_f_X4_19 : Cond.fieldLink RX4 19 "TextShelvesModel" "pieceFroms" "[I" ∈ AW := aw_t 651 (by decide +kernel) rfl
theorem a_f_X4_22 : Cond.fieldLink RX4 22 "TextShelvesModel" "pieceSizes" "[I" ∈ AW := aw_t 652 (by decide +kernel) rfl
theorem a_f_X4_25 : Cond.fieldLink RX4 25 "TextShelvesModel" "keptSigns" "[I" ∈ AW := aw_t 653 (by decide +kernel) rfl
theorem a_f_X4_28 : Cond.fieldLink RX4 28 "TextShelvesModel" "keptSizes" "[I" ∈ AW := aw_t 654 (by decide +kernel) rfl
theorem a_f_X4_31 : Cond.fieldLink RX4 31 "TextShelvesModel" "keptMany" "[I" ∈ AW := aw_t 655 (by decide +kernel) rfl
theorem a_f_X4_34 : Cond.fieldLink RX4 34 "TextShelvesModel" "keptParted" "[I" ∈ AW := aw_t 656 (by decide +kernel) rfl
theorem a_f_X4_37 : Cond.fieldLink RX4 37 "TextShelvesModel" "keptFroms" "[I" ∈ AW := aw_t 657 (by decide +kernel) rfl
theorem a_f_X4_40 : Cond.fieldLink RX4 40 "TextShelvesModel" "keptPieceSizes" "[I" ∈ AW := aw_t 658 (by decide +kernel) rfl
theorem a_f_X4_43 : Cond.fieldLink RX4 43 "TextShelvesModel" "made" "[I" ∈ AW := aw_t 659 (by decide +kernel) rfl
theorem a_f_X4_54 : Cond.fieldLink RX4 54 "TextShelvesModel" "madeMany" "I" ∈ AW := aw_t 660 (by decide +kernel) rfl
theorem a_l_L_17 : Cond.methodLink RL 17 yX4_wipe ∈ AW := aw_t 690 (by decide +kernel) rfl
theorem a_i_X4_wipe : Cond.instanceMethod yX4_wipe ∈ AW := aw_t 691 (by decide +kernel) rfl
theorem a_s_X4_wipe : Cond.selects RX4 yX4_wipe yX4_wipe ∈ AW := aw_t 692 (by decide +kernel) rfl
theorem a_c_X4_wipe : Cond.code yX4_wipe cX4_wipe 3 (some .int) ∈ AW := aw_t 693 (by decide +kernel) rfl
theorem a_l_X4_67 : Cond.methodLink RX4 67 yX4_sizeOf ∈ AW := aw_t 694 (by decide +kernel) rfl
theorem a_i_X4_sizeOf : Cond.instanceMethod yX4_sizeOf ∈ AW := aw_t 696 (by decide +kernel) rfl
theorem a_c_X4_sizeOf : Cond.code yX4_sizeOf cX4_sizeOf 2 (some .int) ∈ AW := aw_t 697 (by decide +kernel) rfl
theorem a_l_X4_50 : Cond.methodLink RX4 50 yX4_meant ∈ AW := aw_t 698 (by decide +kernel) rfl
theorem a_t_X4_meant : Cond.static yX4_meant ∈ AW := aw_t 699 (by decide +kernel) rfl
theorem a_c_X4_meant : Cond.code yX4_meant cX4_meant 1 (some .int) ∈ AW := aw_t 700 (by decide +kernel) rfl
theorem a_l_L_22 : Cond.methodLink RL 22 yX4_type ∈ AW := aw_t 701 (by decide +kernel) rfl
theorem a_i_X4_type : Cond.instanceMethod yX4_type ∈ AW := aw_t 702 (by decide +kernel) rfl
theorem a_s_X4_type : Cond.selects RX4 yX4_type yX4_type ∈ AW := aw_t 703 (by decide +kernel) rfl
theorem a_c_X4_type : Cond.code yX4_type cX4_type 3 (some .int) ∈ AW := aw_t 704 (by decide +kernel) rfl
theorem a_l_X4_70 : Cond.methodLink RX4 70 yX4_isSign ∈ AW := aw_t 705 (by decide +kernel) rfl
theorem a_t_X4_isSign : Cond.static yX4_isSign ∈ AW := aw_t 706 (by decide +kernel) rfl
theorem a_c_X4_isSign : Cond.code yX4_isSign cX4_isSign 1 (some .boolean) ∈ AW := aw_t 707 (by decide +kernel) rfl
theorem a_l_X4_46 : Cond.methodLink RX4 46 yX4_isIn ∈ AW := aw_t 708 (by decide +kernel) rfl
theorem a_t_X4_isIn : Cond.static yX4_isIn ∈ AW := aw_t 709 (by decide +kernel) rfl
theorem a_c_X4_isIn : Cond.code yX4_isIn cX4_isIn 3 (some .boolean) ∈ AW := aw_t 710 (by decide +kernel) rfl
theorem a_k_X4_74 : Cond.constant RX4 74 (-1000001) ∈ AW := aw_t 711 (by decide +kernel) rfl
theorem a_l_X4_75 : Cond.methodLink RX4 75 yX4_begins ∈ AW := aw_t 712 (by decide +kernel) rfl
theorem a_i_X4_begins : Cond.instanceMethod yX4_begins ∈ AW := aw_t 714 (by decide +kernel) rfl
theorem a_c_X4_begins : Cond.code yX4_begins cX4_begins 1 none ∈ AW := aw_t 715 (by decide +kernel) rfl
theorem a_l_X4_78 : Cond.methodLink RX4 78 yX4_putsPart ∈ AW := aw_t 716 (by decide +kernel) rfl
theorem a_i_X4_putsPart : Cond.instanceMethod yX4_putsPart ∈ AW := aw_t 718 (by decide +kernel) rfl
theorem a_c_X4_putsPart : Cond.code yX4_putsPart cX4_putsPart 5 none ∈ AW := aw_t 719 (by decide +kernel) rfl
theorem a_l_X4_58 : Cond.methodLink RX4 58 yX4_signAt ∈ AW := aw_t 720 (by decide +kernel) rfl
theorem a_i_X4_signAt : Cond.instanceMethod yX4_signAt ∈ AW := aw_t 722 (by decide +kernel) rfl
theorem a_c_X4_signAt : Cond.code yX4_signAt cX4_signAt 3 (some .int) ∈ AW := aw_t 723 (by decide +kernel) rfl
theorem a_l_X4_62 : Cond.methodLink RX4 62 yX4_puts ∈ AW := aw_t 724 (by decide +kernel) rfl
theorem a_i_X4_puts : Cond.instanceMethod yX4_puts ∈ AW := aw_t 726 (by decide +kernel) rfl
theorem a_c_X4_puts : Cond.code yX4_puts cX4_puts 2 none ∈ AW := aw_t 727 (by decide +kernel) rfl
theorem a_l_X4_82 : Cond.methodLink RX4 82 yX4_lays ∈ AW := aw_t 728 (by decide +kernel) rfl
theorem a_i_X4_lays : Cond.instanceMethod yX4_lays ∈ AW := aw_t 730 (by decide +kernel) rfl
theorem a_c_X4_lays : Cond.code yX4_lays cX4_lays 4 (some .int) ∈ AW := aw_t 731 (by decide +kernel) rfl
theorem a_k_X4_66 : Cond.constant RX4 66 (-1000004) ∈ AW := aw_t 732 (by decide +kernel) rfl
theorem a_l_L_29 : Cond.methodLink RL 29 yX4_feed ∈ AW := aw_t 733 (by decide +kernel) rfl
theorem a_i_X4_feed : Cond.instanceMethod yX4_feed ∈ AW := aw_t 734 (by decide +kernel) rfl
theorem a_s_X4_feed : Cond.selects RX4 yX4_feed yX4_feed ∈ AW := aw_t 735 (by decide +kernel) rfl
theorem a_c_X4_feed : Cond.code yX4_feed cX4_feed 8 (some .int) ∈ AW := aw_t 736 (by decide +kernel) rfl
theorem a_k_X4_85 : Cond.constantLong RX4 85 (255) ∈ AW := aw_t 737 (by decide +kernel) rfl
theorem a_l_L_33 : Cond.methodLink RL 33 yX4_copy ∈ AW := aw_t 738 (by decide +kernel) rfl
theorem a_i_X4_copy : Cond.instanceMethod yX4_copy ∈ AW := aw_t 739 (by decide +kernel) rfl
theorem a_s_X4_copy : Cond.selects RX4 yX4_copy yX4_copy ∈ AW := aw_t 740 (by decide +kernel) rfl
theorem a_c_X4_copy : Cond.code yX4_copy cX4_copy 3 (some .int) ∈ AW := aw_t 741 (by decide +kernel) rfl
theorem a_l_L_37 : Cond.methodLink RL 37 yX4_swap ∈ AW := aw_t 742 (by decide +kernel) rfl
theorem a_i_X4_swap : Cond.instanceMethod yX4_swap ∈ AW := aw_t 743 (by decide +kernel) rfl
theorem a_s_X4_swap : Cond.selects RX4 yX4_swap yX4_swap ∈ AW := aw_t 744 (by decide +kernel) rfl
theorem a_c_X4_swap : Cond.code yX4_swap cX4_swap 7 (some .int) ∈ AW := aw_t 745 (by decide +kernel) rfl
theorem a_l_L_42 : Cond.methodLink RL 42 yX4_concat ∈ AW := aw_t 746 (by decide +kernel) rfl
theorem a_i_X4_concat : Cond.instanceMethod yX4_concat ∈ AW := aw_t 747 (by decide +kernel) rfl
theorem a_s_X4_concat : Cond.selects RX4 yX4_concat yX4_concat ∈ AW := aw_t 748 (by decide +kernel) rfl
theorem a_c_X4_concat : Cond.code yX4_concat cX4_concat 4 (some .int) ∈ AW := aw_t 749 (by decide +kernel) rfl
theorem a_l_L_47 : Cond.methodLink RL 47 yX4_substring ∈ AW := aw_t 750 (by decide +kernel) rfl
theorem a_i_X4_substring : Cond.instanceMethod yX4_substring ∈ AW := aw_t 751 (by decide +kernel) rfl
theorem a_s_X4_substring : Cond.selects RX4 yX4_substring yX4_substring ∈ AW := aw_t 752 (by decide +kernel) rfl
theorem a_c_X4_substring : Cond.code yX4_substring cX4_substring 5 (some .int) ∈ AW := aw_t 753 (by decide +kernel) rfl
theorem a_k_X4_87 : Cond.constant RX4 87 (-1000002) ∈ AW := aw_t 754 (by decide +kernel) rfl
theorem a_l_L_51 : Cond.methodLink RL 51 yX4_tail ∈ AW := aw_t 755 (by decide +kernel) rfl
theorem a_i_X4_tail : Cond.instanceMethod yX4_tail ∈ AW := aw_t 756 (by decide +kernel) rfl
theorem a_s_X4_tail : Cond.selects RX4 yX4_tail yX4_tail ∈ AW := aw_t 757 (by decide +kernel) rfl
theorem a_c_X4_tail : Cond.code yX4_tail cX4_tail 4 (some .int) ∈ AW := aw_t 758 (by decide +kernel) rfl
theorem a_l_X4_88 : Cond.methodLink RX4 88 yX4_substring ∈ AW := aw_t 759 (by decide +kernel) rfl
theorem a_l_L_55 : Cond.methodLink RL 55 yX4_number ∈ AW := aw_t 760 (by decide +kernel) rfl
theorem a_i_X4_number : Cond.instanceMethod yX4_number ∈ AW := aw_t 761 (by decide +kernel) rfl
theorem a_s_X4_number : Cond.selects RX4 yX4_number yX4_number ∈ AW := aw_t 762 (by decide +kernel) rfl
theorem a_c_X4_number : Cond.code yX4_number cX4_number 3 (some .int) ∈ AW := aw_t 763 (by decide +kernel) rfl
theorem a_l_X4_92 : Cond.methodLink RX4 92 yX4_big ∈ AW := aw_t 764 (by decide +kernel) rfl
theorem a_i_X4_big : Cond.instanceMethod yX4_big ∈ AW := aw_t 765 (by decide +kernel) rfl
theorem a_s_X4_big : Cond.selects RX4 yX4_big yX4_big ∈ AW := aw_t 766 (by decide +kernel) rfl
theorem a_c_X4_big : Cond.code yX4_big cX4_big 9 (some .int) ∈ AW := aw_t 767 (by decide +kernel) rfl
theorem a_k_X4_96 : Cond.constantLong RX4 96 (10) ∈ AW := aw_t 768 (by decide +kernel) rfl
theorem a_l_L_60 : Cond.methodLink RL 60 yX4_big ∈ AW := aw_t 769 (by decide +kernel) rfl
theorem a_l_L_64 : Cond.methodLink RL 64 yX4_length ∈ AW := aw_t 770 (by decide +kernel) rfl
theorem a_i_X4_length : Cond.instanceMethod yX4_length ∈ AW := aw_t 771 (by decide +kernel) rfl
theorem a_s_X4_length : Cond.selects RX4 yX4_length yX4_length ∈ AW := aw_t 772 (by decide +kernel) rfl
theorem a_c_X4_length : Cond.code yX4_length cX4_length 2 (some .int) ∈ AW := aw_t 773 (by decide +kernel) rfl
theorem a_l_L_69 : Cond.methodLink RL 69 yX4_isEmpty ∈ AW := aw_t 774 (by decide +kernel) rfl
theorem a_i_X4_isEmpty : Cond.instanceMethod yX4_isEmpty ∈ AW := aw_t 775 (by decide +kernel) rfl
theorem a_s_X4_isEmpty : Cond.selects RX4 yX4_isEmpty yX4_isEmpty ∈ AW := aw_t 776 (by decide +kernel) rfl
theorem a_c_X4_isEmpty : Cond.code yX4_isEmpty cX4_isEmpty 2 (some .boolean) ∈ AW := aw_t 777 (by decide +kernel) rfl
theorem a_l_L_73 : Cond.methodLink RL 73 yX4_isBlank ∈ AW := aw_t 778 (by decide +kernel) rfl
theorem a_i_X4_isBlank : Cond.instanceMethod yX4_isBlank ∈ AW := aw_t 779 (by decide +kernel) rfl
theorem a_s_X4_isBlank : Cond.selects RX4 yX4_isBlank yX4_isBlank ∈ AW := aw_t 780 (by decide +kernel) rfl
theorem a_c_X4_isBlank : Cond.code yX4_isBlank cX4_isBlank 4 (some .boolean) ∈ AW := aw_t 781 (by decide +kernel) rfl
theorem a_l_X4_98 : Cond.methodLink RX4 98 yX4_isBlankSign ∈ AW := aw_t 782 (by decide +kernel) rfl
theorem a_t_X4_isBlankSign : Cond.static yX4_isBlankSign ∈ AW := aw_t 783 (by decide +kernel) rfl
theorem a_c_X4_isBlankSign : Cond.code yX4_isBlankSign cX4_isBlankSign 1 (some .boolean) ∈ AW := aw_t 784 (by decide +kernel) rfl
theorem a_l_L_77 : Cond.methodLink RL 77 yX4_charAt ∈ AW := aw_t 785 (by decide +kernel) rfl
theorem a_i_X4_charAt : Cond.instanceMethod yX4_charAt ∈ AW := aw_t 786 (by decide +kernel) rfl
theorem a_s_X4_charAt : Cond.selects RX4 yX4_charAt yX4_charAt ∈ AW := aw_t 787 (by decide +kernel) rfl
theorem a_c_X4_charAt : Cond.code yX4_charAt cX4_charAt 3 (some .int) ∈ AW := aw_t 788 (by decide +kernel) rfl
theorem a_l_L_81 : Cond.methodLink RL 81 yX4_hash ∈ AW := aw_t 789 (by decide +kernel) rfl
theorem a_i_X4_hash : Cond.instanceMethod yX4_hash ∈ AW := aw_t 790 (by decide +kernel) rfl
theorem a_s_X4_hash : Cond.selects RX4 yX4_hash yX4_hash ∈ AW := aw_t 791 (by decide +kernel) rfl
theorem a_c_X4_hash : Cond.code yX4_hash cX4_hash 4 (some .int) ∈ AW := aw_t 792 (by decide +kernel) rfl
theorem a_l_L_85 : Cond.methodLink RL 85 yX4_first ∈ AW := aw_t 793 (by decide +kernel) rfl
theorem a_i_X4_first : Cond.instanceMethod yX4_first ∈ AW := aw_t 794 (by decide +kernel) rfl
theorem a_s_X4_first : Cond.selects RX4 yX4_first yX4_first ∈ AW := aw_t 795 (by decide +kernel) rfl
theorem a_c_X4_first : Cond.code yX4_first cX4_first 3 (some .int) ∈ AW := aw_t 796 (by decide +kernel) rfl
theorem a_l_X4_101 : Cond.methodLink RX4 101 yX4_firstFrom ∈ AW := aw_t 797 (by decide +kernel) rfl
theorem a_i_X4_firstFrom : Cond.instanceMethod yX4_firstFrom ∈ AW := aw_t 798 (by decide +kernel) rfl
theorem a_s_X4_firstFrom : Cond.selects RX4 yX4_firstFrom yX4_firstFrom ∈ AW := aw_t 799 (by decide +kernel) rfl
theorem a_c_X4_firstFrom : Cond.code yX4_firstFrom cX4_firstFrom 6 (some .int) ∈ AW := aw_t 800 (by decide +kernel) rfl
theorem a_l_L_89 : Cond.methodLink RL 89 yX4_firstFrom ∈ AW := aw_t 801 (by decide +kernel) rfl
theorem a_l_L_93 : Cond.methodLink RL 93 yX4_last ∈ AW := aw_t 802 (by decide +kernel) rfl
theorem a_i_X4_last : Cond.instanceMethod yX4_last ∈ AW := aw_t 803 (by decide +kernel) rfl
theorem a_s_X4_last : Cond.selects RX4 yX4_last yX4_last ∈ AW := aw_t 804 (by decide +kernel) rfl
theorem a_c_X4_last : Cond.code yX4_last cX4_last 3 (some .int) ∈ AW := aw_t 805 (by decide +kernel) rfl
theorem a_l_X4_105 : Cond.methodLink RX4 105 yX4_lastFrom ∈ AW := aw_t 806 (by decide +kernel) rfl
theorem a_i_X4_lastFrom : Cond.instanceMethod yX4_lastFrom ∈ AW := aw_t 807 (by decide +kernel) rfl
theorem a_s_X4_lastFrom : Cond.selects RX4 yX4_lastFrom yX4_lastFrom ∈ AW := aw_t 808 (by decide +kernel) rfl
theorem a_c_X4_lastFrom : Cond.code yX4_lastFrom cX4_lastFrom 6 (some .int) ∈ AW := aw_t 809 (by decide +kernel) rfl
theorem a_l_L_97 : Cond.methodLink RL 97 yX4_lastFrom ∈ AW := aw_t 810 (by decide +kernel) rfl
theorem a_l_L_101 : Cond.methodLink RL 101 yX4_find ∈ AW := aw_t 811 (by decide +kernel) rfl
theorem a_i_X4_find : Cond.instanceMethod yX4_find ∈ AW := aw_t 812 (by decide +kernel) rfl
theorem a_s_X4_find : Cond.selects RX4 yX4_find yX4_find ∈ AW := aw_t 813 (by decide +kernel) rfl
theorem a_c_X4_find : Cond.code yX4_find cX4_find 3 (some .int) ∈ AW := aw_t 814 (by decide +kernel) rfl
theorem a_l_X4_108 : Cond.methodLink RX4 108 yX4_findFrom ∈ AW := aw_t 815 (by decide +kernel) rfl
theorem a_i_X4_findFrom : Cond.instanceMethod yX4_findFrom ∈ AW := aw_t 816 (by decide +kernel) rfl
theorem a_s_X4_findFrom : Cond.selects RX4 yX4_findFrom yX4_findFrom ∈ AW := aw_t 817 (by decide +kernel) rfl
theorem a_c_X4_findFrom : Cond.code yX4_findFrom cX4_findFrom 7 (some .int) ∈ AW := aw_t 818 (by decide +kernel) rfl
theorem a_l_X4_111 : Cond.methodLink RX4 111 yX4_stands ∈ AW := aw_t 819 (by decide +kernel) rfl
theorem a_i_X4_stands : Cond.instanceMethod yX4_stands ∈ AW := aw_t 821 (by decide +kernel) rfl
theorem a_c_X4_stands : Cond.code yX4_stands cX4_stands 7 (some .boolean) ∈ AW := aw_t 822 (by decide +kernel) rfl
theorem a_l_L_105 : Cond.methodLink RL 105 yX4_findFrom ∈ AW := aw_t 823 (by decide +kernel) rfl
theorem a_l_L_109 : Cond.methodLink RL 109 yX4_findLast ∈ AW := aw_t 824 (by decide +kernel) rfl
theorem a_i_X4_findLast : Cond.instanceMethod yX4_findLast ∈ AW := aw_t 825 (by decide +kernel) rfl
theorem a_s_X4_findLast : Cond.selects RX4 yX4_findLast yX4_findLast ∈ AW := aw_t 826 (by decide +kernel) rfl
theorem a_c_X4_findLast : Cond.code yX4_findLast cX4_findLast 3 (some .int) ∈ AW := aw_t 827 (by decide +kernel) rfl
theorem a_l_X4_114 : Cond.methodLink RX4 114 yX4_findLastFrom ∈ AW := aw_t 828 (by decide +kernel) rfl
theorem a_i_X4_findLastFrom : Cond.instanceMethod yX4_findLastFrom ∈ AW := aw_t 829 (by decide +kernel) rfl
theorem a_s_X4_findLastFrom : Cond.selects RX4 yX4_findLastFrom yX4_findLastFrom ∈ AW := aw_t 830 (by decide +kernel) rfl
theorem a_c_X4_findLastFrom : Cond.code yX4_findLastFrom cX4_findLastFrom 6 (some .int) ∈ AW := aw_t 831 (by decide +kernel) rfl
theorem a_l_L_113 : Cond.methodLink RL 113 yX4_findLastFrom ∈ AW := aw_t 832 (by decide +kernel) rfl
theorem a_l_L_118 : Cond.methodLink RL 118 yX4_contains ∈ AW := aw_t 833 (by decide +kernel) rfl
theorem a_i_X4_contains : Cond.instanceMethod yX4_contains ∈ AW := aw_t 834 (by decide +kernel) rfl
theorem a_s_X4_contains : Cond.selects RX4 yX4_contains yX4_contains ∈ AW := aw_t 835 (by decide +kernel) rfl
theorem a_c_X4_contains : Cond.code yX4_contains cX4_contains 3 (some .boolean) ∈ AW := aw_t 836 (by decide +kernel) rfl
theorem a_l_X4_117 : Cond.methodLink RX4 117 yX4_find ∈ AW := aw_t 837 (by decide +kernel) rfl
theorem a_l_L_122 : Cond.methodLink RL 122 yX4_starts ∈ AW := aw_t 838 (by decide +kernel) rfl
theorem a_i_X4_starts : Cond.instanceMethod yX4_starts ∈ AW := aw_t 839 (by decide +kernel) rfl
theorem a_s_X4_starts : Cond.selects RX4 yX4_starts yX4_starts ∈ AW := aw_t 840 (by decide +kernel) rfl
theorem a_c_X4_starts : Cond.code yX4_starts cX4_starts 3 (some .boolean) ∈ AW := aw_t 841 (by decide +kernel) rfl
theorem a_l_L_127 : Cond.methodLink RL 127 yX4_startsAt ∈ AW := aw_t 842 (by decide +kernel) rfl
theorem a_i_X4_startsAt : Cond.instanceMethod yX4_startsAt ∈ AW := aw_t 843 (by decide +kernel) rfl
theorem a_s_X4_startsAt : Cond.selects RX4 yX4_startsAt yX4_startsAt ∈ AW := aw_t 844 (by decide +kernel) rfl
theorem a_c_X4_startsAt : Cond.code yX4_startsAt cX4_startsAt 4 (some .boolean) ∈ AW := aw_t 845 (by decide +kernel) rfl
theorem a_l_L_131 : Cond.methodLink RL 131 yX4_ends ∈ AW := aw_t 846 (by decide +kernel) rfl
theorem a_i_X4_ends : Cond.instanceMethod yX4_ends ∈ AW := aw_t 847 (by decide +kernel) rfl
theorem a_s_X4_ends : Cond.selects RX4 yX4_ends yX4_ends ∈ AW := aw_t 848 (by decide +kernel) rfl
theorem a_c_X4_ends : Cond.code yX4_ends cX4_ends 3 (some .boolean) ∈ AW := aw_t 849 (by decide +kernel) rfl
theorem a_l_L_136 : Cond.methodLink RL 136 yX4_region ∈ AW := aw_t 850 (by decide +kernel) rfl
theorem a_i_X4_region : Cond.instanceMethod yX4_region ∈ AW := aw_t 851 (by decide +kernel) rfl
theorem a_s_X4_region : Cond.selects RX4 yX4_region yX4_region ∈ AW := aw_t 852 (by decide +kernel) rfl
theorem a_c_X4_region : Cond.code yX4_region cX4_region 6 (some .boolean) ∈ AW := aw_t 853 (by decide +kernel) rfl
theorem a_l_X4_123 : Cond.methodLink RX4 123 yX4_isRegion ∈ AW := aw_t 854 (by decide +kernel) rfl
theorem a_i_X4_isRegion : Cond.instanceMethod yX4_isRegion ∈ AW := aw_t 856 (by decide +kernel) rfl
theorem a_c_X4_isRegion : Cond.code yX4_isRegion cX4_isRegion 11 (some .boolean) ∈ AW := aw_t 857 (by decide +kernel) rfl
theorem a_l_X4_120 : Cond.methodLink RX4 120 yX4_small ∈ AW := aw_t 858 (by decide +kernel) rfl
theorem a_t_X4_small : Cond.static yX4_small ∈ AW := aw_t 859 (by decide +kernel) rfl
theorem a_c_X4_small : Cond.code yX4_small cX4_small 1 (some .int) ∈ AW := aw_t 860 (by decide +kernel) rfl
theorem a_l_L_140 : Cond.methodLink RL 140 yX4_regionAlike ∈ AW := aw_t 861 (by decide +kernel) rfl
theorem a_i_X4_regionAlike : Cond.instanceMethod yX4_regionAlike ∈ AW := aw_t 862 (by decide +kernel) rfl
theorem a_s_X4_regionAlike : Cond.selects RX4 yX4_regionAlike yX4_regionAlike ∈ AW := aw_t 863 (by decide +kernel) rfl
theorem a_c_X4_regionAlike : Cond.code yX4_regionAlike cX4_regionAlike 6 (some .boolean) ∈ AW := aw_t 864 (by decide +kernel) rfl
theorem a_l_L_144 : Cond.methodLink RL 144 yX4_same ∈ AW := aw_t 865 (by decide +kernel) rfl
theorem a_i_X4_same : Cond.instanceMethod yX4_same ∈ AW := aw_t 866 (by decide +kernel) rfl
theorem a_s_X4_same : Cond.selects RX4 yX4_same yX4_same ∈ AW := aw_t 867 (by decide +kernel) rfl
theorem a_c_X4_same : Cond.code yX4_same cX4_same 3 (some .boolean) ∈ AW := aw_t 868 (by decide +kernel) rfl
theorem a_l_L_148 : Cond.methodLink RL 148 yX4_alike ∈ AW := aw_t 869 (by decide +kernel) rfl
theorem a_i_X4_alike : Cond.instanceMethod yX4_alike ∈ AW := aw_t 870 (by decide +kernel) rfl
theorem a_s_X4_alike : Cond.selects RX4 yX4_alike yX4_alike ∈ AW := aw_t 871 (by decide +kernel) rfl
theorem a_c_X4_alike : Cond.code yX4_alike cX4_alike 3 (some .boolean) ∈ AW := aw_t 872 (by decide +kernel) rfl
theorem a_l_L_152 : Cond.methodLink RL 152 yX4_compare ∈ AW := aw_t 873 (by decide +kernel) rfl
theorem a_i_X4_compare : Cond.instanceMethod yX4_compare ∈ AW := aw_t 874 (by decide +kernel) rfl
theorem a_s_X4_compare : Cond.selects RX4 yX4_compare yX4_compare ∈ AW := aw_t 875 (by decide +kernel) rfl
theorem a_c_X4_compare : Cond.code yX4_compare cX4_compare 3 (some .int) ∈ AW := aw_t 876 (by decide +kernel) rfl
theorem a_l_X4_127 : Cond.methodLink RX4 127 yX4_order ∈ AW := aw_t 877 (by decide +kernel) rfl
theorem a_i_X4_order : Cond.instanceMethod yX4_order ∈ AW := aw_t 879 (by decide +kernel) rfl
theorem a_c_X4_order : Cond.code yX4_order cX4_order 7 (some .int) ∈ AW := aw_t 880 (by decide +kernel) rfl
theorem a_l_L_156 : Cond.methodLink RL 156 yX4_compareAlike ∈ AW := aw_t 881 (by decide +kernel) rfl
theorem a_i_X4_compareAlike : Cond.instanceMethod yX4_compareAlike ∈ AW := aw_t 882 (by decide +kernel) rfl
theorem a_s_X4_compareAlike : Cond.selects RX4 yX4_compareAlike yX4_compareAlike ∈ AW := aw_t 883 (by decide +kernel) rfl
theorem a_c_X4_compareAlike : Cond.code yX4_compareAlike cX4_compareAlike 4 (some .int) ∈ AW := aw_t 884 (by decide +kernel) rfl
theorem a_l_L_160 : Cond.methodLink RL 160 yX4_replaceSign ∈ AW := aw_t 885 (by decide +kernel) rfl
theorem a_i_X4_replaceSign : Cond.instanceMethod yX4_replaceSign ∈ AW := aw_t 886 (by decide +kernel) rfl
theorem a_s_X4_replaceSign : Cond.selects RX4 yX4_replaceSign yX4_replaceSign ∈ AW := aw_t 887 (by decide +kernel) rfl
theorem a_c_X4_replaceSign : Cond.code yX4_replaceSign cX4_replaceSign 6 (some .int) ∈ AW := aw_t 888 (by decide +kernel) rfl
theorem a_l_L_164 : Cond.methodLink RL 164 yX4_replaceText ∈ AW := aw_t 889 (by decide +kernel) rfl
theorem a_i_X4_replaceText : Cond.instanceMethod yX4_replaceText ∈ AW := aw_t 890 (by decide +kernel) rfl
theorem a_s_X4_replaceText : Cond.selects RX4 yX4_replaceText yX4_replaceText ∈ AW := aw_t 891 (by decide +kernel) rfl
theorem a_c_X4_replaceText : Cond.code yX4_replaceText cX4_replaceText 6 (some .int) ∈ AW := aw_t 892 (by decide +kernel) rfl
theorem a_l_L_168 : Cond.methodLink RL 168 yX4_trim ∈ AW := aw_t 893 (by decide +kernel) rfl
theorem a_i_X4_trim : Cond.instanceMethod yX4_trim ∈ AW := aw_t 894 (by decide +kernel) rfl
theorem a_s_X4_trim : Cond.selects RX4 yX4_trim yX4_trim ∈ AW := aw_t 895 (by decide +kernel) rfl
theorem a_c_X4_trim : Cond.code yX4_trim cX4_trim 3 (some .int) ∈ AW := aw_t 896 (by decide +kernel) rfl
theorem a_l_X4_131 : Cond.methodLink RX4 131 yX4_strips ∈ AW := aw_t 897 (by decide +kernel) rfl
theorem a_i_X4_strips : Cond.instanceMethod yX4_strips ∈ AW := aw_t 899 (by decide +kernel) rfl
theorem a_c_X4_strips : Cond.code yX4_strips cX4_strips 9 (some .int) ∈ AW := aw_t 900 (by decide +kernel) rfl
theorem a_l_L_172 : Cond.methodLink RL 172 yX4_strip ∈ AW := aw_t 901 (by decide +kernel) rfl
theorem a_i_X4_strip : Cond.instanceMethod yX4_strip ∈ AW := aw_t 902 (by decide +kernel) rfl
theorem a_s_X4_strip : Cond.selects RX4 yX4_strip yX4_strip ∈ AW := aw_t 903 (by decide +kernel) rfl
theorem a_c_X4_strip : Cond.code yX4_strip cX4_strip 3 (some .int) ∈ AW := aw_t 904 (by decide +kernel) rfl
theorem a_l_L_176 : Cond.methodLink RL 176 yX4_repeat ∈ AW := aw_t 905 (by decide +kernel) rfl
theorem a_i_X4_repeat : Cond.instanceMethod yX4_repeat ∈ AW := aw_t 906 (by decide +kernel) rfl
theorem a_s_X4_repeat : Cond.selects RX4 yX4_repeat yX4_repeat ∈ AW := aw_t 907 (by decide +kernel) rfl
theorem a_c_X4_repeat : Cond.code yX4_repeat cX4_repeat 5 (some .int) ∈ AW := aw_t 908 (by decide +kernel) rfl
theorem a_k_X4_135 : Cond.constant RX4 135 (-1000003) ∈ AW := aw_t 909 (by decide +kernel) rfl
theorem a_k_X4_136 : Cond.constantLong RX4 136 (300) ∈ AW := aw_t 910 (by decide +kernel) rfl
theorem a_l_L_180 : Cond.methodLink RL 180 yX4_turn ∈ AW := aw_t 911 (by decide +kernel) rfl
theorem a_i_X4_turn : Cond.instanceMethod yX4_turn ∈ AW := aw_t 912 (by decide +kernel) rfl
theorem a_s_X4_turn : Cond.selects RX4 yX4_turn yX4_turn ∈ AW := aw_t 913 (by decide +kernel) rfl
theorem a_c_X4_turn : Cond.code yX4_turn cX4_turn 4 (some .int) ∈ AW := aw_t 914 (by decide +kernel) rfl
theorem a_l_L_184 : Cond.methodLink RL 184 yX4_part ∈ AW := aw_t 915 (by decide +kernel) rfl
theorem a_i_X4_part : Cond.instanceMethod yX4_part ∈ AW := aw_t 916 (by decide +kernel) rfl
theorem a_s_X4_part : Cond.selects RX4 yX4_part yX4_part ∈ AW := aw_t 917 (by decide +kernel) rfl
theorem a_c_X4_part : Cond.code yX4_part cX4_part 6 (some .int) ∈ AW := aw_t 918 (by decide +kernel) rfl
theorem a_l_X4_141 : Cond.methodLink RX4 141 yX4_isSpecial ∈ AW := aw_t 919 (by decide +kernel) rfl
theorem a_t_X4_isSpecial : Cond.static yX4_isSpecial ∈ AW := aw_t 920 (by decide +kernel) rfl
theorem a_c_X4_isSpecial : Cond.code yX4_isSpecial cX4_isSpecial 1 (some .boolean) ∈ AW := aw_t 921 (by decide +kernel) rfl
theorem a_l_X4_144 : Cond.methodLink RX4 144 yX4_addPiece ∈ AW := aw_t 922 (by decide +kernel) rfl
theorem a_i_X4_addPiece : Cond.instanceMethod yX4_addPiece ∈ AW := aw_t 924 (by decide +kernel) rfl
theorem a_c_X4_addPiece : Cond.code yX4_addPiece cX4_addPiece 3 none ∈ AW := aw_t 925 (by decide +kernel) rfl
theorem a_l_L_189 : Cond.methodLink RL 189 yX4_pieces ∈ AW := aw_t 926 (by decide +kernel) rfl
theorem a_i_X4_pieces : Cond.instanceMethod yX4_pieces ∈ AW := aw_t 927 (by decide +kernel) rfl
theorem a_s_X4_pieces : Cond.selects RX4 yX4_pieces yX4_pieces ∈ AW := aw_t 928 (by decide +kernel) rfl
theorem a_c_X4_pieces : Cond.code yX4_pieces cX4_pieces 1 (some .int) ∈ AW := aw_t 929 (by decide +kernel) rfl
theorem a_l_L_193 : Cond.methodLink RL 193 yX4_piece ∈ AW := aw_t 930 (by decide +kernel) rfl
theorem a_i_X4_piece : Cond.instanceMethod yX4_piece ∈ AW := aw_t 931 (by decide +kernel) rfl
theorem a_s_X4_piece : Cond.selects RX4 yX4_piece yX4_piece ∈ AW := aw_t 932 (by decide +kernel) rfl
theorem a_c_X4_piece : Cond.code yX4_piece cX4_piece 3 (some .int) ∈ AW := aw_t 933 (by decide +kernel) rfl
theorem a_l_X4_148 : Cond.methodLink RX4 148 yX4_putsPiece ∈ AW := aw_t 934 (by decide +kernel) rfl
theorem a_i_X4_putsPiece : Cond.instanceMethod yX4_putsPiece ∈ AW := aw_t 936 (by decide +kernel) rfl
theorem a_c_X4_putsPiece : Cond.code yX4_putsPiece cX4_putsPiece 3 none ∈ AW := aw_t 937 (by decide +kernel) rfl
theorem a_l_L_197 : Cond.methodLink RL 197 yX4_join ∈ AW := aw_t 938 (by decide +kernel) rfl
theorem a_i_X4_join : Cond.instanceMethod yX4_join ∈ AW := aw_t 939 (by decide +kernel) rfl
theorem a_s_X4_join : Cond.selects RX4 yX4_join yX4_join ∈ AW := aw_t 940 (by decide +kernel) rfl
theorem a_c_X4_join : Cond.code yX4_join cX4_join 4 (some .int) ∈ AW := aw_t 941 (by decide +kernel) rfl
theorem a_l_L_201 : Cond.methodLink RL 201 yX4_count ∈ AW := aw_t 942 (by decide +kernel) rfl
theorem a_i_X4_count : Cond.instanceMethod yX4_count ∈ AW := aw_t 943 (by decide +kernel) rfl
theorem a_s_X4_count : Cond.selects RX4 yX4_count yX4_count ∈ AW := aw_t 944 (by decide +kernel) rfl
theorem a_c_X4_count : Cond.code yX4_count cX4_count 3 (some .int) ∈ AW := aw_t 945 (by decide +kernel) rfl
theorem a_l_X4_151 : Cond.methodLink RX4 151 yX4_finds ∈ AW := aw_t 946 (by decide +kernel) rfl
theorem a_i_X4_finds : Cond.instanceMethod yX4_finds ∈ AW := aw_t 948 (by decide +kernel) rfl
theorem a_c_X4_finds : Cond.code yX4_finds cX4_finds 6 (some .int) ∈ AW := aw_t 949 (by decide +kernel) rfl
theorem a_l_L_205 : Cond.methodLink RL 205 yX4_head ∈ AW := aw_t 950 (by decide +kernel) rfl
theorem a_i_X4_head : Cond.instanceMethod yX4_head ∈ AW := aw_t 951 (by decide +kernel) rfl
theorem a_s_X4_head : Cond.selects RX4 yX4_head yX4_head ∈ AW := aw_t 952 (by decide +kernel) rfl
theorem a_c_X4_head : Cond.code yX4_head cX4_head 4 (some .int) ∈ AW := aw_t 953 (by decide +kernel) rfl
theorem a_l_L_209 : Cond.methodLink RL 209 yX4_foot ∈ AW := aw_t 954 (by decide +kernel) rfl
theorem a_i_X4_foot : Cond.instanceMethod yX4_foot ∈ AW := aw_t 955 (by decide +kernel) rfl
theorem a_s_X4_foot : Cond.selects RX4 yX4_foot yX4_foot ∈ AW := aw_t 956 (by decide +kernel) rfl
theorem a_c_X4_foot : Cond.code yX4_foot cX4_foot 4 (some .int) ∈ AW := aw_t 957 (by decide +kernel) rfl
theorem a_l_L_213 : Cond.methodLink RL 213 yX4_holds ∈ AW := aw_t 958 (by decide +kernel) rfl
theorem a_i_X4_holds : Cond.instanceMethod yX4_holds ∈ AW := aw_t 959 (by decide +kernel) rfl
theorem a_s_X4_holds : Cond.selects RX4 yX4_holds yX4_holds ∈ AW := aw_t 960 (by decide +kernel) rfl
theorem a_c_X4_holds : Cond.code yX4_holds cX4_holds 4 (some .boolean) ∈ AW := aw_t 961 (by decide +kernel) rfl
theorem a_l_X4_164 : Cond.methodLink RX4 164 yX4_arePlacesSo ∈ AW := aw_t 962 (by decide +kernel) rfl
theorem a_i_X4_arePlacesSo : Cond.instanceMethod yX4_arePlacesSo ∈ AW := aw_t 964 (by decide +kernel) rfl
theorem a_c_X4_arePlacesSo : Cond.code yX4_arePlacesSo cX4_arePlacesSo 10 (some .boolean) ∈ AW := aw_t 965 (by decide +kernel) rfl
theorem a_l_X4_167 : Cond.methodLink RX4 167 yX4_isOrderSo ∈ AW := aw_t 966 (by decide +kernel) rfl
theorem a_i_X4_isOrderSo : Cond.instanceMethod yX4_isOrderSo ∈ AW := aw_t 968 (by decide +kernel) rfl
theorem a_c_X4_isOrderSo : Cond.code yX4_isOrderSo cX4_isOrderSo 7 (some .boolean) ∈ AW := aw_t 969 (by decide +kernel) rfl
theorem a_l_X4_154 : Cond.methodLink RX4 154 yX4_compare ∈ AW := aw_t 970 (by decide +kernel) rfl
theorem a_l_X4_157 : Cond.methodLink RX4 157 yX4_head ∈ AW := aw_t 971 (by decide +kernel) rfl
theorem a_l_X4_160 : Cond.methodLink RX4 160 yX4_same ∈ AW := aw_t 972 (by decide +kernel) rfl
theorem a_l_X4_170 : Cond.methodLink RX4 170 yX4_areFindsSo ∈ AW := aw_t 973 (by decide +kernel) rfl
theorem a_i_X4_areFindsSo : Cond.instanceMethod yX4_areFindsSo ∈ AW := aw_t 975 (by decide +kernel) rfl
theorem a_c_X4_areFindsSo : Cond.code yX4_areFindsSo cX4_areFindsSo 6 (some .boolean) ∈ AW := aw_t 976 (by decide +kernel) rfl
theorem a_l_X4_173 : Cond.methodLink RX4 173 yX4_arePiecesSo ∈ AW := aw_t 977 (by decide +kernel) rfl
theorem a_i_X4_arePiecesSo : Cond.instanceMethod yX4_arePiecesSo ∈ AW := aw_t 979 (by decide +kernel) rfl
theorem a_c_X4_arePiecesSo : Cond.code yX4_arePiecesSo cX4_arePiecesSo 5 (some .boolean) ∈ AW := aw_t 980 (by decide +kernel) rfl
theorem a_l_L_217 : Cond.methodLink RL 217 yX4_keep ∈ AW := aw_t 981 (by decide +kernel) rfl
theorem a_i_X4_keep : Cond.instanceMethod yX4_keep ∈ AW := aw_t 982 (by decide +kernel) rfl
theorem a_s_X4_keep : Cond.selects RX4 yX4_keep yX4_keep ∈ AW := aw_t 983 (by decide +kernel) rfl
theorem a_c_X4_keep : Cond.code yX4_keep cX4_keep 3 (some .int) ∈ AW := aw_t 984 (by decide +kernel) rfl
theorem a_l_X4_176 : Cond.methodLink RX4 176 yX4_moves ∈ AW := aw_t 985 (by decide +kernel) rfl
theorem a_t_X4_moves : Cond.static yX4_moves ∈ AW := aw_t 986 (by decide +kernel) rfl
theorem a_c_X4_moves : Cond.code yX4_moves cX4_moves 6 none ∈ AW := aw_t 987 (by decide +kernel) rfl
theorem a_l_X4_180 : Cond.methodLink RX4 180 yX4_allSigns ∈ AW := aw_t 988 (by decide +kernel) rfl
theorem a_i_X4_allSigns : Cond.instanceMethod yX4_allSigns ∈ AW := aw_t 990 (by decide +kernel) rfl
theorem a_c_X4_allSigns : Cond.code yX4_allSigns cX4_allSigns 3 (some .int) ∈ AW := aw_t 991 (by decide +kernel) rfl
theorem a_l_L_221 : Cond.methodLink RL 221 yX4_back ∈ AW := aw_t 992 (by decide +kernel) rfl
theorem a_i_X4_back : Cond.instanceMethod yX4_back ∈ AW := aw_t 993 (by decide +kernel) rfl
theorem a_s_X4_back : Cond.selects RX4 yX4_back yX4_back ∈ AW := aw_t 994 (by decide +kernel) rfl
theorem a_c_X4_back : Cond.code yX4_back cX4_back 3 (some .int) ∈ AW := aw_t 995 (by decide +kernel) rfl
theorem a_l_L_226 : Cond.methodLink RL 226 yX4_digest ∈ AW := aw_t 996 (by decide +kernel) rfl
theorem a_i_X4_digest : Cond.instanceMethod yX4_digest ∈ AW := aw_t 997 (by decide +kernel) rfl
theorem a_s_X4_digest : Cond.selects RX4 yX4_digest yX4_digest ∈ AW := aw_t 998 (by decide +kernel) rfl
theorem a_c_X4_digest : Cond.code yX4_digest cX4_digest 5 (some .long) ∈ AW := aw_t 999 (by decide +kernel) rfl
theorem a_k_X4_184 : Cond.constantLong RX4 184 (17) ∈ AW := aw_t 1000 (by decide +kernel) rfl
theorem a_k_X4_186 : Cond.constantLong RX4 186 (31) ∈ AW := aw_t 1001 (by decide +kernel) rfl
theorem a_k_L_23 : Cond.constantLong RL 23 (4294967295) ∈ AW := aw_t 1002 (by decide +kernel) rfl
theorem a_f_J0_15 : Cond.fieldLink RJ0 15 "java/lang/String" "coder" "B" ∈ AW := aw_t 1003 (by decide +kernel) rfl
theorem a_f_J0_9 : Cond.fieldLink RJ0 9 "java/lang/String" "value" "[B" ∈ AW := aw_t 1004 (by decide +kernel) rfl
theorem a_s_X3_lay : Cond.selects RX3 yX3_lay yX3_lay ∈ AW := aw_s 0 (by decide +kernel) rfl
theorem a_s_X3_layBare : Cond.selects RX3 yX3_layBare yX3_layBare ∈ AW := aw_s 1 (by decide +kernel) rfl
theorem a_s_X1_endPiece : Cond.selects RX1 yX1_endPiece yX1_endPiece ∈ AW := aw_s 2 (by decide +kernel) rfl
theorem a_s_X1_addEnd : Cond.selects RX1 yX1_addEnd yX1_addEnd ∈ AW := aw_s 3 (by decide +kernel) rfl
theorem a_s_X1_leaveOutEmptyEnd : Cond.selects RX1 yX1_leaveOutEmptyEnd yX1_leaveOutEmptyEnd ∈ AW := aw_s 4 (by decide +kernel) rfl
theorem a_s_X1_startOf : Cond.selects RX1 yX1_startOf yX1_startOf ∈ AW := aw_s 5 (by decide +kernel) rfl
theorem a_s_X1_endOf : Cond.selects RX1 yX1_endOf yX1_endOf ∈ AW := aw_s 6 (by decide +kernel) rfl
theorem a_s_X3_firstPlaceHolds : Cond.selects RX3 yX3_firstPlaceHolds yX3_firstPlaceHolds ∈ AW := aw_s 7 (by decide +kernel) rfl
theorem a_s_X3_lastPlaceHolds : Cond.selects RX3 yX3_lastPlaceHolds yX3_lastPlaceHolds ∈ AW := aw_s 8 (by decide +kernel) rfl
theorem a_s_X3_orderHolds : Cond.selects RX3 yX3_orderHolds yX3_orderHolds ∈ AW := aw_s 9 (by decide +kernel) rfl
theorem a_s_X3_replacingHolds : Cond.selects RX3 yX3_replacingHolds yX3_replacingHolds ∈ AW := aw_s 10 (by decide +kernel) rfl
theorem a_s_X3_partingHolds : Cond.selects RX3 yX3_partingHolds yX3_partingHolds ∈ AW := aw_s 11 (by decide +kernel) rfl
theorem a_s_X4_sizeOf : Cond.selects RX4 yX4_sizeOf yX4_sizeOf ∈ AW := aw_s 12 (by decide +kernel) rfl
theorem a_s_X4_begins : Cond.selects RX4 yX4_begins yX4_begins ∈ AW := aw_s 13 (by decide +kernel) rfl
theorem a_s_X4_putsPart : Cond.selects RX4 yX4_putsPart yX4_putsPart ∈ AW := aw_s 14 (by decide +kernel) rfl
theorem a_s_X4_signAt : Cond.selects RX4 yX4_signAt yX4_signAt ∈ AW := aw_s 15 (by decide +kernel) rfl
theorem a_s_X4_puts : Cond.selects RX4 yX4_puts yX4_puts ∈ AW := aw_s 16 (by decide +kernel) rfl
theorem a_s_X4_lays : Cond.selects RX4 yX4_lays yX4_lays ∈ AW := aw_s 17 (by decide +kernel) rfl
theorem a_s_X4_stands : Cond.selects RX4 yX4_stands yX4_stands ∈ AW := aw_s 18 (by decide +kernel) rfl
theorem a_s_X4_isRegion : Cond.selects RX4 yX4_isRegion yX4_isRegion ∈ AW := aw_s 19 (by decide +kernel) rfl
theorem a_s_X4_order : Cond.selects RX4 yX4_order yX4_order ∈ AW := aw_s 20 (by decide +kernel) rfl
theorem a_s_X4_strips : Cond.selects RX4 yX4_strips yX4_strips ∈ AW := aw_s 21 (by decide +kernel) rfl
theorem a_s_X4_addPiece : Cond.selects RX4 yX4_addPiece yX4_addPiece ∈ AW := aw_s 22 (by decide +kernel) rfl
theorem a_s_X4_putsPiece : Cond.selects RX4 yX4_putsPiece yX4_putsPiece ∈ AW := aw_s 23 (by decide +kernel) rfl
theorem a_s_X4_finds : Cond.selects RX4 yX4_finds yX4_finds ∈ AW := aw_s 24 (by decide +kernel) rfl
theorem a_s_X4_arePlacesSo : Cond.selects RX4 yX4_arePlacesSo yX4_arePlacesSo ∈ AW := aw_s 25 (by decide +kernel) rfl
theorem a_s_X4_isOrderSo : Cond.selects RX4 yX4_isOrderSo yX4_isOrderSo ∈ AW := aw_s 26 (by decide +kernel) rfl
theorem a_s_X4_areFindsSo : Cond.selects RX4 yX4_areFindsSo yX4_areFindsSo ∈ AW := aw_s 27 (by decide +kernel) rfl
theorem a_s_X4_arePiecesSo : Cond.selects RX4 yX4_arePiecesSo yX4_arePiecesSo ∈ AW := aw_s 28 (by decide +kernel) rfl
theorem a_s_X4_allSigns : Cond.selects RX4 yX4_allSigns yX4_allSigns ∈ AW := aw_s 29 (by decide +kernel) rfl
abbrev wsX0_init : List Cond := .code yX0_init cX0_init 2 none :: AW
theorem m_X0_init : MWi yX0_init cX0_init 2 0 := ⟨a_i_X0_init, a_n_X0, a_c_X0_init, rfl, by decide +kernel⟩
abbrev wsX0_text : List Cond := .code yX0_text cX0_text 2 (some (.object "TextShelves$Text")) :: AW
theorem m_X0_text : MWv yX0_text RX0 cX0_text 2 (some (.object "TextShelves$Text")) 1 := ⟨a_i_X0_text, a_s_X0_text, a_n_X0, a_c_X0_text, by decide +kernel⟩
abbrev wsX0_exchange : List Cond := .code yX0_exchange cX0_exchange 4 none :: AW
theorem m_X0_exchange : MWv yX0_exchange RX0 cX0_exchange 4 none 2 := ⟨a_i_X0_exchange, a_s_X0_exchange, a_n_X0, a_c_X0_exchange, by decide +kernel⟩
abbrev wsX0_become : List Cond := .code yX0_become cX0_become 3 none :: AW
theorem m_X0_become : MWv yX0_become RX0 cX0_become 3 none 1 := ⟨a_i_X0_become, a_s_X0_become, a_n_X0, a_c_X0_become, by decide +kernel⟩
abbrev wsX0_sizeOfTexts : List Cond := .code yX0_sizeOfTexts cX0_sizeOfTexts 3 (some .int) :: AW
theorem m_X0_sizeOfTexts : MWv yX0_sizeOfTexts RX0 cX0_sizeOfTexts 3 (some .int) 0 := ⟨a_i_X0_sizeOfTexts, a_s_X0_sizeOfTexts, a_n_X0, a_c_X0_sizeOfTexts, by decide +kernel⟩
abbrev wsX1_init : List Cond := .code yX1_init cX1_init 1 none :: AW
theorem m_X1_init : MWi yX1_init cX1_init 1 0 := ⟨a_i_X1_init, a_n_X1, a_c_X1_init, rfl, by decide +kernel⟩
abbrev wsX1_size : List Cond := .code yX1_size cX1_size 1 (some .int) :: AW
theorem m_X1_size : MWv yX1_size RX1 cX1_size 1 (some .int) 0 := ⟨a_i_X1_size, a_s_X1_size, a_n_X1, a_c_X1_size, by decide +kernel⟩
abbrev wsX1_partAnew : List Cond := .code yX1_partAnew cX1_partAnew 5 none :: AW
theorem m_X1_partAnew : MWv yX1_partAnew RX1 cX1_partAnew 5 none 3 := ⟨a_i_X1_partAnew, a_s_X1_partAnew, a_n_X1, a_c_X1_partAnew, by decide +kernel⟩
abbrev wsX1_addPieceTo : List Cond := .code yX1_addPieceTo cX1_addPieceTo 3 none :: AW
theorem m_X1_addPieceTo : MWv yX1_addPieceTo RX1 cX1_addPieceTo 3 none 2 := ⟨a_i_X1_addPieceTo, a_s_X1_addPieceTo, a_n_X1, a_c_X1_addPieceTo, by decide +kernel⟩
abbrev wsX1_addJoinedTo : List Cond := .code yX1_addJoinedTo cX1_addJoinedTo 4 none :: AW
theorem m_X1_addJoinedTo : MWv yX1_addJoinedTo RX1 cX1_addJoinedTo 4 none 2 := ⟨a_i_X1_addJoinedTo, a_s_X1_addJoinedTo, a_n_X1, a_c_X1_addJoinedTo, by decide +kernel⟩
abbrev wsX1_sizeJoined : List Cond := .code yX1_sizeJoined cX1_sizeJoined 1 (some .int) :: AW
theorem m_X1_sizeJoined : MWv yX1_sizeJoined RX1 cX1_sizeJoined 1 (some .int) 0 := ⟨a_i_X1_sizeJoined, a_s_X1_sizeJoined, a_n_X1, a_c_X1_sizeJoined, by decide +kernel⟩
abbrev wsX1_become : List Cond := .code yX1_become cX1_become 3 none :: AW
theorem m_X1_become : MWv yX1_become RX1 cX1_become 3 none 1 := ⟨a_i_X1_become, a_s_X1_become, a_n_X1, a_c_X1_become, by decide +kernel⟩
abbrev wsX1_foldAll : List Cond := .code yX1_foldAll cX1_foldAll 6 (some .long) :: AW
theorem m_X1_foldAll : MWv yX1_foldAll RX1 cX1_foldAll 6 (some .long) 1 := ⟨a_i_X1_foldAll, a_s_X1_foldAll, a_n_X1, a_c_X1_foldAll, by decide +kernel⟩
abbrev wsX1_endPiece : List Cond := .code yX1_endPiece cX1_endPiece 1 none :: AW
theorem m_X1_endPiece : MWv yX1_endPiece RX1 cX1_endPiece 1 none 0 := ⟨a_i_X1_endPiece, a_s_X1_endPiece, a_n_X1, a_c_X1_endPiece, by decide +kernel⟩
abbrev wsX1_addEnd : List Cond := .code yX1_addEnd cX1_addEnd 2 none :: AW
theorem m_X1_addEnd : MWv yX1_addEnd RX1 cX1_addEnd 2 none 1 := ⟨a_i_X1_addEnd, a_s_X1_addEnd, a_n_X1, a_c_X1_addEnd, by decide +kernel⟩
abbrev wsX1_leaveOutEmptyEnd : List Cond := .code yX1_leaveOutEmptyEnd cX1_leaveOutEmptyEnd 1 none :: AW
theorem m_X1_leaveOutEmptyEnd : MWv yX1_leaveOutEmptyEnd RX1 cX1_leaveOutEmptyEnd 1 none 0 := ⟨a_i_X1_leaveOutEmptyEnd, a_s_X1_leaveOutEmptyEnd, a_n_X1, a_c_X1_leaveOutEmptyEnd, by decide +kernel⟩
abbrev wsX1_startOf : List Cond := .code yX1_startOf cX1_startOf 2 (some .int) :: AW
theorem m_X1_startOf : MWv yX1_startOf RX1 cX1_startOf 2 (some .int) 1 := ⟨a_i_X1_startOf, a_s_X1_startOf, a_n_X1, a_c_X1_startOf, by decide +kernel⟩
abbrev wsX1_endOf : List Cond := .code yX1_endOf cX1_endOf 2 (some .int) :: AW
theorem m_X1_endOf : MWv yX1_endOf RX1 cX1_endOf 2 (some .int) 1 := ⟨a_i_X1_endOf, a_s_X1_endOf, a_n_X1, a_c_X1_endOf, by decide +kernel⟩
abbrev wsX2_init : List Cond := .code yX2_init cX2_init 2 none :: AW
theorem m_X2_init : MWi yX2_init cX2_init 2 1 := ⟨a_i_X2_init, a_n_X2, a_c_X2_init, rfl, by decide +kernel⟩
abbrev wsX2_size : List Cond := .code yX2_size cX2_size 1 (some .int) :: AW
theorem m_X2_size : MWv yX2_size RX2 cX2_size 1 (some .int) 0 := ⟨a_i_X2_size, a_s_X2_size, a_n_X2, a_c_X2_size, by decide +kernel⟩
abbrev wsX2_at : List Cond := .code yX2_at cX2_at 2 (some .int) :: AW
theorem m_X2_at : MWv yX2_at RX2 cX2_at 2 (some .int) 1 := ⟨a_i_X2_at, a_s_X2_at, a_n_X2, a_c_X2_at, by decide +kernel⟩
abbrev wsX2_clear : List Cond := .code yX2_clear cX2_clear 1 none :: AW
theorem m_X2_clear : MWv yX2_clear RX2 cX2_clear 1 none 0 := ⟨a_i_X2_clear, a_s_X2_clear, a_n_X2, a_c_X2_clear, by decide +kernel⟩
abbrev wsX2_add : List Cond := .code yX2_add cX2_add 2 none :: AW
theorem m_X2_add : MWv yX2_add RX2 cX2_add 2 none 1 := ⟨a_i_X2_add, a_s_X2_add, a_n_X2, a_c_X2_add, by decide +kernel⟩
abbrev wsX2_addSpan : List Cond := .code yX2_addSpan cX2_addSpan 5 none :: AW
theorem m_X2_addSpan : MWv yX2_addSpan RX2 cX2_addSpan 5 none 3 := ⟨a_i_X2_addSpan, a_s_X2_addSpan, a_n_X2, a_c_X2_addSpan, by decide +kernel⟩
abbrev wsX2_addText : List Cond := .code yX2_addText cX2_addText 2 none :: AW
theorem m_X2_addText : MWv yX2_addText RX2 cX2_addText 2 none 1 := ⟨a_i_X2_addText, a_s_X2_addText, a_n_X2, a_c_X2_addText, by decide +kernel⟩
abbrev wsX2_addTurned : List Cond := .code yX2_addTurned cX2_addTurned 3 none :: AW
theorem m_X2_addTurned : MWv yX2_addTurned RX2 cX2_addTurned 3 none 1 := ⟨a_i_X2_addTurned, a_s_X2_addTurned, a_n_X2, a_c_X2_addTurned, by decide +kernel⟩
abbrev wsX2_addDigitsFromLowest : List Cond := .code yX2_addDigitsFromLowest cX2_addDigitsFromLowest 6 none :: AW
theorem m_X2_addDigitsFromLowest : MWv yX2_addDigitsFromLowest RX2 cX2_addDigitsFromLowest 6 none 1 := ⟨a_i_X2_addDigitsFromLowest, a_s_X2_addDigitsFromLowest, a_n_X2, a_c_X2_addDigitsFromLowest, by decide +kernel⟩
abbrev wsX2_addReplaced : List Cond := .code yX2_addReplaced cX2_addReplaced 5 none :: AW
theorem m_X2_addReplaced : MWv yX2_addReplaced RX2 cX2_addReplaced 5 none 3 := ⟨a_i_X2_addReplaced, a_s_X2_addReplaced, a_n_X2, a_c_X2_addReplaced, by decide +kernel⟩
abbrev wsX2_become : List Cond := .code yX2_become cX2_become 2 none :: AW
theorem m_X2_become : MWv yX2_become RX2 cX2_become 2 none 1 := ⟨a_i_X2_become, a_s_X2_become, a_n_X2, a_c_X2_become, by decide +kernel⟩
abbrev wsX2_change : List Cond := .code yX2_change cX2_change 4 none :: AW
theorem m_X2_change : MWv yX2_change RX2 cX2_change 4 none 2 := ⟨a_i_X2_change, a_s_X2_change, a_n_X2, a_c_X2_change, by decide +kernel⟩
abbrev wsX2_signFrom : List Cond := .code yX2_signFrom cX2_signFrom 4 (some .int) :: AW
theorem m_X2_signFrom : MWv yX2_signFrom RX2 cX2_signFrom 4 (some .int) 2 := ⟨a_i_X2_signFrom, a_s_X2_signFrom, a_n_X2, a_c_X2_signFrom, by decide +kernel⟩
abbrev wsX2_signBack : List Cond := .code yX2_signBack cX2_signBack 4 (some .int) :: AW
theorem m_X2_signBack : MWv yX2_signBack RX2 cX2_signBack 4 (some .int) 2 := ⟨a_i_X2_signBack, a_s_X2_signBack, a_n_X2, a_c_X2_signBack, by decide +kernel⟩
abbrev wsX2_placeFrom : List Cond := .code yX2_placeFrom cX2_placeFrom 5 (some .int) :: AW
theorem m_X2_placeFrom : MWv yX2_placeFrom RX2 cX2_placeFrom 5 (some .int) 2 := ⟨a_i_X2_placeFrom, a_s_X2_placeFrom, a_n_X2, a_c_X2_placeFrom, by decide +kernel⟩
abbrev wsX2_placeBack : List Cond := .code yX2_placeBack cX2_placeBack 4 (some .int) :: AW
theorem m_X2_placeBack : MWv yX2_placeBack RX2 cX2_placeBack 4 (some .int) 2 := ⟨a_i_X2_placeBack, a_s_X2_placeBack, a_n_X2, a_c_X2_placeBack, by decide +kernel⟩
abbrev wsX2_bears : List Cond := .code yX2_bears cX2_bears 3 (some .boolean) :: AW
theorem m_X2_bears : MWv yX2_bears RX2 cX2_bears 3 (some .boolean) 2 := ⟨a_i_X2_bears, a_s_X2_bears, a_n_X2, a_c_X2_bears, by decide +kernel⟩
abbrev wsX2_agreesWholly : List Cond := .code yX2_agreesWholly cX2_agreesWholly 3 (some .boolean) :: AW
theorem m_X2_agreesWholly : MWv yX2_agreesWholly RX2 cX2_agreesWholly 3 (some .boolean) 2 := ⟨a_i_X2_agreesWholly, a_s_X2_agreesWholly, a_n_X2, a_c_X2_agreesWholly, by decide +kernel⟩
abbrev wsX2_agrees : List Cond := .code yX2_agrees cX2_agrees 8 (some .boolean) :: AW
theorem m_X2_agrees : MWv yX2_agrees RX2 cX2_agrees 8 (some .boolean) 5 := ⟨a_i_X2_agrees, a_s_X2_agrees, a_n_X2, a_c_X2_agrees, by decide +kernel⟩
abbrev wsX2_order : List Cond := .code yX2_order cX2_order 5 (some .int) :: AW
theorem m_X2_order : MWv yX2_order RX2 cX2_order 5 (some .int) 2 := ⟨a_i_X2_order, a_s_X2_order, a_n_X2, a_c_X2_order, by decide +kernel⟩
abbrev wsX2_finds : List Cond := .code yX2_finds cX2_finds 4 (some .int) :: AW
theorem m_X2_finds : MWv yX2_finds RX2 cX2_finds 4 (some .int) 1 := ⟨a_i_X2_finds, a_s_X2_finds, a_n_X2, a_c_X2_finds, by decide +kernel⟩
abbrev wsX2_sharedFront : List Cond := .code yX2_sharedFront cX2_sharedFront 4 (some .int) :: AW
theorem m_X2_sharedFront : MWv yX2_sharedFront RX2 cX2_sharedFront 4 (some .int) 1 := ⟨a_i_X2_sharedFront, a_s_X2_sharedFront, a_n_X2, a_c_X2_sharedFront, by decide +kernel⟩
abbrev wsX2_sharedRear : List Cond := .code yX2_sharedRear cX2_sharedRear 4 (some .int) :: AW
theorem m_X2_sharedRear : MWv yX2_sharedRear RX2 cX2_sharedRear 4 (some .int) 1 := ⟨a_i_X2_sharedRear, a_s_X2_sharedRear, a_n_X2, a_c_X2_sharedRear, by decide +kernel⟩
abbrev wsX2_endOfFront : List Cond := .code yX2_endOfFront cX2_endOfFront 3 (some .int) :: AW
theorem m_X2_endOfFront : MWv yX2_endOfFront RX2 cX2_endOfFront 3 (some .int) 1 := ⟨a_i_X2_endOfFront, a_s_X2_endOfFront, a_n_X2, a_c_X2_endOfFront, by decide +kernel⟩
abbrev wsX2_startOfRear : List Cond := .code yX2_startOfRear cX2_startOfRear 4 (some .int) :: AW
theorem m_X2_startOfRear : MWv yX2_startOfRear RX2 cX2_startOfRear 4 (some .int) 2 := ⟨a_i_X2_startOfRear, a_s_X2_startOfRear, a_n_X2, a_c_X2_startOfRear, by decide +kernel⟩
abbrev wsX2_foldSpan : List Cond := .code yX2_foldSpan cX2_foldSpan 8 (some .long) :: AW
theorem m_X2_foldSpan : MWv yX2_foldSpan RX2 cX2_foldSpan 8 (some .long) 3 := ⟨a_i_X2_foldSpan, a_s_X2_foldSpan, a_n_X2, a_c_X2_foldSpan, by decide +kernel⟩
abbrev wsX3_init : List Cond := .code yX3_init cX3_init 2 none :: AW
theorem m_X3_init : MWi yX3_init cX3_init 2 0 := ⟨a_i_X3_init, a_n_X3, a_c_X3_init, rfl, by decide +kernel⟩
abbrev wsX3_wipe : List Cond := .code yX3_wipe cX3_wipe 4 (some .int) :: AW
theorem m_X3_wipe : MWv yX3_wipe RX3 cX3_wipe 4 (some .int) 1 := ⟨a_i_X3_wipe, a_s_X3_wipe, a_n_X3, a_c_X3_wipe, by decide +kernel⟩
abbrev wsX3_type : List Cond := .code yX3_type cX3_type 4 (some .int) :: AW
theorem m_X3_type : MWv yX3_type RX3 cX3_type 4 (some .int) 2 := ⟨a_i_X3_type, a_s_X3_type, a_n_X3, a_c_X3_type, by decide +kernel⟩
abbrev wsX3_feed : List Cond := .code yX3_feed cX3_feed 7 (some .int) :: AW
theorem m_X3_feed : MWv yX3_feed RX3 cX3_feed 7 (some .int) 3 := ⟨a_i_X3_feed, a_s_X3_feed, a_n_X3, a_c_X3_feed, by decide +kernel⟩
abbrev wsX3_copy : List Cond := .code yX3_copy cX3_copy 3 (some .int) :: AW
theorem m_X3_copy : MWv yX3_copy RX3 cX3_copy 3 (some .int) 2 := ⟨a_i_X3_copy, a_s_X3_copy, a_n_X3, a_c_X3_copy, by decide +kernel⟩
abbrev wsX3_swap : List Cond := .code yX3_swap cX3_swap 3 (some .int) :: AW
theorem m_X3_swap : MWv yX3_swap RX3 cX3_swap 3 (some .int) 2 := ⟨a_i_X3_swap, a_s_X3_swap, a_n_X3, a_c_X3_swap, by decide +kernel⟩
abbrev wsX3_concat : List Cond := .code yX3_concat cX3_concat 6 (some .int) :: AW
theorem m_X3_concat : MWv yX3_concat RX3 cX3_concat 6 (some .int) 3 := ⟨a_i_X3_concat, a_s_X3_concat, a_n_X3, a_c_X3_concat, by decide +kernel⟩
abbrev wsX3_substring : List Cond := .code yX3_substring cX3_substring 6 (some .int) :: AW
theorem m_X3_substring : MWv yX3_substring RX3 cX3_substring 6 (some .int) 4 := ⟨a_i_X3_substring, a_s_X3_substring, a_n_X3, a_c_X3_substring, by decide +kernel⟩
abbrev wsX3_tail : List Cond := .code yX3_tail cX3_tail 4 (some .int) :: AW
theorem m_X3_tail : MWv yX3_tail RX3 cX3_tail 4 (some .int) 3 := ⟨a_i_X3_tail, a_s_X3_tail, a_n_X3, a_c_X3_tail, by decide +kernel⟩
abbrev wsX3_number : List Cond := .code yX3_number cX3_number 3 (some .int) :: AW
theorem m_X3_number : MWv yX3_number RX3 cX3_number 3 (some .int) 2 := ⟨a_i_X3_number, a_s_X3_number, a_n_X3, a_c_X3_number, by decide +kernel⟩
abbrev wsX3_big : List Cond := .code yX3_big cX3_big 4 (some .int) :: AW
theorem m_X3_big : MWv yX3_big RX3 cX3_big 4 (some .int) 2 := ⟨a_i_X3_big, a_s_X3_big, a_n_X3, a_c_X3_big, by decide +kernel⟩
abbrev wsX3_length : List Cond := .code yX3_length cX3_length 2 (some .int) :: AW
theorem m_X3_length : MWv yX3_length RX3 cX3_length 2 (some .int) 1 := ⟨a_i_X3_length, a_s_X3_length, a_n_X3, a_c_X3_length, by decide +kernel⟩
abbrev wsX3_isEmpty : List Cond := .code yX3_isEmpty cX3_isEmpty 2 (some .boolean) :: AW
theorem m_X3_isEmpty : MWv yX3_isEmpty RX3 cX3_isEmpty 2 (some .boolean) 1 := ⟨a_i_X3_isEmpty, a_s_X3_isEmpty, a_n_X3, a_c_X3_isEmpty, by decide +kernel⟩
abbrev wsX3_isBlank : List Cond := .code yX3_isBlank cX3_isBlank 3 (some .boolean) :: AW
theorem m_X3_isBlank : MWv yX3_isBlank RX3 cX3_isBlank 3 (some .boolean) 1 := ⟨a_i_X3_isBlank, a_s_X3_isBlank, a_n_X3, a_c_X3_isBlank, by decide +kernel⟩
abbrev wsX3_charAt : List Cond := .code yX3_charAt cX3_charAt 4 (some .int) :: AW
theorem m_X3_charAt : MWv yX3_charAt RX3 cX3_charAt 4 (some .int) 2 := ⟨a_i_X3_charAt, a_s_X3_charAt, a_n_X3, a_c_X3_charAt, by decide +kernel⟩
abbrev wsX3_hash : List Cond := .code yX3_hash cX3_hash 5 (some .int) :: AW
theorem m_X3_hash : MWv yX3_hash RX3 cX3_hash 5 (some .int) 1 := ⟨a_i_X3_hash, a_s_X3_hash, a_n_X3, a_c_X3_hash, by decide +kernel⟩
abbrev wsX3_first : List Cond := .code yX3_first cX3_first 3 (some .int) :: AW
theorem m_X3_first : MWv yX3_first RX3 cX3_first 3 (some .int) 2 := ⟨a_i_X3_first, a_s_X3_first, a_n_X3, a_c_X3_first, by decide +kernel⟩
abbrev wsX3_firstFrom : List Cond := .code yX3_firstFrom cX3_firstFrom 4 (some .int) :: AW
theorem m_X3_firstFrom : MWv yX3_firstFrom RX3 cX3_firstFrom 4 (some .int) 3 := ⟨a_i_X3_firstFrom, a_s_X3_firstFrom, a_n_X3, a_c_X3_firstFrom, by decide +kernel⟩
abbrev wsX3_last : List Cond := .code yX3_last cX3_last 3 (some .int) :: AW
theorem m_X3_last : MWv yX3_last RX3 cX3_last 3 (some .int) 2 := ⟨a_i_X3_last, a_s_X3_last, a_n_X3, a_c_X3_last, by decide +kernel⟩
abbrev wsX3_lastFrom : List Cond := .code yX3_lastFrom cX3_lastFrom 4 (some .int) :: AW
theorem m_X3_lastFrom : MWv yX3_lastFrom RX3 cX3_lastFrom 4 (some .int) 3 := ⟨a_i_X3_lastFrom, a_s_X3_lastFrom, a_n_X3, a_c_X3_lastFrom, by decide +kernel⟩
abbrev wsX3_find : List Cond := .code yX3_find cX3_find 3 (some .int) :: AW
theorem m_X3_find : MWv yX3_find RX3 cX3_find 3 (some .int) 2 := ⟨a_i_X3_find, a_s_X3_find, a_n_X3, a_c_X3_find, by decide +kernel⟩
abbrev wsX3_findFrom : List Cond := .code yX3_findFrom cX3_findFrom 4 (some .int) :: AW
theorem m_X3_findFrom : MWv yX3_findFrom RX3 cX3_findFrom 4 (some .int) 3 := ⟨a_i_X3_findFrom, a_s_X3_findFrom, a_n_X3, a_c_X3_findFrom, by decide +kernel⟩
abbrev wsX3_findLast : List Cond := .code yX3_findLast cX3_findLast 3 (some .int) :: AW
theorem m_X3_findLast : MWv yX3_findLast RX3 cX3_findLast 3 (some .int) 2 := ⟨a_i_X3_findLast, a_s_X3_findLast, a_n_X3, a_c_X3_findLast, by decide +kernel⟩
abbrev wsX3_findLastFrom : List Cond := .code yX3_findLastFrom cX3_findLastFrom 4 (some .int) :: AW
theorem m_X3_findLastFrom : MWv yX3_findLastFrom RX3 cX3_findLastFrom 4 (some .int) 3 := ⟨a_i_X3_findLastFrom, a_s_X3_findLastFrom, a_n_X3, a_c_X3_findLastFrom, by decide +kernel⟩
abbrev wsX3_contains : List Cond := .code yX3_contains cX3_contains 3 (some .boolean) :: AW
theorem m_X3_contains : MWv yX3_contains RX3 cX3_contains 3 (some .boolean) 2 := ⟨a_i_X3_contains, a_s_X3_contains, a_n_X3, a_c_X3_contains, by decide +kernel⟩
abbrev wsX3_starts : List Cond := .code yX3_starts cX3_starts 3 (some .boolean) :: AW
theorem m_X3_starts : MWv yX3_starts RX3 cX3_starts 3 (some .boolean) 2 := ⟨a_i_X3_starts, a_s_X3_starts, a_n_X3, a_c_X3_starts, by decide +kernel⟩
abbrev wsX3_startsAt : List Cond := .code yX3_startsAt cX3_startsAt 4 (some .boolean) :: AW
theorem m_X3_startsAt : MWv yX3_startsAt RX3 cX3_startsAt 4 (some .boolean) 3 := ⟨a_i_X3_startsAt, a_s_X3_startsAt, a_n_X3, a_c_X3_startsAt, by decide +kernel⟩
abbrev wsX3_ends : List Cond := .code yX3_ends cX3_ends 3 (some .boolean) :: AW
theorem m_X3_ends : MWv yX3_ends RX3 cX3_ends 3 (some .boolean) 2 := ⟨a_i_X3_ends, a_s_X3_ends, a_n_X3, a_c_X3_ends, by decide +kernel⟩
abbrev wsX3_region : List Cond := .code yX3_region cX3_region 6 (some .boolean) :: AW
theorem m_X3_region : MWv yX3_region RX3 cX3_region 6 (some .boolean) 5 := ⟨a_i_X3_region, a_s_X3_region, a_n_X3, a_c_X3_region, by decide +kernel⟩
abbrev wsX3_regionAlike : List Cond := .code yX3_regionAlike cX3_regionAlike 6 (some .boolean) :: AW
theorem m_X3_regionAlike : MWv yX3_regionAlike RX3 cX3_regionAlike 6 (some .boolean) 5 := ⟨a_i_X3_regionAlike, a_s_X3_regionAlike, a_n_X3, a_c_X3_regionAlike, by decide +kernel⟩
abbrev wsX3_same : List Cond := .code yX3_same cX3_same 3 (some .boolean) :: AW
theorem m_X3_same : MWv yX3_same RX3 cX3_same 3 (some .boolean) 2 := ⟨a_i_X3_same, a_s_X3_same, a_n_X3, a_c_X3_same, by decide +kernel⟩
abbrev wsX3_alike : List Cond := .code yX3_alike cX3_alike 3 (some .boolean) :: AW
theorem m_X3_alike : MWv yX3_alike RX3 cX3_alike 3 (some .boolean) 2 := ⟨a_i_X3_alike, a_s_X3_alike, a_n_X3, a_c_X3_alike, by decide +kernel⟩
abbrev wsX3_compare : List Cond := .code yX3_compare cX3_compare 3 (some .int) :: AW
theorem m_X3_compare : MWv yX3_compare RX3 cX3_compare 3 (some .int) 2 := ⟨a_i_X3_compare, a_s_X3_compare, a_n_X3, a_c_X3_compare, by decide +kernel⟩
abbrev wsX3_compareAlike : List Cond := .code yX3_compareAlike cX3_compareAlike 3 (some .int) :: AW
theorem m_X3_compareAlike : MWv yX3_compareAlike RX3 cX3_compareAlike 3 (some .int) 2 := ⟨a_i_X3_compareAlike, a_s_X3_compareAlike, a_n_X3, a_c_X3_compareAlike, by decide +kernel⟩
abbrev wsX3_replaceSign : List Cond := .code yX3_replaceSign cX3_replaceSign 5 (some .int) :: AW
theorem m_X3_replaceSign : MWv yX3_replaceSign RX3 cX3_replaceSign 5 (some .int) 4 := ⟨a_i_X3_replaceSign, a_s_X3_replaceSign, a_n_X3, a_c_X3_replaceSign, by decide +kernel⟩
abbrev wsX3_replaceText : List Cond := .code yX3_replaceText cX3_replaceText 8 (some .int) :: AW
theorem m_X3_replaceText : MWv yX3_replaceText RX3 cX3_replaceText 8 (some .int) 4 := ⟨a_i_X3_replaceText, a_s_X3_replaceText, a_n_X3, a_c_X3_replaceText, by decide +kernel⟩
abbrev wsX3_trim : List Cond := .code yX3_trim cX3_trim 3 (some .int) :: AW
theorem m_X3_trim : MWv yX3_trim RX3 cX3_trim 3 (some .int) 2 := ⟨a_i_X3_trim, a_s_X3_trim, a_n_X3, a_c_X3_trim, by decide +kernel⟩
abbrev wsX3_strip : List Cond := .code yX3_strip cX3_strip 3 (some .int) :: AW
theorem m_X3_strip : MWv yX3_strip RX3 cX3_strip 3 (some .int) 2 := ⟨a_i_X3_strip, a_s_X3_strip, a_n_X3, a_c_X3_strip, by decide +kernel⟩
abbrev wsX3_repeat : List Cond := .code yX3_repeat cX3_repeat 7 (some .int) :: AW
theorem m_X3_repeat : MWv yX3_repeat RX3 cX3_repeat 7 (some .int) 3 := ⟨a_i_X3_repeat, a_s_X3_repeat, a_n_X3, a_c_X3_repeat, by decide +kernel⟩
abbrev wsX3_turn : List Cond := .code yX3_turn cX3_turn 3 (some .int) :: AW
theorem m_X3_turn : MWv yX3_turn RX3 cX3_turn 3 (some .int) 2 := ⟨a_i_X3_turn, a_s_X3_turn, a_n_X3, a_c_X3_turn, by decide +kernel⟩
abbrev wsX3_part : List Cond := .code yX3_part cX3_part 4 (some .int) :: AW
theorem m_X3_part : MWv yX3_part RX3 cX3_part 4 (some .int) 3 := ⟨a_i_X3_part, a_s_X3_part, a_n_X3, a_c_X3_part, by decide +kernel⟩
abbrev wsX3_pieces : List Cond := .code yX3_pieces cX3_pieces 1 (some .int) :: AW
theorem m_X3_pieces : MWv yX3_pieces RX3 cX3_pieces 1 (some .int) 0 := ⟨a_i_X3_pieces, a_s_X3_pieces, a_n_X3, a_c_X3_pieces, by decide +kernel⟩
abbrev wsX3_piece : List Cond := .code yX3_piece cX3_piece 3 (some .int) :: AW
theorem m_X3_piece : MWv yX3_piece RX3 cX3_piece 3 (some .int) 2 := ⟨a_i_X3_piece, a_s_X3_piece, a_n_X3, a_c_X3_piece, by decide +kernel⟩
abbrev wsX3_join : List Cond := .code yX3_join cX3_join 3 (some .int) :: AW
theorem m_X3_join : MWv yX3_join RX3 cX3_join 3 (some .int) 2 := ⟨a_i_X3_join, a_s_X3_join, a_n_X3, a_c_X3_join, by decide +kernel⟩
abbrev wsX3_count : List Cond := .code yX3_count cX3_count 4 (some .int) :: AW
theorem m_X3_count : MWv yX3_count RX3 cX3_count 4 (some .int) 2 := ⟨a_i_X3_count, a_s_X3_count, a_n_X3, a_c_X3_count, by decide +kernel⟩
abbrev wsX3_head : List Cond := .code yX3_head cX3_head 3 (some .int) :: AW
theorem m_X3_head : MWv yX3_head RX3 cX3_head 3 (some .int) 2 := ⟨a_i_X3_head, a_s_X3_head, a_n_X3, a_c_X3_head, by decide +kernel⟩
abbrev wsX3_foot : List Cond := .code yX3_foot cX3_foot 3 (some .int) :: AW
theorem m_X3_foot : MWv yX3_foot RX3 cX3_foot 3 (some .int) 2 := ⟨a_i_X3_foot, a_s_X3_foot, a_n_X3, a_c_X3_foot, by decide +kernel⟩
abbrev wsX3_holds : List Cond := .code yX3_holds cX3_holds 4 (some .boolean) :: AW
theorem m_X3_holds : MWv yX3_holds RX3 cX3_holds 4 (some .boolean) 3 := ⟨a_i_X3_holds, a_s_X3_holds, a_n_X3, a_c_X3_holds, by decide +kernel⟩
abbrev wsX3_keep : List Cond := .code yX3_keep cX3_keep 2 (some .int) :: AW
theorem m_X3_keep : MWv yX3_keep RX3 cX3_keep 2 (some .int) 1 := ⟨a_i_X3_keep, a_s_X3_keep, a_n_X3, a_c_X3_keep, by decide +kernel⟩
abbrev wsX3_back : List Cond := .code yX3_back cX3_back 2 (some .int) :: AW
theorem m_X3_back : MWv yX3_back RX3 cX3_back 2 (some .int) 1 := ⟨a_i_X3_back, a_s_X3_back, a_n_X3, a_c_X3_back, by decide +kernel⟩
abbrev wsX3_digest : List Cond := .code yX3_digest cX3_digest 5 (some .long) :: AW
theorem m_X3_digest : MWv yX3_digest RX3 cX3_digest 5 (some .long) 0 := ⟨a_i_X3_digest, a_s_X3_digest, a_n_X3, a_c_X3_digest, by decide +kernel⟩
abbrev wsX3_lay : List Cond := .code yX3_lay cX3_lay 3 (some .int) :: AW
theorem m_X3_lay : MWv yX3_lay RX3 cX3_lay 3 (some .int) 1 := ⟨a_i_X3_lay, a_s_X3_lay, a_n_X3, a_c_X3_lay, by decide +kernel⟩
abbrev wsX3_layBare : List Cond := .code yX3_layBare cX3_layBare 6 (some .int) :: AW
theorem m_X3_layBare : MWv yX3_layBare RX3 cX3_layBare 6 (some .int) 3 := ⟨a_i_X3_layBare, a_s_X3_layBare, a_n_X3, a_c_X3_layBare, by decide +kernel⟩
abbrev wsX3_firstPlaceHolds : List Cond := .code yX3_firstPlaceHolds cX3_firstPlaceHolds 8 (some .boolean) :: AW
theorem m_X3_firstPlaceHolds : MWv yX3_firstPlaceHolds RX3 cX3_firstPlaceHolds 8 (some .boolean) 3 := ⟨a_i_X3_firstPlaceHolds, a_s_X3_firstPlaceHolds, a_n_X3, a_c_X3_firstPlaceHolds, by decide +kernel⟩
abbrev wsX3_lastPlaceHolds : List Cond := .code yX3_lastPlaceHolds cX3_lastPlaceHolds 7 (some .boolean) :: AW
theorem m_X3_lastPlaceHolds : MWv yX3_lastPlaceHolds RX3 cX3_lastPlaceHolds 7 (some .boolean) 3 := ⟨a_i_X3_lastPlaceHolds, a_s_X3_lastPlaceHolds, a_n_X3, a_c_X3_lastPlaceHolds, by decide +kernel⟩
abbrev wsX3_orderHolds : List Cond := .code yX3_orderHolds cX3_orderHolds 5 (some .boolean) :: AW
theorem m_X3_orderHolds : MWv yX3_orderHolds RX3 cX3_orderHolds 5 (some .boolean) 2 := ⟨a_i_X3_orderHolds, a_s_X3_orderHolds, a_n_X3, a_c_X3_orderHolds, by decide +kernel⟩
abbrev wsX3_replacingHolds : List Cond := .code yX3_replacingHolds cX3_replacingHolds 3 (some .boolean) :: AW
theorem m_X3_replacingHolds : MWv yX3_replacingHolds RX3 cX3_replacingHolds 3 (some .boolean) 2 := ⟨a_i_X3_replacingHolds, a_s_X3_replacingHolds, a_n_X3, a_c_X3_replacingHolds, by decide +kernel⟩
abbrev wsX3_partingHolds : List Cond := .code yX3_partingHolds cX3_partingHolds 2 (some .boolean) :: AW
theorem m_X3_partingHolds : MWv yX3_partingHolds RX3 cX3_partingHolds 2 (some .boolean) 1 := ⟨a_i_X3_partingHolds, a_s_X3_partingHolds, a_n_X3, a_c_X3_partingHolds, by decide +kernel⟩
abbrev wsX3_isSign : List Cond := .code yX3_isSign cX3_isSign 1 (some .boolean) :: AW
theorem m_X3_isSign : MWs yX3_isSign cX3_isSign 1 (some .boolean) 1 := ⟨a_t_X3_isSign, a_n_X3, a_c_X3_isSign, by decide +kernel⟩
abbrev wsX3_areSigns : List Cond := .code yX3_areSigns cX3_areSigns 4 (some .boolean) :: AW
theorem m_X3_areSigns : MWs yX3_areSigns cX3_areSigns 4 (some .boolean) 2 := ⟨a_t_X3_areSigns, a_n_X3, a_c_X3_areSigns, by decide +kernel⟩
abbrev wsX3_byteOf : List Cond := .code yX3_byteOf cX3_byteOf 3 (some .int) :: AW
theorem m_X3_byteOf : MWs yX3_byteOf cX3_byteOf 3 (some .int) 2 := ⟨a_t_X3_byteOf, a_n_X3, a_c_X3_byteOf, by decide +kernel⟩
abbrev wsX3_isBlankSign : List Cond := .code yX3_isBlankSign cX3_isBlankSign 1 (some .boolean) :: AW
theorem m_X3_isBlankSign : MWs yX3_isBlankSign cX3_isBlankSign 1 (some .boolean) 1 := ⟨a_t_X3_isBlankSign, a_n_X3, a_c_X3_isBlankSign, by decide +kernel⟩
abbrev wsX3_isLoose : List Cond := .code yX3_isLoose cX3_isLoose 2 (some .boolean) :: AW
theorem m_X3_isLoose : MWs yX3_isLoose cX3_isLoose 2 (some .boolean) 2 := ⟨a_t_X3_isLoose, a_n_X3, a_c_X3_isLoose, by decide +kernel⟩
abbrev wsX3_asTold : List Cond := .code yX3_asTold cX3_asTold 3 (some .int) :: AW
theorem m_X3_asTold : MWs yX3_asTold cX3_asTold 3 (some .int) 2 := ⟨a_t_X3_asTold, a_n_X3, a_c_X3_asTold, by decide +kernel⟩
abbrev wsX4_init : List Cond := .code yX4_init cX4_init 1 none :: AW
theorem m_X4_init : MWi yX4_init cX4_init 1 0 := ⟨a_i_X4_init, a_n_X4, a_c_X4_init, rfl, by decide +kernel⟩
abbrev wsX4_isIn : List Cond := .code yX4_isIn cX4_isIn 3 (some .boolean) :: AW
theorem m_X4_isIn : MWs yX4_isIn cX4_isIn 3 (some .boolean) 3 := ⟨a_t_X4_isIn, a_n_X4, a_c_X4_isIn, by decide +kernel⟩
abbrev wsX4_isSign : List Cond := .code yX4_isSign cX4_isSign 1 (some .boolean) :: AW
theorem m_X4_isSign : MWs yX4_isSign cX4_isSign 1 (some .boolean) 1 := ⟨a_t_X4_isSign, a_n_X4, a_c_X4_isSign, by decide +kernel⟩
abbrev wsX4_meant : List Cond := .code yX4_meant cX4_meant 1 (some .int) :: AW
theorem m_X4_meant : MWs yX4_meant cX4_meant 1 (some .int) 1 := ⟨a_t_X4_meant, a_n_X4, a_c_X4_meant, by decide +kernel⟩
abbrev wsX4_sizeOf : List Cond := .code yX4_sizeOf cX4_sizeOf 2 (some .int) :: AW
theorem m_X4_sizeOf : MWv yX4_sizeOf RX4 cX4_sizeOf 2 (some .int) 1 := ⟨a_i_X4_sizeOf, a_s_X4_sizeOf, a_n_X4, a_c_X4_sizeOf, by decide +kernel⟩
abbrev wsX4_signAt : List Cond := .code yX4_signAt cX4_signAt 3 (some .int) :: AW
theorem m_X4_signAt : MWv yX4_signAt RX4 cX4_signAt 3 (some .int) 2 := ⟨a_i_X4_signAt, a_s_X4_signAt, a_n_X4, a_c_X4_signAt, by decide +kernel⟩
abbrev wsX4_begins : List Cond := .code yX4_begins cX4_begins 1 none :: AW
theorem m_X4_begins : MWv yX4_begins RX4 cX4_begins 1 none 0 := ⟨a_i_X4_begins, a_s_X4_begins, a_n_X4, a_c_X4_begins, by decide +kernel⟩
abbrev wsX4_puts : List Cond := .code yX4_puts cX4_puts 2 none :: AW
theorem m_X4_puts : MWv yX4_puts RX4 cX4_puts 2 none 1 := ⟨a_i_X4_puts, a_s_X4_puts, a_n_X4, a_c_X4_puts, by decide +kernel⟩
abbrev wsX4_putsPart : List Cond := .code yX4_putsPart cX4_putsPart 5 none :: AW
theorem m_X4_putsPart : MWv yX4_putsPart RX4 cX4_putsPart 5 none 3 := ⟨a_i_X4_putsPart, a_s_X4_putsPart, a_n_X4, a_c_X4_putsPart, by decide +kernel⟩
abbrev wsX4_lays : List Cond := .code yX4_lays cX4_lays 4 (some .int) :: AW
theorem m_X4_lays : MWv yX4_lays RX4 cX4_lays 4 (some .int) 1 := ⟨a_i_X4_lays, a_s_X4_lays, a_n_X4, a_c_X4_lays, by decide +kernel⟩
abbrev wsX4_wipe : List Cond := .code yX4_wipe cX4_wipe 3 (some .int) :: AW
theorem m_X4_wipe : MWv yX4_wipe RX4 cX4_wipe 3 (some .int) 1 := ⟨a_i_X4_wipe, a_s_X4_wipe, a_n_X4, a_c_X4_wipe, by decide +kernel⟩
abbrev wsX4_type : List Cond := .code yX4_type cX4_type 3 (some .int) :: AW
theorem m_X4_type : MWv yX4_type RX4 cX4_type 3 (some .int) 2 := ⟨a_i_X4_type, a_s_X4_type, a_n_X4, a_c_X4_type, by decide +kernel⟩
abbrev wsX4_feed : List Cond := .code yX4_feed cX4_feed 8 (some .int) :: AW
theorem m_X4_feed : MWv yX4_feed RX4 cX4_feed 8 (some .int) 3 := ⟨a_i_X4_feed, a_s_X4_feed, a_n_X4, a_c_X4_feed, by decide +kernel⟩
abbrev wsX4_copy : List Cond := .code yX4_copy cX4_copy 3 (some .int) :: AW
theorem m_X4_copy : MWv yX4_copy RX4 cX4_copy 3 (some .int) 2 := ⟨a_i_X4_copy, a_s_X4_copy, a_n_X4, a_c_X4_copy, by decide +kernel⟩
abbrev wsX4_swap : List Cond := .code yX4_swap cX4_swap 7 (some .int) :: AW
theorem m_X4_swap : MWv yX4_swap RX4 cX4_swap 7 (some .int) 2 := ⟨a_i_X4_swap, a_s_X4_swap, a_n_X4, a_c_X4_swap, by decide +kernel⟩
abbrev wsX4_concat : List Cond := .code yX4_concat cX4_concat 4 (some .int) :: AW
theorem m_X4_concat : MWv yX4_concat RX4 cX4_concat 4 (some .int) 3 := ⟨a_i_X4_concat, a_s_X4_concat, a_n_X4, a_c_X4_concat, by decide +kernel⟩
abbrev wsX4_substring : List Cond := .code yX4_substring cX4_substring 5 (some .int) :: AW
theorem m_X4_substring : MWv yX4_substring RX4 cX4_substring 5 (some .int) 4 := ⟨a_i_X4_substring, a_s_X4_substring, a_n_X4, a_c_X4_substring, by decide +kernel⟩
abbrev wsX4_tail : List Cond := .code yX4_tail cX4_tail 4 (some .int) :: AW
theorem m_X4_tail : MWv yX4_tail RX4 cX4_tail 4 (some .int) 3 := ⟨a_i_X4_tail, a_s_X4_tail, a_n_X4, a_c_X4_tail, by decide +kernel⟩
abbrev wsX4_number : List Cond := .code yX4_number cX4_number 3 (some .int) :: AW
theorem m_X4_number : MWv yX4_number RX4 cX4_number 3 (some .int) 2 := ⟨a_i_X4_number, a_s_X4_number, a_n_X4, a_c_X4_number, by decide +kernel⟩
abbrev wsX4_big : List Cond := .code yX4_big cX4_big 9 (some .int) :: AW
theorem m_X4_big : MWv yX4_big RX4 cX4_big 9 (some .int) 2 := ⟨a_i_X4_big, a_s_X4_big, a_n_X4, a_c_X4_big, by decide +kernel⟩
abbrev wsX4_length : List Cond := .code yX4_length cX4_length 2 (some .int) :: AW
theorem m_X4_length : MWv yX4_length RX4 cX4_length 2 (some .int) 1 := ⟨a_i_X4_length, a_s_X4_length, a_n_X4, a_c_X4_length, by decide +kernel⟩
abbrev wsX4_isEmpty : List Cond := .code yX4_isEmpty cX4_isEmpty 2 (some .boolean) :: AW
theorem m_X4_isEmpty : MWv yX4_isEmpty RX4 cX4_isEmpty 2 (some .boolean) 1 := ⟨a_i_X4_isEmpty, a_s_X4_isEmpty, a_n_X4, a_c_X4_isEmpty, by decide +kernel⟩
abbrev wsX4_isBlankSign : List Cond := .code yX4_isBlankSign cX4_isBlankSign 1 (some .boolean) :: AW
theorem m_X4_isBlankSign : MWs yX4_isBlankSign cX4_isBlankSign 1 (some .boolean) 1 := ⟨a_t_X4_isBlankSign, a_n_X4, a_c_X4_isBlankSign, by decide +kernel⟩
abbrev wsX4_isBlank : List Cond := .code yX4_isBlank cX4_isBlank 4 (some .boolean) :: AW
theorem m_X4_isBlank : MWv yX4_isBlank RX4 cX4_isBlank 4 (some .boolean) 1 := ⟨a_i_X4_isBlank, a_s_X4_isBlank, a_n_X4, a_c_X4_isBlank, by decide +kernel⟩
abbrev wsX4_charAt : List Cond := .code yX4_charAt cX4_charAt 3 (some .int) :: AW
theorem m_X4_charAt : MWv yX4_charAt RX4 cX4_charAt 3 (some .int) 2 := ⟨a_i_X4_charAt, a_s_X4_charAt, a_n_X4, a_c_X4_charAt, by decide +kernel⟩
abbrev wsX4_hash : List Cond := .code yX4_hash cX4_hash 4 (some .int) :: AW
theorem m_X4_hash : MWv yX4_hash RX4 cX4_hash 4 (some .int) 1 := ⟨a_i_X4_hash, a_s_X4_hash, a_n_X4, a_c_X4_hash, by decide +kernel⟩
abbrev wsX4_first : List Cond := .code yX4_first cX4_first 3 (some .int) :: AW
theorem m_X4_first : MWv yX4_first RX4 cX4_first 3 (some .int) 2 := ⟨a_i_X4_first, a_s_X4_first, a_n_X4, a_c_X4_first, by decide +kernel⟩
abbrev wsX4_firstFrom : List Cond := .code yX4_firstFrom cX4_firstFrom 6 (some .int) :: AW
theorem m_X4_firstFrom : MWv yX4_firstFrom RX4 cX4_firstFrom 6 (some .int) 3 := ⟨a_i_X4_firstFrom, a_s_X4_firstFrom, a_n_X4, a_c_X4_firstFrom, by decide +kernel⟩
abbrev wsX4_last : List Cond := .code yX4_last cX4_last 3 (some .int) :: AW
theorem m_X4_last : MWv yX4_last RX4 cX4_last 3 (some .int) 2 := ⟨a_i_X4_last, a_s_X4_last, a_n_X4, a_c_X4_last, by decide +kernel⟩
abbrev wsX4_lastFrom : List Cond := .code yX4_lastFrom cX4_lastFrom 6 (some .int) :: AW
theorem m_X4_lastFrom : MWv yX4_lastFrom RX4 cX4_lastFrom 6 (some .int) 3 := ⟨a_i_X4_lastFrom, a_s_X4_lastFrom, a_n_X4, a_c_X4_lastFrom, by decide +kernel⟩
abbrev wsX4_stands : List Cond := .code yX4_stands cX4_stands 7 (some .boolean) :: AW
theorem m_X4_stands : MWv yX4_stands RX4 cX4_stands 7 (some .boolean) 3 := ⟨a_i_X4_stands, a_s_X4_stands, a_n_X4, a_c_X4_stands, by decide +kernel⟩
abbrev wsX4_find : List Cond := .code yX4_find cX4_find 3 (some .int) :: AW
theorem m_X4_find : MWv yX4_find RX4 cX4_find 3 (some .int) 2 := ⟨a_i_X4_find, a_s_X4_find, a_n_X4, a_c_X4_find, by decide +kernel⟩
abbrev wsX4_findFrom : List Cond := .code yX4_findFrom cX4_findFrom 7 (some .int) :: AW
theorem m_X4_findFrom : MWv yX4_findFrom RX4 cX4_findFrom 7 (some .int) 3 := ⟨a_i_X4_findFrom, a_s_X4_findFrom, a_n_X4, a_c_X4_findFrom, by decide +kernel⟩
abbrev wsX4_findLast : List Cond := .code yX4_findLast cX4_findLast 3 (some .int) :: AW
theorem m_X4_findLast : MWv yX4_findLast RX4 cX4_findLast 3 (some .int) 2 := ⟨a_i_X4_findLast, a_s_X4_findLast, a_n_X4, a_c_X4_findLast, by decide +kernel⟩
abbrev wsX4_findLastFrom : List Cond := .code yX4_findLastFrom cX4_findLastFrom 6 (some .int) :: AW
theorem m_X4_findLastFrom : MWv yX4_findLastFrom RX4 cX4_findLastFrom 6 (some .int) 3 := ⟨a_i_X4_findLastFrom, a_s_X4_findLastFrom, a_n_X4, a_c_X4_findLastFrom, by decide +kernel⟩
abbrev wsX4_contains : List Cond := .code yX4_contains cX4_contains 3 (some .boolean) :: AW
theorem m_X4_contains : MWv yX4_contains RX4 cX4_contains 3 (some .boolean) 2 := ⟨a_i_X4_contains, a_s_X4_contains, a_n_X4, a_c_X4_contains, by decide +kernel⟩
abbrev wsX4_starts : List Cond := .code yX4_starts cX4_starts 3 (some .boolean) :: AW
theorem m_X4_starts : MWv yX4_starts RX4 cX4_starts 3 (some .boolean) 2 := ⟨a_i_X4_starts, a_s_X4_starts, a_n_X4, a_c_X4_starts, by decide +kernel⟩
abbrev wsX4_startsAt : List Cond := .code yX4_startsAt cX4_startsAt 4 (some .boolean) :: AW
theorem m_X4_startsAt : MWv yX4_startsAt RX4 cX4_startsAt 4 (some .boolean) 3 := ⟨a_i_X4_startsAt, a_s_X4_startsAt, a_n_X4, a_c_X4_startsAt, by decide +kernel⟩
abbrev wsX4_ends : List Cond := .code yX4_ends cX4_ends 3 (some .boolean) :: AW
theorem m_X4_ends : MWv yX4_ends RX4 cX4_ends 3 (some .boolean) 2 := ⟨a_i_X4_ends, a_s_X4_ends, a_n_X4, a_c_X4_ends, by decide +kernel⟩
abbrev wsX4_small : List Cond := .code yX4_small cX4_small 1 (some .int) :: AW
theorem m_X4_small : MWs yX4_small cX4_small 1 (some .int) 1 := ⟨a_t_X4_small, a_n_X4, a_c_X4_small, by decide +kernel⟩
abbrev wsX4_isRegion : List Cond := .code yX4_isRegion cX4_isRegion 11 (some .boolean) :: AW
theorem m_X4_isRegion : MWv yX4_isRegion RX4 cX4_isRegion 11 (some .boolean) 6 := ⟨a_i_X4_isRegion, a_s_X4_isRegion, a_n_X4, a_c_X4_isRegion, by decide +kernel⟩
abbrev wsX4_region : List Cond := .code yX4_region cX4_region 6 (some .boolean) :: AW
theorem m_X4_region : MWv yX4_region RX4 cX4_region 6 (some .boolean) 5 := ⟨a_i_X4_region, a_s_X4_region, a_n_X4, a_c_X4_region, by decide +kernel⟩
abbrev wsX4_regionAlike : List Cond := .code yX4_regionAlike cX4_regionAlike 6 (some .boolean) :: AW
theorem m_X4_regionAlike : MWv yX4_regionAlike RX4 cX4_regionAlike 6 (some .boolean) 5 := ⟨a_i_X4_regionAlike, a_s_X4_regionAlike, a_n_X4, a_c_X4_regionAlike, by decide +kernel⟩
abbrev wsX4_same : List Cond := .code yX4_same cX4_same 3 (some .boolean) :: AW
theorem m_X4_same : MWv yX4_same RX4 cX4_same 3 (some .boolean) 2 := ⟨a_i_X4_same, a_s_X4_same, a_n_X4, a_c_X4_same, by decide +kernel⟩
abbrev wsX4_alike : List Cond := .code yX4_alike cX4_alike 3 (some .boolean) :: AW
theorem m_X4_alike : MWv yX4_alike RX4 cX4_alike 3 (some .boolean) 2 := ⟨a_i_X4_alike, a_s_X4_alike, a_n_X4, a_c_X4_alike, by decide +kernel⟩
abbrev wsX4_order : List Cond := .code yX4_order cX4_order 7 (some .int) :: AW
theorem m_X4_order : MWv yX4_order RX4 cX4_order 7 (some .int) 3 := ⟨a_i_X4_order, a_s_X4_order, a_n_X4, a_c_X4_order, by decide +kernel⟩
abbrev wsX4_compare : List Cond := .code yX4_compare cX4_compare 3 (some .int) :: AW
theorem m_X4_compare : MWv yX4_compare RX4 cX4_compare 3 (some .int) 2 := ⟨a_i_X4_compare, a_s_X4_compare, a_n_X4, a_c_X4_compare, by decide +kernel⟩
abbrev wsX4_compareAlike : List Cond := .code yX4_compareAlike cX4_compareAlike 4 (some .int) :: AW
theorem m_X4_compareAlike : MWv yX4_compareAlike RX4 cX4_compareAlike 4 (some .int) 2 := ⟨a_i_X4_compareAlike, a_s_X4_compareAlike, a_n_X4, a_c_X4_compareAlike, by decide +kernel⟩
abbrev wsX4_replaceSign : List Cond := .code yX4_replaceSign cX4_replaceSign 6 (some .int) :: AW
theorem m_X4_replaceSign : MWv yX4_replaceSign RX4 cX4_replaceSign 6 (some .int) 4 := ⟨a_i_X4_replaceSign, a_s_X4_replaceSign, a_n_X4, a_c_X4_replaceSign, by decide +kernel⟩
abbrev wsX4_replaceText : List Cond := .code yX4_replaceText cX4_replaceText 6 (some .int) :: AW
theorem m_X4_replaceText : MWv yX4_replaceText RX4 cX4_replaceText 6 (some .int) 4 := ⟨a_i_X4_replaceText, a_s_X4_replaceText, a_n_X4, a_c_X4_replaceText, by decide +kernel⟩
abbrev wsX4_strips : List Cond := .code yX4_strips cX4_strips 9 (some .int) :: AW
theorem m_X4_strips : MWv yX4_strips RX4 cX4_strips 9 (some .int) 3 := ⟨a_i_X4_strips, a_s_X4_strips, a_n_X4, a_c_X4_strips, by decide +kernel⟩
abbrev wsX4_trim : List Cond := .code yX4_trim cX4_trim 3 (some .int) :: AW
theorem m_X4_trim : MWv yX4_trim RX4 cX4_trim 3 (some .int) 2 := ⟨a_i_X4_trim, a_s_X4_trim, a_n_X4, a_c_X4_trim, by decide +kernel⟩
abbrev wsX4_strip : List Cond := .code yX4_strip cX4_strip 3 (some .int) :: AW
theorem m_X4_strip : MWv yX4_strip RX4 cX4_strip 3 (some .int) 2 := ⟨a_i_X4_strip, a_s_X4_strip, a_n_X4, a_c_X4_strip, by decide +kernel⟩
abbrev wsX4_repeat : List Cond := .code yX4_repeat cX4_repeat 5 (some .int) :: AW
theorem m_X4_repeat : MWv yX4_repeat RX4 cX4_repeat 5 (some .int) 3 := ⟨a_i_X4_repeat, a_s_X4_repeat, a_n_X4, a_c_X4_repeat, by decide +kernel⟩
abbrev wsX4_turn : List Cond := .code yX4_turn cX4_turn 4 (some .int) :: AW
theorem m_X4_turn : MWv yX4_turn RX4 cX4_turn 4 (some .int) 2 := ⟨a_i_X4_turn, a_s_X4_turn, a_n_X4, a_c_X4_turn, by decide +kernel⟩
abbrev wsX4_isSpecial : List Cond := .code yX4_isSpecial cX4_isSpecial 1 (some .boolean) :: AW
theorem m_X4_isSpecial : MWs yX4_isSpecial cX4_isSpecial 1 (some .boolean) 1 := ⟨a_t_X4_isSpecial, a_n_X4, a_c_X4_isSpecial, by decide +kernel⟩
abbrev wsX4_addPiece : List Cond := .code yX4_addPiece cX4_addPiece 3 none :: AW
theorem m_X4_addPiece : MWv yX4_addPiece RX4 cX4_addPiece 3 none 2 := ⟨a_i_X4_addPiece, a_s_X4_addPiece, a_n_X4, a_c_X4_addPiece, by decide +kernel⟩
abbrev wsX4_part : List Cond := .code yX4_part cX4_part 6 (some .int) :: AW
theorem m_X4_part : MWv yX4_part RX4 cX4_part 6 (some .int) 3 := ⟨a_i_X4_part, a_s_X4_part, a_n_X4, a_c_X4_part, by decide +kernel⟩
abbrev wsX4_pieces : List Cond := .code yX4_pieces cX4_pieces 1 (some .int) :: AW
theorem m_X4_pieces : MWv yX4_pieces RX4 cX4_pieces 1 (some .int) 0 := ⟨a_i_X4_pieces, a_s_X4_pieces, a_n_X4, a_c_X4_pieces, by decide +kernel⟩
abbrev wsX4_putsPiece : List Cond := .code yX4_putsPiece cX4_putsPiece 3 none :: AW
theorem m_X4_putsPiece : MWv yX4_putsPiece RX4 cX4_putsPiece 3 none 1 := ⟨a_i_X4_putsPiece, a_s_X4_putsPiece, a_n_X4, a_c_X4_putsPiece, by decide +kernel⟩
abbrev wsX4_piece : List Cond := .code yX4_piece cX4_piece 3 (some .int) :: AW
theorem m_X4_piece : MWv yX4_piece RX4 cX4_piece 3 (some .int) 2 := ⟨a_i_X4_piece, a_s_X4_piece, a_n_X4, a_c_X4_piece, by decide +kernel⟩
abbrev wsX4_join : List Cond := .code yX4_join cX4_join 4 (some .int) :: AW
theorem m_X4_join : MWv yX4_join RX4 cX4_join 4 (some .int) 2 := ⟨a_i_X4_join, a_s_X4_join, a_n_X4, a_c_X4_join, by decide +kernel⟩
abbrev wsX4_finds : List Cond := .code yX4_finds cX4_finds 6 (some .int) :: AW
theorem m_X4_finds : MWv yX4_finds RX4 cX4_finds 6 (some .int) 2 := ⟨a_i_X4_finds, a_s_X4_finds, a_n_X4, a_c_X4_finds, by decide +kernel⟩
abbrev wsX4_count : List Cond := .code yX4_count cX4_count 3 (some .int) :: AW
theorem m_X4_count : MWv yX4_count RX4 cX4_count 3 (some .int) 2 := ⟨a_i_X4_count, a_s_X4_count, a_n_X4, a_c_X4_count, by decide +kernel⟩
abbrev wsX4_head : List Cond := .code yX4_head cX4_head 4 (some .int) :: AW
theorem m_X4_head : MWv yX4_head RX4 cX4_head 4 (some .int) 2 := ⟨a_i_X4_head, a_s_X4_head, a_n_X4, a_c_X4_head, by decide +kernel⟩
abbrev wsX4_foot : List Cond := .code yX4_foot cX4_foot 4 (some .int) :: AW
theorem m_X4_foot : MWv yX4_foot RX4 cX4_foot 4 (some .int) 2 := ⟨a_i_X4_foot, a_s_X4_foot, a_n_X4, a_c_X4_foot, by decide +kernel⟩
abbrev wsX4_arePlacesSo : List Cond := .code yX4_arePlacesSo cX4_arePlacesSo 10 (some .boolean) :: AW
theorem m_X4_arePlacesSo : MWv yX4_arePlacesSo RX4 cX4_arePlacesSo 10 (some .boolean) 3 := ⟨a_i_X4_arePlacesSo, a_s_X4_arePlacesSo, a_n_X4, a_c_X4_arePlacesSo, by decide +kernel⟩
abbrev wsX4_isOrderSo : List Cond := .code yX4_isOrderSo cX4_isOrderSo 7 (some .boolean) :: AW
theorem m_X4_isOrderSo : MWv yX4_isOrderSo RX4 cX4_isOrderSo 7 (some .boolean) 2 := ⟨a_i_X4_isOrderSo, a_s_X4_isOrderSo, a_n_X4, a_c_X4_isOrderSo, by decide +kernel⟩
abbrev wsX4_areFindsSo : List Cond := .code yX4_areFindsSo cX4_areFindsSo 6 (some .boolean) :: AW
theorem m_X4_areFindsSo : MWv yX4_areFindsSo RX4 cX4_areFindsSo 6 (some .boolean) 2 := ⟨a_i_X4_areFindsSo, a_s_X4_areFindsSo, a_n_X4, a_c_X4_areFindsSo, by decide +kernel⟩
abbrev wsX4_arePiecesSo : List Cond := .code yX4_arePiecesSo cX4_arePiecesSo 5 (some .boolean) :: AW
theorem m_X4_arePiecesSo : MWv yX4_arePiecesSo RX4 cX4_arePiecesSo 5 (some .boolean) 1 := ⟨a_i_X4_arePiecesSo, a_s_X4_arePiecesSo, a_n_X4, a_c_X4_arePiecesSo, by decide +kernel⟩
abbrev wsX4_holds : List Cond := .code yX4_holds cX4_holds 4 (some .boolean) :: AW
theorem m_X4_holds : MWv yX4_holds RX4 cX4_holds 4 (some .boolean) 3 := ⟨a_i_X4_holds, a_s_X4_holds, a_n_X4, a_c_X4_holds, by decide +kernel⟩
abbrev wsX4_allSigns : List Cond := .code yX4_allSigns cX4_allSigns 3 (some .int) :: AW
theorem m_X4_allSigns : MWv yX4_allSigns RX4 cX4_allSigns 3 (some .int) 0 := ⟨a_i_X4_allSigns, a_s_X4_allSigns, a_n_X4, a_c_X4_allSigns, by decide +kernel⟩
abbrev wsX4_moves : List Cond := .code yX4_moves cX4_moves 6 none :: AW
theorem m_X4_moves : MWs yX4_moves cX4_moves 6 none 5 := ⟨a_t_X4_moves, a_n_X4, a_c_X4_moves, by decide +kernel⟩
abbrev wsX4_keep : List Cond := .code yX4_keep cX4_keep 3 (some .int) :: AW
theorem m_X4_keep : MWv yX4_keep RX4 cX4_keep 3 (some .int) 1 := ⟨a_i_X4_keep, a_s_X4_keep, a_n_X4, a_c_X4_keep, by decide +kernel⟩
abbrev wsX4_back : List Cond := .code yX4_back cX4_back 3 (some .int) :: AW
theorem m_X4_back : MWv yX4_back RX4 cX4_back 3 (some .int) 1 := ⟨a_i_X4_back, a_s_X4_back, a_n_X4, a_c_X4_back, by decide +kernel⟩
abbrev wsX4_digest : List Cond := .code yX4_digest cX4_digest 5 (some .long) :: AW
theorem m_X4_digest : MWv yX4_digest RX4 cX4_digest 5 (some .long) 0 := ⟨a_i_X4_digest, a_s_X4_digest, a_n_X4, a_c_X4_digest, by decide +kernel⟩
abbrev wsJ11_isValidCodePoint_9a6ad : List Cond := .code yJ11_isValidCodePoint_9a6ad cJ11_isValidCodePoint_9a6ad 2 (some .boolean) :: AW
theorem m_J11_isValidCodePoint_9a6ad : MWs yJ11_isValidCodePoint_9a6ad cJ11_isValidCodePoint_9a6ad 2 (some .boolean) 1 := ⟨a_t_J11_isValidCodePoint_9a6ad, a_n_J11, a_c_J11_isValidCodePoint_9a6ad, by decide +kernel⟩
abbrev wsJ11_highSurrogate_5068e : List Cond := .code yJ11_highSurrogate_5068e cJ11_highSurrogate_5068e 1 (some .char) :: AW
theorem m_J11_highSurrogate_5068e : MWs yJ11_highSurrogate_5068e cJ11_highSurrogate_5068e 1 (some .char) 1 := ⟨a_t_J11_highSurrogate_5068e, a_n_J11, a_c_J11_highSurrogate_5068e, by decide +kernel⟩
abbrev wsJ11_lowSurrogate_5068e : List Cond := .code yJ11_lowSurrogate_5068e cJ11_lowSurrogate_5068e 1 (some .char) :: AW
theorem m_J11_lowSurrogate_5068e : MWs yJ11_lowSurrogate_5068e cJ11_lowSurrogate_5068e 1 (some .char) 1 := ⟨a_t_J11_lowSurrogate_5068e, a_n_J11, a_c_J11_lowSurrogate_5068e, by decide +kernel⟩
abbrev wsJ6_compare_7cf53 : List Cond := .code yJ6_compare_7cf53 cJ6_compare_7cf53 2 (some .int) :: AW
theorem m_J6_compare_7cf53 : MWs yJ6_compare_7cf53 cJ6_compare_7cf53 2 (some .int) 2 := ⟨a_t_J6_compare_7cf53, a_n_J6, a_c_J6_compare_7cf53, by decide +kernel⟩
abbrev wsJ9_floorMod_7cf53 : List Cond := .code yJ9_floorMod_7cf53 cJ9_floorMod_7cf53 3 (some .int) :: AW
theorem m_J9_floorMod_7cf53 : MWs yJ9_floorMod_7cf53 cJ9_floorMod_7cf53 3 (some .int) 2 := ⟨a_t_J9_floorMod_7cf53, a_n_J9, a_c_J9_floorMod_7cf53, by decide +kernel⟩
abbrev wsJ9_abs_067f4 : List Cond := .code yJ9_abs_067f4 cJ9_abs_067f4 2 (some .long) :: AW
theorem m_J9_abs_067f4 : MWs yJ9_abs_067f4 cJ9_abs_067f4 2 (some .long) 1 := ⟨a_t_J9_abs_067f4, a_n_J9, a_c_J9_abs_067f4, by decide +kernel⟩
abbrev wsJ9_max_7cf53 : List Cond := .code yJ9_max_7cf53 cJ9_max_7cf53 2 (some .int) :: AW
theorem m_J9_max_7cf53 : MWs yJ9_max_7cf53 cJ9_max_7cf53 2 (some .int) 2 := ⟨a_t_J9_max_7cf53, a_n_J9, a_c_J9_max_7cf53, by decide +kernel⟩
abbrev wsJ9_min_7cf53 : List Cond := .code yJ9_min_7cf53 cJ9_min_7cf53 2 (some .int) :: AW
theorem m_J9_min_7cf53 : MWs yJ9_min_7cf53 cJ9_min_7cf53 2 (some .int) 2 := ⟨a_t_J9_min_7cf53, a_n_J9, a_c_J9_min_7cf53, by decide +kernel⟩
abbrev wsJ0_length_8abf5 : List Cond := .code yJ0_length_8abf5 cJ0_length_8abf5 1 (some .int) :: AW
theorem m_J0_length_8abf5 : MWv yJ0_length_8abf5 RJ0 cJ0_length_8abf5 1 (some .int) 0 := ⟨a_i_J0_length_8abf5, a_s_J0_length_8abf5, a_n_J0, a_c_J0_length_8abf5, by decide +kernel⟩
abbrev wsJ0_indexOf_0f7a4 : List Cond := .code yJ0_indexOf_0f7a4 cJ0_indexOf_0f7a4 2 (some .int) :: AW
theorem m_J0_indexOf_0f7a4 : MWv yJ0_indexOf_0f7a4 RJ0 cJ0_indexOf_0f7a4 2 (some .int) 1 := ⟨a_i_J0_indexOf_0f7a4, a_s_J0_indexOf_0f7a4, a_n_J0, a_c_J0_indexOf_0f7a4, by decide +kernel⟩
abbrev wsJ0_indexOf_7cf53 : List Cond := .code yJ0_indexOf_7cf53 cJ0_indexOf_7cf53 3 (some .int) :: AW
theorem m_J0_indexOf_7cf53 : MWv yJ0_indexOf_7cf53 RJ0 cJ0_indexOf_7cf53 3 (some .int) 2 := ⟨a_i_J0_indexOf_7cf53, a_s_J0_indexOf_7cf53, a_n_J0, a_c_J0_indexOf_7cf53, by decide +kernel⟩
abbrev wsJ0_coder_7d493 : List Cond := .code yJ0_coder_7d493 cJ0_coder_7d493 1 (some .byte) :: AW
theorem m_J0_coder_7d493 : MWv yJ0_coder_7d493 RJ0 cJ0_coder_7d493 1 (some .byte) 0 := ⟨a_i_J0_coder_7d493, a_s_J0_coder_7d493, a_n_J0, a_c_J0_coder_7d493, by decide +kernel⟩
abbrev wsJ0_isLatin1_aae02 : List Cond := .code yJ0_isLatin1_aae02 cJ0_isLatin1_aae02 1 (some .boolean) :: AW
theorem m_J0_isLatin1_aae02 : MWv yJ0_isLatin1_aae02 RJ0 cJ0_isLatin1_aae02 1 (some .boolean) 0 := ⟨a_i_J0_isLatin1_aae02, a_s_J0_isLatin1_aae02, a_n_J0, a_c_J0_isLatin1_aae02, by decide +kernel⟩
abbrev wsJ0_checkBoundsBeginEnd_23922 : List Cond := .code yJ0_checkBoundsBeginEnd_23922 cJ0_checkBoundsBeginEnd_23922 3 none :: AW
theorem m_J0_checkBoundsBeginEnd_23922 : MWs yJ0_checkBoundsBeginEnd_23922 cJ0_checkBoundsBeginEnd_23922 3 none 3 := ⟨a_t_J0_checkBoundsBeginEnd_23922, a_n_J0, a_c_J0_checkBoundsBeginEnd_23922, by decide +kernel⟩
abbrev wsJ1_canEncode_9a6ad : List Cond := .code yJ1_canEncode_9a6ad cJ1_canEncode_9a6ad 1 (some .boolean) :: AW
theorem m_J1_canEncode_9a6ad : MWs yJ1_canEncode_9a6ad cJ1_canEncode_9a6ad 1 (some .boolean) 1 := ⟨a_t_J1_canEncode_9a6ad, a_n_J1, a_c_J1_canEncode_9a6ad, by decide +kernel⟩
abbrev wsJ1_indexOf_4cfef : List Cond := .code yJ1_indexOf_4cfef cJ1_indexOf_4cfef 4 (some .int) :: AW
theorem m_J1_indexOf_4cfef : MWs yJ1_indexOf_4cfef cJ1_indexOf_4cfef 4 (some .int) 4 := ⟨a_t_J1_indexOf_4cfef, a_n_J1, a_c_J1_indexOf_4cfef, by decide +kernel⟩
abbrev wsJ1_indexOfChar_4cfef : List Cond := .code yJ1_indexOfChar_4cfef cJ1_indexOfChar_4cfef 6 (some .int) :: AW
theorem m_J1_indexOfChar_4cfef : MWs yJ1_indexOfChar_4cfef cJ1_indexOfChar_4cfef 6 (some .int) 4 := ⟨a_t_J1_indexOfChar_4cfef, a_n_J1, a_c_J1_indexOfChar_4cfef, by decide +kernel⟩
abbrev wsJ2_getChar_3b067 : List Cond := .code yJ2_getChar_3b067 cJ2_getChar_3b067 2 (some .char) :: AW
theorem m_J2_getChar_3b067 : MWs yJ2_getChar_3b067 cJ2_getChar_3b067 2 (some .char) 2 := ⟨a_t_J2_getChar_3b067, a_n_J2, a_c_J2_getChar_3b067, by decide +kernel⟩
abbrev wsJ2_length_9d52b : List Cond := .code yJ2_length_9d52b cJ2_length_9d52b 1 (some .int) :: AW
theorem m_J2_length_9d52b : MWs yJ2_length_9d52b cJ2_length_9d52b 1 (some .int) 1 := ⟨a_t_J2_length_9d52b, a_n_J2, a_c_J2_length_9d52b, by decide +kernel⟩
abbrev wsJ2_indexOf_4cfef : List Cond := .code yJ2_indexOf_4cfef cJ2_indexOf_4cfef 4 (some .int) :: AW
theorem m_J2_indexOf_4cfef : MWs yJ2_indexOf_4cfef cJ2_indexOf_4cfef 4 (some .int) 4 := ⟨a_t_J2_indexOf_4cfef, a_n_J2, a_c_J2_indexOf_4cfef, by decide +kernel⟩
abbrev wsJ2_indexOfChar_4cfef : List Cond := .code yJ2_indexOfChar_4cfef cJ2_indexOfChar_4cfef 4 (some .int) :: AW
theorem m_J2_indexOfChar_4cfef : MWs yJ2_indexOfChar_4cfef cJ2_indexOfChar_4cfef 4 (some .int) 4 := ⟨a_t_J2_indexOfChar_4cfef, a_n_J2, a_c_J2_indexOfChar_4cfef, by decide +kernel⟩
abbrev wsJ2_indexOfCharUnsafe_4cfef : List Cond := .code yJ2_indexOfCharUnsafe_4cfef cJ2_indexOfCharUnsafe_4cfef 5 (some .int) :: AW
theorem m_J2_indexOfCharUnsafe_4cfef : MWs yJ2_indexOfCharUnsafe_4cfef cJ2_indexOfCharUnsafe_4cfef 5 (some .int) 4 := ⟨a_t_J2_indexOfCharUnsafe_4cfef, a_n_J2, a_c_J2_indexOfCharUnsafe_4cfef, by decide +kernel⟩
abbrev wsJ2_indexOfSupplementary_4cfef : List Cond := .code yJ2_indexOfSupplementary_4cfef cJ2_indexOfSupplementary_4cfef 7 (some .int) :: AW
theorem m_J2_indexOfSupplementary_4cfef : MWs yJ2_indexOfSupplementary_4cfef cJ2_indexOfSupplementary_4cfef 7 (some .int) 4 := ⟨a_t_J2_indexOfSupplementary_4cfef, a_n_J2, a_c_J2_indexOfSupplementary_4cfef, by decide +kernel⟩
abbrev wsJ2_checkBoundsBeginEnd_d044e : List Cond := .code yJ2_checkBoundsBeginEnd_d044e cJ2_checkBoundsBeginEnd_d044e 3 none :: AW
theorem m_J2_checkBoundsBeginEnd_d044e : MWs yJ2_checkBoundsBeginEnd_d044e cJ2_checkBoundsBeginEnd_d044e 3 none 3 := ⟨a_t_J2_checkBoundsBeginEnd_d044e, a_n_J2, a_c_J2_checkBoundsBeginEnd_d044e, by decide +kernel⟩
abbrev wsJ3_checkFromToIndex_8c36e : List Cond := .code yJ3_checkFromToIndex_8c36e cJ3_checkFromToIndex_8c36e 4 (some .int) :: AW
theorem m_J3_checkFromToIndex_8c36e : MWs yJ3_checkFromToIndex_8c36e cJ3_checkFromToIndex_8c36e 4 (some .int) 4 := ⟨a_t_J3_checkFromToIndex_8c36e, a_n_J3, a_c_J3_checkFromToIndex_8c36e, by decide +kernel⟩
theorem inX0 : ∀ w ∈ u_ws RX0 TX0 2, w ∈ AW := fun w hw => List.mem_filter.mpr ⟨List.mem_append_right _ ((by decide +kernel : ∀ w ∈ u_ws RX0 TX0 2, w ∈ tables_1) w hw), (by decide +kernel : ∀ w ∈ u_ws RX0 TX0 2, goodWord w = true) w hw⟩
theorem inX1 : ∀ w ∈ u_ws RX1 TX1 3, w ∈ AW := fun w hw => List.mem_filter.mpr ⟨List.mem_append_right _ ((by decide +kernel : ∀ w ∈ u_ws RX1 TX1 3, w ∈ tables_1) w hw), (by decide +kernel : ∀ w ∈ u_ws RX1 TX1 3, goodWord w = true) w hw⟩
theorem inX2 : ∀ w ∈ u_ws RX2 TX2 2, w ∈ AW := fun w hw => List.mem_filter.mpr ⟨List.mem_append_right _ ((by decide +kernel : ∀ w ∈ u_ws RX2 TX2 2, w ∈ tables_1) w hw), (by decide +kernel : ∀ w ∈ u_ws RX2 TX2 2, goodWord w = true) w hw⟩
theorem inX3 : ∀ w ∈ u_ws RX3 TX3 5, w ∈ AW := fun w hw => List.mem_filter.mpr ⟨List.mem_append_right _ ((by decide +kernel : ∀ w ∈ u_ws RX3 TX3 5, w ∈ tables_1) w hw), (by decide +kernel : ∀ w ∈ u_ws RX3 TX3 5, goodWord w = true) w hw⟩
theorem inX4 : ∀ w ∈ u_ws RX4 TX4 14, w ∈ AW := fun w hw => List.mem_filter.mpr ⟨List.mem_append_right _ ((by decide +kernel : ∀ w ∈ u_ws RX4 TX4 14, w ∈ tables_1) w hw), (by decide +kernel : ∀ w ∈ u_ws RX4 TX4 14, goodWord w = true) w hw⟩
end
section
/-! decode rows of the class, the reference and the JDK -/
theorem dX0_init_0 : decode cX0_init 0 = .ok (.aload_n 0, 1) := by decide +kernel
theorem dX0_init_1 : decode cX0_init 1 = .ok (.invokespecial 3, 3) := by decide +kernel
theorem dX0_init_4 : decode cX0_init 4 = .ok (.aload_n 0, 1) := by decide +kernel
theorem dX0_init_5 : decode cX0_init 5 = .ok (.bipush 8, 2) := by decide +kernel
theorem dX0_init_7 : decode cX0_init 7 = .ok (.anewarray 9, 3) := by decide +kernel
theorem dX0_init_10 : decode cX0_init 10 = .ok (.putfield 11, 3) := by decide +kernel
theorem dX0_init_13 : decode cX0_init 13 = .ok (.iconst 0, 1) := by decide +kernel
theorem dX0_init_14 : decode cX0_init 14 = .ok (.istore_n 1, 1) := by decide +kernel
theorem dX0_init_15 : decode cX0_init 15 = .ok (.iload_n 1, 1) := by decide +kernel
theorem dX0_init_16 : decode cX0_init 16 = .ok (.bipush 8, 2) := by decide +kernel
theorem dX0_init_18 : decode cX0_init 18 = .ok (.if_icmp .ge 25, 3) := by decide +kernel
theorem dX0_init_21 : decode cX0_init 21 = .ok (.aload_n 0, 1) := by decide +kernel
theorem dX0_init_22 : decode cX0_init 22 = .ok (.getfield 11, 3) := by decide +kernel
theorem dX0_init_25 : decode cX0_init 25 = .ok (.iload_n 1, 1) := by decide +kernel
theorem dX0_init_26 : decode cX0_init 26 = .ok (.new 9, 3) := by decide +kernel
theorem dX0_init_29 : decode cX0_init 29 = .ok (.dup, 1) := by decide +kernel
theorem dX0_init_30 : decode cX0_init 30 = .ok (.sipush 300, 3) := by decide +kernel
theorem dX0_init_33 : decode cX0_init 33 = .ok (.invokespecial 17, 3) := by decide +kernel
theorem dX0_init_36 : decode cX0_init 36 = .ok (.aastore, 1) := by decide +kernel
theorem dX0_init_37 : decode cX0_init 37 = .ok (.iinc 1 1, 3) := by decide +kernel
theorem dX0_init_40 : decode cX0_init 40 = .ok (.goto (-25), 3) := by decide +kernel
theorem dX0_init_43 : decode cX0_init 43 = .ok (.aload_n 0, 1) := by decide +kernel
theorem dX0_init_44 : decode cX0_init 44 = .ok (.new 20, 3) := by decide +kernel
theorem dX0_init_47 : decode cX0_init 47 = .ok (.dup, 1) := by decide +kernel
theorem dX0_init_48 : decode cX0_init 48 = .ok (.invokespecial 22, 3) := by decide +kernel
theorem dX0_init_51 : decode cX0_init 51 = .ok (.putfield 23, 3) := by decide +kernel
theorem dX0_init_54 : decode cX0_init 54 = .ok (.return_, 1) := by decide +kernel
theorem dX0_text_0 : decode cX0_text 0 = .ok (.aload_n 0, 1) := by decide +kernel
theorem dX0_text_1 : decode cX0_text 1 = .ok (.getfield 11, 3) := by decide +kernel
theorem dX0_text_4 : decode cX0_text 4 = .ok (.iload_n 1, 1) := by decide +kernel
theorem dX0_text_5 : decode cX0_text 5 = .ok (.bipush 8, 2) := by decide +kernel
theorem dX0_text_7 : decode cX0_text 7 = .ok (.invokestatic 27, 3) := by decide +kernel
theorem dX0_text_10 : decode cX0_text 10 = .ok (.aaload, 1) := by decide +kernel
theorem dX0_text_11 : decode cX0_text 11 = .ok (.areturn, 1) := by decide +kernel
theorem dX0_exchange_0 : decode cX0_exchange 0 = .ok (.aload_n 0, 1) := by decide +kernel
theorem dX0_exchange_1 : decode cX0_exchange 1 = .ok (.iload_n 1, 1) := by decide +kernel
theorem dX0_exchange_2 : decode cX0_exchange 2 = .ok (.invokevirtual 33, 3) := by decide +kernel
theorem dX0_exchange_5 : decode cX0_exchange 5 = .ok (.astore_n 3, 1) := by decide +kernel
theorem dX0_exchange_6 : decode cX0_exchange 6 = .ok (.aload_n 0, 1) := by decide +kernel
theorem dX0_exchange_7 : decode cX0_exchange 7 = .ok (.getfield 11, 3) := by decide +kernel
theorem dX0_exchange_10 : decode cX0_exchange 10 = .ok (.iload_n 1, 1) := by decide +kernel
theorem dX0_exchange_11 : decode cX0_exchange 11 = .ok (.bipush 8, 2) := by decide +kernel
theorem dX0_exchange_13 : decode cX0_exchange 13 = .ok (.invokestatic 27, 3) := by decide +kernel
theorem dX0_exchange_16 : decode cX0_exchange 16 = .ok (.aload_n 0, 1) := by decide +kernel
theorem dX0_exchange_17 : decode cX0_exchange 17 = .ok (.iload_n 2, 1) := by decide +kernel
theorem dX0_exchange_18 : decode cX0_exchange 18 = .ok (.invokevirtual 33, 3) := by decide +kernel
theorem dX0_exchange_21 : decode cX0_exchange 21 = .ok (.aastore, 1) := by decide +kernel
theorem dX0_exchange_22 : decode cX0_exchange 22 = .ok (.aload_n 0, 1) := by decide +kernel
theorem dX0_exchange_23 : decode cX0_exchange 23 = .ok (.getfield 11, 3) := by decide +kernel
theorem dX0_exchange_26 : decode cX0_exchange 26 = .ok (.iload_n 2, 1) := by decide +kernel
theorem dX0_exchange_27 : decode cX0_exchange 27 = .ok (.bipush 8, 2) := by decide +kernel
theorem dX0_exchange_29 : decode cX0_exchange 29 = .ok (.invokestatic 27, 3) := by decide +kernel
theorem dX0_exchange_32 : decode cX0_exchange 32 = .ok (.aload_n 3, 1) := by decide +kernel
theorem dX0_exchange_33 : decode cX0_exchange 33 = .ok (.aastore, 1) := by decide +kernel
theorem dX0_exchange_34 : decode cX0_exchange 34 = .ok (.return_, 1) := by decide +kernel
theorem dX0_become_0 : decode cX0_become 0 = .ok (.iconst 0, 1) := by decide +kernel
theorem dX0_become_1 : decode cX0_become 1 = .ok (.istore_n 2, 1) := by decide +kernel
theorem dX0_become_2 : decode cX0_become 2 = .ok (.iload_n 2, 1) := by decide +kernel
theorem dX0_become_3 : decode cX0_become 3 = .ok (.bipush 8, 2) := by decide +kernel
theorem dX0_become_5 : decode cX0_become 5 = .ok (.if_icmp .ge 24, 3) := by decide +kernel
theorem dX0_become_8 : decode cX0_become 8 = .ok (.aload_n 0, 1) := by decide +kernel
theorem dX0_become_9 : decode cX0_become 9 = .ok (.getfield 11, 3) := by decide +kernel
theorem dX0_become_12 : decode cX0_become 12 = .ok (.iload_n 2, 1) := by decide +kernel
theorem dX0_become_13 : decode cX0_become 13 = .ok (.aaload, 1) := by decide +kernel
theorem dX0_become_14 : decode cX0_become 14 = .ok (.aload_n 1, 1) := by decide +kernel
theorem dX0_become_15 : decode cX0_become 15 = .ok (.getfield 11, 3) := by decide +kernel
theorem dX0_become_18 : decode cX0_become 18 = .ok (.iload_n 2, 1) := by decide +kernel
theorem dX0_become_19 : decode cX0_become 19 = .ok (.aaload, 1) := by decide +kernel
theorem dX0_become_20 : decode cX0_become 20 = .ok (.invokevirtual 37, 3) := by decide +kernel
theorem dX0_become_23 : decode cX0_become 23 = .ok (.iinc 2 1, 3) := by decide +kernel
theorem dX0_become_26 : decode cX0_become 26 = .ok (.goto (-24), 3) := by decide +kernel
theorem dX0_become_29 : decode cX0_become 29 = .ok (.aload_n 0, 1) := by decide +kernel
theorem dX0_become_30 : decode cX0_become 30 = .ok (.getfield 23, 3) := by decide +kernel
theorem dX0_become_33 : decode cX0_become 33 = .ok (.aload_n 1, 1) := by decide +kernel
theorem dX0_become_34 : decode cX0_become 34 = .ok (.getfield 23, 3) := by decide +kernel
theorem dX0_become_37 : decode cX0_become 37 = .ok (.invokevirtual 41, 3) := by decide +kernel
theorem dX0_become_40 : decode cX0_become 40 = .ok (.return_, 1) := by decide +kernel
theorem dX0_sizeOfTexts_0 : decode cX0_sizeOfTexts 0 = .ok (.iconst 0, 1) := by decide +kernel
theorem dX0_sizeOfTexts_1 : decode cX0_sizeOfTexts 1 = .ok (.istore_n 1, 1) := by decide +kernel
theorem dX0_sizeOfTexts_2 : decode cX0_sizeOfTexts 2 = .ok (.iconst 0, 1) := by decide +kernel
theorem dX0_sizeOfTexts_3 : decode cX0_sizeOfTexts 3 = .ok (.istore_n 2, 1) := by decide +kernel
theorem dX0_sizeOfTexts_4 : decode cX0_sizeOfTexts 4 = .ok (.iload_n 2, 1) := by decide +kernel
theorem dX0_sizeOfTexts_5 : decode cX0_sizeOfTexts 5 = .ok (.bipush 8, 2) := by decide +kernel
theorem dX0_sizeOfTexts_7 : decode cX0_sizeOfTexts 7 = .ok (.if_icmp .ge 21, 3) := by decide +kernel
theorem dX0_sizeOfTexts_10 : decode cX0_sizeOfTexts 10 = .ok (.iload_n 1, 1) := by decide +kernel
theorem dX0_sizeOfTexts_11 : decode cX0_sizeOfTexts 11 = .ok (.aload_n 0, 1) := by decide +kernel
theorem dX0_sizeOfTexts_12 : decode cX0_sizeOfTexts 12 = .ok (.getfield 11, 3) := by decide +kernel
theorem dX0_sizeOfTexts_15 : decode cX0_sizeOfTexts 15 = .ok (.iload_n 2, 1) := by decide +kernel
theorem dX0_sizeOfTexts_16 : decode cX0_sizeOfTexts 16 = .ok (.aaload, 1) := by decide +kernel
theorem dX0_sizeOfTexts_17 : decode cX0_sizeOfTexts 17 = .ok (.invokevirtual 44, 3) := by decide +kernel
theorem dX0_sizeOfTexts_20 : decode cX0_sizeOfTexts 20 = .ok (.iadd, 1) := by decide +kernel
theorem dX0_sizeOfTexts_21 : decode cX0_sizeOfTexts 21 = .ok (.istore_n 1, 1) := by decide +kernel
theorem dX0_sizeOfTexts_22 : decode cX0_sizeOfTexts 22 = .ok (.iinc 2 1, 3) := by decide +kernel
theorem dX0_sizeOfTexts_25 : decode cX0_sizeOfTexts 25 = .ok (.goto (-21), 3) := by decide +kernel
theorem dX0_sizeOfTexts_28 : decode cX0_sizeOfTexts 28 = .ok (.iload_n 1, 1) := by decide +kernel
theorem dX0_sizeOfTexts_29 : decode cX0_sizeOfTexts 29 = .ok (.ireturn, 1) := by decide +kernel
theorem dX1_init_0 : decode cX1_init 0 = .ok (.aload_n 0, 1) := by decide +kernel
theorem dX1_init_1 : decode cX1_init 1 = .ok (.invokespecial 3, 3) := by decide +kernel
theorem dX1_init_4 : decode cX1_init 4 = .ok (.aload_n 0, 1) := by decide +kernel
theorem dX1_init_5 : decode cX1_init 5 = .ok (.new 9, 3) := by decide +kernel
theorem dX1_init_8 : decode cX1_init 8 = .ok (.dup, 1) := by decide +kernel
theorem dX1_init_9 : decode cX1_init 9 = .ok (.sipush 300, 3) := by decide +kernel
theorem dX1_init_12 : decode cX1_init 12 = .ok (.invokespecial 11, 3) := by decide +kernel
theorem dX1_init_15 : decode cX1_init 15 = .ok (.putfield 14, 3) := by decide +kernel
theorem dX1_init_18 : decode cX1_init 18 = .ok (.aload_n 0, 1) := by decide +kernel
theorem dX1_init_19 : decode cX1_init 19 = .ok (.sipush 301, 3) := by decide +kernel
theorem dX1_init_22 : decode cX1_init 22 = .ok (.newarray .int, 2) := by decide +kernel
theorem dX1_init_24 : decode cX1_init 24 = .ok (.putfield 20, 3) := by decide +kernel
theorem dX1_init_27 : decode cX1_init 27 = .ok (.return_, 1) := by decide +kernel
theorem dX1_size_0 : decode cX1_size 0 = .ok (.aload_n 0, 1) := by decide +kernel
theorem dX1_size_1 : decode cX1_size 1 = .ok (.getfield 24, 3) := by decide +kernel
theorem dX1_size_4 : decode cX1_size 4 = .ok (.ireturn, 1) := by decide +kernel
theorem dX1_partAnew_0 : decode cX1_partAnew 0 = .ok (.aload_n 0, 1) := by decide +kernel
theorem dX1_partAnew_1 : decode cX1_partAnew 1 = .ok (.getfield 14, 3) := by decide +kernel
theorem dX1_partAnew_4 : decode cX1_partAnew 4 = .ok (.invokevirtual 28, 3) := by decide +kernel
theorem dX1_partAnew_7 : decode cX1_partAnew 7 = .ok (.aload_n 0, 1) := by decide +kernel
theorem dX1_partAnew_8 : decode cX1_partAnew 8 = .ok (.iconst 0, 1) := by decide +kernel
theorem dX1_partAnew_9 : decode cX1_partAnew 9 = .ok (.putfield 24, 3) := by decide +kernel
theorem dX1_partAnew_12 : decode cX1_partAnew 12 = .ok (.iconst 0, 1) := by decide +kernel
theorem dX1_partAnew_13 : decode cX1_partAnew 13 = .ok (.istore 4, 2) := by decide +kernel
theorem dX1_partAnew_15 : decode cX1_partAnew 15 = .ok (.iload 4, 2) := by decide +kernel
theorem dX1_partAnew_17 : decode cX1_partAnew 17 = .ok (.aload_n 1, 1) := by decide +kernel
theorem dX1_partAnew_18 : decode cX1_partAnew 18 = .ok (.invokevirtual 31, 3) := by decide +kernel
theorem dX1_partAnew_21 : decode cX1_partAnew 21 = .ok (.if_icmp .ge 53, 3) := by decide +kernel
theorem dX1_partAnew_24 : decode cX1_partAnew 24 = .ok (.aload_n 1, 1) := by decide +kernel
theorem dX1_partAnew_25 : decode cX1_partAnew 25 = .ok (.iload 4, 2) := by decide +kernel
theorem dX1_partAnew_27 : decode cX1_partAnew 27 = .ok (.invokevirtual 34, 3) := by decide +kernel
theorem dX1_partAnew_30 : decode cX1_partAnew 30 = .ok (.iload_n 2, 1) := by decide +kernel
theorem dX1_partAnew_31 : decode cX1_partAnew 31 = .ok (.if_icmp .ne 24, 3) := by decide +kernel
theorem dX1_partAnew_34 : decode cX1_partAnew 34 = .ok (.iload_n 3, 1) := by decide +kernel
theorem dX1_partAnew_35 : decode cX1_partAnew 35 = .ok (.ifCond .le 13, 3) := by decide +kernel
theorem dX1_partAnew_38 : decode cX1_partAnew 38 = .ok (.aload_n 0, 1) := by decide +kernel
theorem dX1_partAnew_39 : decode cX1_partAnew 39 = .ok (.getfield 24, 3) := by decide +kernel
theorem dX1_partAnew_42 : decode cX1_partAnew 42 = .ok (.iload_n 3, 1) := by decide +kernel
theorem dX1_partAnew_43 : decode cX1_partAnew 43 = .ok (.iconst 1, 1) := by decide +kernel
theorem dX1_partAnew_44 : decode cX1_partAnew 44 = .ok (.isub, 1) := by decide +kernel
theorem dX1_partAnew_45 : decode cX1_partAnew 45 = .ok (.if_icmp .ge 10, 3) := by decide +kernel
theorem dX1_partAnew_48 : decode cX1_partAnew 48 = .ok (.aload_n 0, 1) := by decide +kernel
theorem dX1_partAnew_49 : decode cX1_partAnew 49 = .ok (.invokevirtual 38, 3) := by decide +kernel
theorem dX1_partAnew_52 : decode cX1_partAnew 52 = .ok (.goto 16, 3) := by decide +kernel
theorem dX1_partAnew_55 : decode cX1_partAnew 55 = .ok (.aload_n 0, 1) := by decide +kernel
theorem dX1_partAnew_56 : decode cX1_partAnew 56 = .ok (.getfield 14, 3) := by decide +kernel
theorem dX1_partAnew_59 : decode cX1_partAnew 59 = .ok (.aload_n 1, 1) := by decide +kernel
theorem dX1_partAnew_60 : decode cX1_partAnew 60 = .ok (.iload 4, 2) := by decide +kernel
theorem dX1_partAnew_62 : decode cX1_partAnew 62 = .ok (.invokevirtual 34, 3) := by decide +kernel
theorem dX1_partAnew_65 : decode cX1_partAnew 65 = .ok (.invokevirtual 41, 3) := by decide +kernel
theorem dX1_partAnew_68 : decode cX1_partAnew 68 = .ok (.iinc 4 1, 3) := by decide +kernel
theorem dX1_partAnew_71 : decode cX1_partAnew 71 = .ok (.goto (-56), 3) := by decide +kernel
theorem dX1_partAnew_74 : decode cX1_partAnew 74 = .ok (.aload_n 0, 1) := by decide +kernel
theorem dX1_partAnew_75 : decode cX1_partAnew 75 = .ok (.invokevirtual 38, 3) := by decide +kernel
theorem dX1_partAnew_78 : decode cX1_partAnew 78 = .ok (.iload_n 3, 1) := by decide +kernel
theorem dX1_partAnew_79 : decode cX1_partAnew 79 = .ok (.ifCond .ne 15, 3) := by decide +kernel
theorem dX1_partAnew_82 : decode cX1_partAnew 82 = .ok (.aload_n 0, 1) := by decide +kernel
theorem dX1_partAnew_83 : decode cX1_partAnew 83 = .ok (.getfield 24, 3) := by decide +kernel
theorem dX1_partAnew_86 : decode cX1_partAnew 86 = .ok (.iconst 1, 1) := by decide +kernel
theorem dX1_partAnew_87 : decode cX1_partAnew 87 = .ok (.if_icmp .le 7, 3) := by decide +kernel
theorem dX1_partAnew_90 : decode cX1_partAnew 90 = .ok (.aload_n 0, 1) := by decide +kernel
theorem dX1_partAnew_91 : decode cX1_partAnew 91 = .ok (.invokevirtual 44, 3) := by decide +kernel
theorem dX1_partAnew_94 : decode cX1_partAnew 94 = .ok (.return_, 1) := by decide +kernel
theorem dX1_addPieceTo_0 : decode cX1_addPieceTo 0 = .ok (.aload_n 1, 1) := by decide +kernel
theorem dX1_addPieceTo_1 : decode cX1_addPieceTo 1 = .ok (.aload_n 0, 1) := by decide +kernel
theorem dX1_addPieceTo_2 : decode cX1_addPieceTo 2 = .ok (.getfield 14, 3) := by decide +kernel
theorem dX1_addPieceTo_5 : decode cX1_addPieceTo 5 = .ok (.aload_n 0, 1) := by decide +kernel
theorem dX1_addPieceTo_6 : decode cX1_addPieceTo 6 = .ok (.iload_n 2, 1) := by decide +kernel
theorem dX1_addPieceTo_7 : decode cX1_addPieceTo 7 = .ok (.invokevirtual 47, 3) := by decide +kernel
theorem dX1_addPieceTo_10 : decode cX1_addPieceTo 10 = .ok (.aload_n 0, 1) := by decide +kernel
theorem dX1_addPieceTo_11 : decode cX1_addPieceTo 11 = .ok (.iload_n 2, 1) := by decide +kernel
theorem dX1_addPieceTo_12 : decode cX1_addPieceTo 12 = .ok (.invokevirtual 50, 3) := by decide +kernel
theorem dX1_addPieceTo_15 : decode cX1_addPieceTo 15 = .ok (.invokevirtual 53, 3) := by decide +kernel
theorem dX1_addPieceTo_18 : decode cX1_addPieceTo 18 = .ok (.return_, 1) := by decide +kernel
theorem dX1_addJoinedTo_0 : decode cX1_addJoinedTo 0 = .ok (.iconst 0, 1) := by decide +kernel
theorem dX1_addJoinedTo_1 : decode cX1_addJoinedTo 1 = .ok (.istore_n 3, 1) := by decide +kernel
theorem dX1_addJoinedTo_2 : decode cX1_addJoinedTo 2 = .ok (.iload_n 3, 1) := by decide +kernel
theorem dX1_addJoinedTo_3 : decode cX1_addJoinedTo 3 = .ok (.aload_n 0, 1) := by decide +kernel
theorem dX1_addJoinedTo_4 : decode cX1_addJoinedTo 4 = .ok (.getfield 24, 3) := by decide +kernel
theorem dX1_addJoinedTo_7 : decode cX1_addJoinedTo 7 = .ok (.if_icmp .ge 24, 3) := by decide +kernel
theorem dX1_addJoinedTo_10 : decode cX1_addJoinedTo 10 = .ok (.iload_n 3, 1) := by decide +kernel
theorem dX1_addJoinedTo_11 : decode cX1_addJoinedTo 11 = .ok (.ifCond .le 8, 3) := by decide +kernel
theorem dX1_addJoinedTo_14 : decode cX1_addJoinedTo 14 = .ok (.aload_n 1, 1) := by decide +kernel
theorem dX1_addJoinedTo_15 : decode cX1_addJoinedTo 15 = .ok (.iload_n 2, 1) := by decide +kernel
theorem dX1_addJoinedTo_16 : decode cX1_addJoinedTo 16 = .ok (.invokevirtual 41, 3) := by decide +kernel
theorem dX1_addJoinedTo_19 : decode cX1_addJoinedTo 19 = .ok (.aload_n 0, 1) := by decide +kernel
theorem dX1_addJoinedTo_20 : decode cX1_addJoinedTo 20 = .ok (.aload_n 1, 1) := by decide +kernel
theorem dX1_addJoinedTo_21 : decode cX1_addJoinedTo 21 = .ok (.iload_n 3, 1) := by decide +kernel
theorem dX1_addJoinedTo_22 : decode cX1_addJoinedTo 22 = .ok (.invokevirtual 57, 3) := by decide +kernel
theorem dX1_addJoinedTo_25 : decode cX1_addJoinedTo 25 = .ok (.iinc 3 1, 3) := by decide +kernel
theorem dX1_addJoinedTo_28 : decode cX1_addJoinedTo 28 = .ok (.goto (-26), 3) := by decide +kernel
theorem dX1_addJoinedTo_31 : decode cX1_addJoinedTo 31 = .ok (.return_, 1) := by decide +kernel
theorem dX1_sizeJoined_0 : decode cX1_sizeJoined 0 = .ok (.aload_n 0, 1) := by decide +kernel
theorem dX1_sizeJoined_1 : decode cX1_sizeJoined 1 = .ok (.getfield 14, 3) := by decide +kernel
theorem dX1_sizeJoined_4 : decode cX1_sizeJoined 4 = .ok (.invokevirtual 31, 3) := by decide +kernel
theorem dX1_sizeJoined_7 : decode cX1_sizeJoined 7 = .ok (.iconst 0, 1) := by decide +kernel
theorem dX1_sizeJoined_8 : decode cX1_sizeJoined 8 = .ok (.aload_n 0, 1) := by decide +kernel
theorem dX1_sizeJoined_9 : decode cX1_sizeJoined 9 = .ok (.getfield 24, 3) := by decide +kernel
theorem dX1_sizeJoined_12 : decode cX1_sizeJoined 12 = .ok (.iconst 1, 1) := by decide +kernel
theorem dX1_sizeJoined_13 : decode cX1_sizeJoined 13 = .ok (.isub, 1) := by decide +kernel
theorem dX1_sizeJoined_14 : decode cX1_sizeJoined 14 = .ok (.invokestatic 61, 3) := by decide +kernel
theorem dX1_sizeJoined_17 : decode cX1_sizeJoined 17 = .ok (.iadd, 1) := by decide +kernel
theorem dX1_sizeJoined_18 : decode cX1_sizeJoined 18 = .ok (.ireturn, 1) := by decide +kernel
theorem dX1_become_0 : decode cX1_become 0 = .ok (.aload_n 0, 1) := by decide +kernel
theorem dX1_become_1 : decode cX1_become 1 = .ok (.getfield 14, 3) := by decide +kernel
theorem dX1_become_4 : decode cX1_become 4 = .ok (.aload_n 1, 1) := by decide +kernel
theorem dX1_become_5 : decode cX1_become 5 = .ok (.getfield 14, 3) := by decide +kernel
theorem dX1_become_8 : decode cX1_become 8 = .ok (.invokevirtual 67, 3) := by decide +kernel
theorem dX1_become_11 : decode cX1_become 11 = .ok (.aload_n 0, 1) := by decide +kernel
theorem dX1_become_12 : decode cX1_become 12 = .ok (.iconst 0, 1) := by decide +kernel
theorem dX1_become_13 : decode cX1_become 13 = .ok (.putfield 24, 3) := by decide +kernel
theorem dX1_become_16 : decode cX1_become 16 = .ok (.iconst 0, 1) := by decide +kernel
theorem dX1_become_17 : decode cX1_become 17 = .ok (.istore_n 2, 1) := by decide +kernel
theorem dX1_become_18 : decode cX1_become 18 = .ok (.iload_n 2, 1) := by decide +kernel
theorem dX1_become_19 : decode cX1_become 19 = .ok (.aload_n 1, 1) := by decide +kernel
theorem dX1_become_20 : decode cX1_become 20 = .ok (.getfield 24, 3) := by decide +kernel
theorem dX1_become_23 : decode cX1_become 23 = .ok (.if_icmp .ge 18, 3) := by decide +kernel
theorem dX1_become_26 : decode cX1_become 26 = .ok (.aload_n 0, 1) := by decide +kernel
theorem dX1_become_27 : decode cX1_become 27 = .ok (.aload_n 1, 1) := by decide +kernel
theorem dX1_become_28 : decode cX1_become 28 = .ok (.iload_n 2, 1) := by decide +kernel
theorem dX1_become_29 : decode cX1_become 29 = .ok (.invokevirtual 50, 3) := by decide +kernel
theorem dX1_become_32 : decode cX1_become 32 = .ok (.invokevirtual 71, 3) := by decide +kernel
theorem dX1_become_35 : decode cX1_become 35 = .ok (.iinc 2 1, 3) := by decide +kernel
theorem dX1_become_38 : decode cX1_become 38 = .ok (.goto (-20), 3) := by decide +kernel
theorem dX1_become_41 : decode cX1_become 41 = .ok (.return_, 1) := by decide +kernel
theorem dX1_foldAll_0 : decode cX1_foldAll 0 = .ok (.lload_n 1, 1) := by decide +kernel
theorem dX1_foldAll_1 : decode cX1_foldAll 1 = .ok (.lstore_n 3, 1) := by decide +kernel
theorem dX1_foldAll_2 : decode cX1_foldAll 2 = .ok (.iconst 0, 1) := by decide +kernel
theorem dX1_foldAll_3 : decode cX1_foldAll 3 = .ok (.istore 5, 2) := by decide +kernel
theorem dX1_foldAll_5 : decode cX1_foldAll 5 = .ok (.iload 5, 2) := by decide +kernel
theorem dX1_foldAll_7 : decode cX1_foldAll 7 = .ok (.aload_n 0, 1) := by decide +kernel
theorem dX1_foldAll_8 : decode cX1_foldAll 8 = .ok (.getfield 24, 3) := by decide +kernel
theorem dX1_foldAll_11 : decode cX1_foldAll 11 = .ok (.if_icmp .ge 30, 3) := by decide +kernel
theorem dX1_foldAll_14 : decode cX1_foldAll 14 = .ok (.aload_n 0, 1) := by decide +kernel
theorem dX1_foldAll_15 : decode cX1_foldAll 15 = .ok (.getfield 14, 3) := by decide +kernel
theorem dX1_foldAll_18 : decode cX1_foldAll 18 = .ok (.lload_n 3, 1) := by decide +kernel
theorem dX1_foldAll_19 : decode cX1_foldAll 19 = .ok (.aload_n 0, 1) := by decide +kernel
theorem dX1_foldAll_20 : decode cX1_foldAll 20 = .ok (.iload 5, 2) := by decide +kernel
theorem dX1_foldAll_22 : decode cX1_foldAll 22 = .ok (.invokevirtual 47, 3) := by decide +kernel
theorem dX1_foldAll_25 : decode cX1_foldAll 25 = .ok (.aload_n 0, 1) := by decide +kernel
theorem dX1_foldAll_26 : decode cX1_foldAll 26 = .ok (.iload 5, 2) := by decide +kernel
theorem dX1_foldAll_28 : decode cX1_foldAll 28 = .ok (.invokevirtual 50, 3) := by decide +kernel
theorem dX1_foldAll_31 : decode cX1_foldAll 31 = .ok (.invokevirtual 74, 3) := by decide +kernel
theorem dX1_foldAll_34 : decode cX1_foldAll 34 = .ok (.lstore_n 3, 1) := by decide +kernel
theorem dX1_foldAll_35 : decode cX1_foldAll 35 = .ok (.iinc 5 1, 3) := by decide +kernel
theorem dX1_foldAll_38 : decode cX1_foldAll 38 = .ok (.goto (-33), 3) := by decide +kernel
theorem dX1_foldAll_41 : decode cX1_foldAll 41 = .ok (.lload_n 3, 1) := by decide +kernel
theorem dX1_foldAll_42 : decode cX1_foldAll 42 = .ok (.lreturn, 1) := by decide +kernel
theorem dX1_endPiece_0 : decode cX1_endPiece 0 = .ok (.aload_n 0, 1) := by decide +kernel
theorem dX1_endPiece_1 : decode cX1_endPiece 1 = .ok (.aload_n 0, 1) := by decide +kernel
theorem dX1_endPiece_2 : decode cX1_endPiece 2 = .ok (.getfield 14, 3) := by decide +kernel
theorem dX1_endPiece_5 : decode cX1_endPiece 5 = .ok (.invokevirtual 31, 3) := by decide +kernel
theorem dX1_endPiece_8 : decode cX1_endPiece 8 = .ok (.invokevirtual 71, 3) := by decide +kernel
theorem dX1_endPiece_11 : decode cX1_endPiece 11 = .ok (.return_, 1) := by decide +kernel
theorem dX1_addEnd_0 : decode cX1_addEnd 0 = .ok (.aload_n 0, 1) := by decide +kernel
theorem dX1_addEnd_1 : decode cX1_addEnd 1 = .ok (.getfield 24, 3) := by decide +kernel
theorem dX1_addEnd_4 : decode cX1_addEnd 4 = .ok (.aload_n 0, 1) := by decide +kernel
theorem dX1_addEnd_5 : decode cX1_addEnd 5 = .ok (.getfield 20, 3) := by decide +kernel
theorem dX1_addEnd_8 : decode cX1_addEnd 8 = .ok (.arraylength, 1) := by decide +kernel
theorem dX1_addEnd_9 : decode cX1_addEnd 9 = .ok (.if_icmp .ge 23, 3) := by decide +kernel
theorem dX1_addEnd_12 : decode cX1_addEnd 12 = .ok (.aload_n 0, 1) := by decide +kernel
theorem dX1_addEnd_13 : decode cX1_addEnd 13 = .ok (.getfield 20, 3) := by decide +kernel
theorem dX1_addEnd_16 : decode cX1_addEnd 16 = .ok (.aload_n 0, 1) := by decide +kernel
theorem dX1_addEnd_17 : decode cX1_addEnd 17 = .ok (.getfield 24, 3) := by decide +kernel
theorem dX1_addEnd_20 : decode cX1_addEnd 20 = .ok (.iload_n 1, 1) := by decide +kernel
theorem dX1_addEnd_21 : decode cX1_addEnd 21 = .ok (.iastore, 1) := by decide +kernel
theorem dX1_addEnd_22 : decode cX1_addEnd 22 = .ok (.aload_n 0, 1) := by decide +kernel
theorem dX1_addEnd_23 : decode cX1_addEnd 23 = .ok (.dup, 1) := by decide +kernel
theorem dX1_addEnd_24 : decode cX1_addEnd 24 = .ok (.getfield 24, 3) := by decide +kernel
theorem dX1_addEnd_27 : decode cX1_addEnd 27 = .ok (.iconst 1, 1) := by decide +kernel
theorem dX1_addEnd_28 : decode cX1_addEnd 28 = .ok (.iadd, 1) := by decide +kernel
theorem dX1_addEnd_29 : decode cX1_addEnd 29 = .ok (.putfield 24, 3) := by decide +kernel
theorem dX1_addEnd_32 : decode cX1_addEnd 32 = .ok (.return_, 1) := by decide +kernel
theorem dX1_leaveOutEmptyEnd_0 : decode cX1_leaveOutEmptyEnd 0 = .ok (.aload_n 0, 1) := by decide +kernel
theorem dX1_leaveOutEmptyEnd_1 : decode cX1_leaveOutEmptyEnd 1 = .ok (.getfield 24, 3) := by decide +kernel
theorem dX1_leaveOutEmptyEnd_4 : decode cX1_leaveOutEmptyEnd 4 = .ok (.ifCond .le 39, 3) := by decide +kernel
theorem dX1_leaveOutEmptyEnd_7 : decode cX1_leaveOutEmptyEnd 7 = .ok (.aload_n 0, 1) := by decide +kernel
theorem dX1_leaveOutEmptyEnd_8 : decode cX1_leaveOutEmptyEnd 8 = .ok (.aload_n 0, 1) := by decide +kernel
theorem dX1_leaveOutEmptyEnd_9 : decode cX1_leaveOutEmptyEnd 9 = .ok (.getfield 24, 3) := by decide +kernel
theorem dX1_leaveOutEmptyEnd_12 : decode cX1_leaveOutEmptyEnd 12 = .ok (.iconst 1, 1) := by decide +kernel
theorem dX1_leaveOutEmptyEnd_13 : decode cX1_leaveOutEmptyEnd 13 = .ok (.isub, 1) := by decide +kernel
theorem dX1_leaveOutEmptyEnd_14 : decode cX1_leaveOutEmptyEnd 14 = .ok (.invokevirtual 47, 3) := by decide +kernel
theorem dX1_leaveOutEmptyEnd_17 : decode cX1_leaveOutEmptyEnd 17 = .ok (.aload_n 0, 1) := by decide +kernel
theorem dX1_leaveOutEmptyEnd_18 : decode cX1_leaveOutEmptyEnd 18 = .ok (.aload_n 0, 1) := by decide +kernel
theorem dX1_leaveOutEmptyEnd_19 : decode cX1_leaveOutEmptyEnd 19 = .ok (.getfield 24, 3) := by decide +kernel
theorem dX1_leaveOutEmptyEnd_22 : decode cX1_leaveOutEmptyEnd 22 = .ok (.iconst 1, 1) := by decide +kernel
theorem dX1_leaveOutEmptyEnd_23 : decode cX1_leaveOutEmptyEnd 23 = .ok (.isub, 1) := by decide +kernel
theorem dX1_leaveOutEmptyEnd_24 : decode cX1_leaveOutEmptyEnd 24 = .ok (.invokevirtual 50, 3) := by decide +kernel
theorem dX1_leaveOutEmptyEnd_27 : decode cX1_leaveOutEmptyEnd 27 = .ok (.if_icmp .ne 16, 3) := by decide +kernel
theorem dX1_leaveOutEmptyEnd_30 : decode cX1_leaveOutEmptyEnd 30 = .ok (.aload_n 0, 1) := by decide +kernel
theorem dX1_leaveOutEmptyEnd_31 : decode cX1_leaveOutEmptyEnd 31 = .ok (.dup, 1) := by decide +kernel
theorem dX1_leaveOutEmptyEnd_32 : decode cX1_leaveOutEmptyEnd 32 = .ok (.getfield 24, 3) := by decide +kernel
theorem dX1_leaveOutEmptyEnd_35 : decode cX1_leaveOutEmptyEnd 35 = .ok (.iconst 1, 1) := by decide +kernel
theorem dX1_leaveOutEmptyEnd_36 : decode cX1_leaveOutEmptyEnd 36 = .ok (.isub, 1) := by decide +kernel
theorem dX1_leaveOutEmptyEnd_37 : decode cX1_leaveOutEmptyEnd 37 = .ok (.putfield 24, 3) := by decide +kernel
theorem dX1_leaveOutEmptyEnd_40 : decode cX1_leaveOutEmptyEnd 40 = .ok (.goto (-40), 3) := by decide +kernel
theorem dX1_leaveOutEmptyEnd_43 : decode cX1_leaveOutEmptyEnd 43 = .ok (.return_, 1) := by decide +kernel
theorem dX1_startOf_0 : decode cX1_startOf 0 = .ok (.aload_n 0, 1) := by decide +kernel
theorem dX1_startOf_1 : decode cX1_startOf 1 = .ok (.iload_n 1, 1) := by decide +kernel
theorem dX1_startOf_2 : decode cX1_startOf 2 = .ok (.iconst 1, 1) := by decide +kernel
theorem dX1_startOf_3 : decode cX1_startOf 3 = .ok (.isub, 1) := by decide +kernel
theorem dX1_startOf_4 : decode cX1_startOf 4 = .ok (.invokevirtual 50, 3) := by decide +kernel
theorem dX1_startOf_7 : decode cX1_startOf 7 = .ok (.ireturn, 1) := by decide +kernel
theorem dX1_endOf_0 : decode cX1_endOf 0 = .ok (.iload_n 1, 1) := by decide +kernel
theorem dX1_endOf_1 : decode cX1_endOf 1 = .ok (.ifCond .lt 11, 3) := by decide +kernel
theorem dX1_endOf_4 : decode cX1_endOf 4 = .ok (.iload_n 1, 1) := by decide +kernel
theorem dX1_endOf_5 : decode cX1_endOf 5 = .ok (.aload_n 0, 1) := by decide +kernel
theorem dX1_endOf_6 : decode cX1_endOf 6 = .ok (.getfield 24, 3) := by decide +kernel
theorem dX1_endOf_9 : decode cX1_endOf 9 = .ok (.if_icmp .lt 5, 3) := by decide +kernel
theorem dX1_endOf_12 : decode cX1_endOf 12 = .ok (.iconst 0, 1) := by decide +kernel
theorem dX1_endOf_13 : decode cX1_endOf 13 = .ok (.ireturn, 1) := by decide +kernel
theorem dX1_endOf_14 : decode cX1_endOf 14 = .ok (.aload_n 0, 1) := by decide +kernel
theorem dX1_endOf_15 : decode cX1_endOf 15 = .ok (.getfield 20, 3) := by decide +kernel
theorem dX1_endOf_18 : decode cX1_endOf 18 = .ok (.iload_n 1, 1) := by decide +kernel
theorem dX1_endOf_19 : decode cX1_endOf 19 = .ok (.iaload, 1) := by decide +kernel
theorem dX1_endOf_20 : decode cX1_endOf 20 = .ok (.ireturn, 1) := by decide +kernel
theorem dX2_init_0 : decode cX2_init 0 = .ok (.aload_n 0, 1) := by decide +kernel
theorem dX2_init_1 : decode cX2_init 1 = .ok (.invokespecial 3, 3) := by decide +kernel
theorem dX2_init_4 : decode cX2_init 4 = .ok (.aload_n 0, 1) := by decide +kernel
theorem dX2_init_5 : decode cX2_init 5 = .ok (.iconst 0, 1) := by decide +kernel
theorem dX2_init_6 : decode cX2_init 6 = .ok (.iload_n 1, 1) := by decide +kernel
theorem dX2_init_7 : decode cX2_init 7 = .ok (.invokestatic 9, 3) := by decide +kernel
theorem dX2_init_10 : decode cX2_init 10 = .ok (.newarray .int, 2) := by decide +kernel
theorem dX2_init_12 : decode cX2_init 12 = .ok (.putfield 15, 3) := by decide +kernel
theorem dX2_init_15 : decode cX2_init 15 = .ok (.return_, 1) := by decide +kernel
theorem dX2_size_0 : decode cX2_size 0 = .ok (.aload_n 0, 1) := by decide +kernel
theorem dX2_size_1 : decode cX2_size 1 = .ok (.getfield 21, 3) := by decide +kernel
theorem dX2_size_4 : decode cX2_size 4 = .ok (.ireturn, 1) := by decide +kernel
theorem dX2_at_0 : decode cX2_at 0 = .ok (.iload_n 1, 1) := by decide +kernel
theorem dX2_at_1 : decode cX2_at 1 = .ok (.ifCond .lt 11, 3) := by decide +kernel
theorem dX2_at_4 : decode cX2_at 4 = .ok (.iload_n 1, 1) := by decide +kernel
theorem dX2_at_5 : decode cX2_at 5 = .ok (.aload_n 0, 1) := by decide +kernel
theorem dX2_at_6 : decode cX2_at 6 = .ok (.getfield 21, 3) := by decide +kernel
theorem dX2_at_9 : decode cX2_at 9 = .ok (.if_icmp .lt 5, 3) := by decide +kernel
theorem dX2_at_12 : decode cX2_at 12 = .ok (.iconst (-1), 1) := by decide +kernel
theorem dX2_at_13 : decode cX2_at 13 = .ok (.ireturn, 1) := by decide +kernel
theorem dX2_at_14 : decode cX2_at 14 = .ok (.aload_n 0, 1) := by decide +kernel
theorem dX2_at_15 : decode cX2_at 15 = .ok (.getfield 15, 3) := by decide +kernel
theorem dX2_at_18 : decode cX2_at 18 = .ok (.iload_n 1, 1) := by decide +kernel
theorem dX2_at_19 : decode cX2_at 19 = .ok (.iaload, 1) := by decide +kernel
theorem dX2_at_20 : decode cX2_at 20 = .ok (.ireturn, 1) := by decide +kernel
theorem dX2_clear_0 : decode cX2_clear 0 = .ok (.aload_n 0, 1) := by decide +kernel
theorem dX2_clear_1 : decode cX2_clear 1 = .ok (.iconst 0, 1) := by decide +kernel
theorem dX2_clear_2 : decode cX2_clear 2 = .ok (.putfield 21, 3) := by decide +kernel
theorem dX2_clear_5 : decode cX2_clear 5 = .ok (.return_, 1) := by decide +kernel
theorem dX2_add_0 : decode cX2_add 0 = .ok (.aload_n 0, 1) := by decide +kernel
theorem dX2_add_1 : decode cX2_add 1 = .ok (.getfield 21, 3) := by decide +kernel
theorem dX2_add_4 : decode cX2_add 4 = .ok (.aload_n 0, 1) := by decide +kernel
theorem dX2_add_5 : decode cX2_add 5 = .ok (.getfield 15, 3) := by decide +kernel
theorem dX2_add_8 : decode cX2_add 8 = .ok (.arraylength, 1) := by decide +kernel
theorem dX2_add_9 : decode cX2_add 9 = .ok (.if_icmp .ge 23, 3) := by decide +kernel
theorem dX2_add_12 : decode cX2_add 12 = .ok (.aload_n 0, 1) := by decide +kernel
theorem dX2_add_13 : decode cX2_add 13 = .ok (.getfield 15, 3) := by decide +kernel
theorem dX2_add_16 : decode cX2_add 16 = .ok (.aload_n 0, 1) := by decide +kernel
theorem dX2_add_17 : decode cX2_add 17 = .ok (.getfield 21, 3) := by decide +kernel
theorem dX2_add_20 : decode cX2_add 20 = .ok (.iload_n 1, 1) := by decide +kernel
theorem dX2_add_21 : decode cX2_add 21 = .ok (.iastore, 1) := by decide +kernel
theorem dX2_add_22 : decode cX2_add 22 = .ok (.aload_n 0, 1) := by decide +kernel
theorem dX2_add_23 : decode cX2_add 23 = .ok (.dup, 1) := by decide +kernel
theorem dX2_add_24 : decode cX2_add 24 = .ok (.getfield 21, 3) := by decide +kernel
theorem dX2_add_27 : decode cX2_add 27 = .ok (.iconst 1, 1) := by decide +kernel
theorem dX2_add_28 : decode cX2_add 28 = .ok (.iadd, 1) := by decide +kernel
theorem dX2_add_29 : decode cX2_add 29 = .ok (.putfield 21, 3) := by decide +kernel
theorem dX2_add_32 : decode cX2_add 32 = .ok (.return_, 1) := by decide +kernel
theorem dX2_addSpan_0 : decode cX2_addSpan 0 = .ok (.iload_n 2, 1) := by decide +kernel
theorem dX2_addSpan_1 : decode cX2_addSpan 1 = .ok (.istore 4, 2) := by decide +kernel
theorem dX2_addSpan_3 : decode cX2_addSpan 3 = .ok (.iload 4, 2) := by decide +kernel
theorem dX2_addSpan_5 : decode cX2_addSpan 5 = .ok (.iload_n 3, 1) := by decide +kernel
theorem dX2_addSpan_6 : decode cX2_addSpan 6 = .ok (.if_icmp .ge 19, 3) := by decide +kernel
theorem dX2_addSpan_9 : decode cX2_addSpan 9 = .ok (.aload_n 0, 1) := by decide +kernel
theorem dX2_addSpan_10 : decode cX2_addSpan 10 = .ok (.aload_n 1, 1) := by decide +kernel
theorem dX2_addSpan_11 : decode cX2_addSpan 11 = .ok (.iload 4, 2) := by decide +kernel
theorem dX2_addSpan_13 : decode cX2_addSpan 13 = .ok (.invokevirtual 25, 3) := by decide +kernel
theorem dX2_addSpan_16 : decode cX2_addSpan 16 = .ok (.invokevirtual 29, 3) := by decide +kernel
theorem dX2_addSpan_19 : decode cX2_addSpan 19 = .ok (.iinc 4 1, 3) := by decide +kernel
theorem dX2_addSpan_22 : decode cX2_addSpan 22 = .ok (.goto (-19), 3) := by decide +kernel
theorem dX2_addSpan_25 : decode cX2_addSpan 25 = .ok (.return_, 1) := by decide +kernel
theorem dX2_addText_0 : decode cX2_addText 0 = .ok (.aload_n 0, 1) := by decide +kernel
theorem dX2_addText_1 : decode cX2_addText 1 = .ok (.aload_n 1, 1) := by decide +kernel
theorem dX2_addText_2 : decode cX2_addText 2 = .ok (.iconst 0, 1) := by decide +kernel
theorem dX2_addText_3 : decode cX2_addText 3 = .ok (.aload_n 1, 1) := by decide +kernel
theorem dX2_addText_4 : decode cX2_addText 4 = .ok (.getfield 21, 3) := by decide +kernel
theorem dX2_addText_7 : decode cX2_addText 7 = .ok (.invokevirtual 33, 3) := by decide +kernel
theorem dX2_addText_10 : decode cX2_addText 10 = .ok (.return_, 1) := by decide +kernel
theorem dX2_addTurned_0 : decode cX2_addTurned 0 = .ok (.aload_n 1, 1) := by decide +kernel
theorem dX2_addTurned_1 : decode cX2_addTurned 1 = .ok (.getfield 21, 3) := by decide +kernel
theorem dX2_addTurned_4 : decode cX2_addTurned 4 = .ok (.iconst 1, 1) := by decide +kernel
theorem dX2_addTurned_5 : decode cX2_addTurned 5 = .ok (.isub, 1) := by decide +kernel
theorem dX2_addTurned_6 : decode cX2_addTurned 6 = .ok (.istore_n 2, 1) := by decide +kernel
theorem dX2_addTurned_7 : decode cX2_addTurned 7 = .ok (.iload_n 2, 1) := by decide +kernel
theorem dX2_addTurned_8 : decode cX2_addTurned 8 = .ok (.ifCond .lt 18, 3) := by decide +kernel
theorem dX2_addTurned_11 : decode cX2_addTurned 11 = .ok (.aload_n 0, 1) := by decide +kernel
theorem dX2_addTurned_12 : decode cX2_addTurned 12 = .ok (.aload_n 1, 1) := by decide +kernel
theorem dX2_addTurned_13 : decode cX2_addTurned 13 = .ok (.iload_n 2, 1) := by decide +kernel
theorem dX2_addTurned_14 : decode cX2_addTurned 14 = .ok (.invokevirtual 25, 3) := by decide +kernel
theorem dX2_addTurned_17 : decode cX2_addTurned 17 = .ok (.invokevirtual 29, 3) := by decide +kernel
theorem dX2_addTurned_20 : decode cX2_addTurned 20 = .ok (.iinc 2 (-1), 3) := by decide +kernel
theorem dX2_addTurned_23 : decode cX2_addTurned 23 = .ok (.goto (-16), 3) := by decide +kernel
theorem dX2_addTurned_26 : decode cX2_addTurned 26 = .ok (.return_, 1) := by decide +kernel
theorem dX2_addDigitsFromLowest_0 : decode cX2_addDigitsFromLowest 0 = .ok (.lload_n 1, 1) := by decide +kernel
theorem dX2_addDigitsFromLowest_1 : decode cX2_addDigitsFromLowest 1 = .ok (.lstore_n 3, 1) := by decide +kernel
theorem dX2_addDigitsFromLowest_2 : decode cX2_addDigitsFromLowest 2 = .ok (.iconst 0, 1) := by decide +kernel
theorem dX2_addDigitsFromLowest_3 : decode cX2_addDigitsFromLowest 3 = .ok (.istore 5, 2) := by decide +kernel
theorem dX2_addDigitsFromLowest_5 : decode cX2_addDigitsFromLowest 5 = .ok (.iload 5, 2) := by decide +kernel
theorem dX2_addDigitsFromLowest_7 : decode cX2_addDigitsFromLowest 7 = .ok (.bipush 19, 2) := by decide +kernel
theorem dX2_addDigitsFromLowest_9 : decode cX2_addDigitsFromLowest 9 = .ok (.if_icmp .ge 42, 3) := by decide +kernel
theorem dX2_addDigitsFromLowest_12 : decode cX2_addDigitsFromLowest 12 = .ok (.iload 5, 2) := by decide +kernel
theorem dX2_addDigitsFromLowest_14 : decode cX2_addDigitsFromLowest 14 = .ok (.ifCond .eq 9, 3) := by decide +kernel
theorem dX2_addDigitsFromLowest_17 : decode cX2_addDigitsFromLowest 17 = .ok (.lload_n 3, 1) := by decide +kernel
theorem dX2_addDigitsFromLowest_18 : decode cX2_addDigitsFromLowest 18 = .ok (.lconst 0, 1) := by decide +kernel
theorem dX2_addDigitsFromLowest_19 : decode cX2_addDigitsFromLowest 19 = .ok (.lcmp, 1) := by decide +kernel
theorem dX2_addDigitsFromLowest_20 : decode cX2_addDigitsFromLowest 20 = .ok (.ifCond .eq 31, 3) := by decide +kernel
theorem dX2_addDigitsFromLowest_23 : decode cX2_addDigitsFromLowest 23 = .ok (.aload_n 0, 1) := by decide +kernel
theorem dX2_addDigitsFromLowest_24 : decode cX2_addDigitsFromLowest 24 = .ok (.bipush 48, 2) := by decide +kernel
theorem dX2_addDigitsFromLowest_26 : decode cX2_addDigitsFromLowest 26 = .ok (.lload_n 3, 1) := by decide +kernel
theorem dX2_addDigitsFromLowest_27 : decode cX2_addDigitsFromLowest 27 = .ok (.ldc2_w 37, 3) := by decide +kernel
theorem dX2_addDigitsFromLowest_30 : decode cX2_addDigitsFromLowest 30 = .ok (.lrem, 1) := by decide +kernel
theorem dX2_addDigitsFromLowest_31 : decode cX2_addDigitsFromLowest 31 = .ok (.invokestatic 39, 3) := by decide +kernel
theorem dX2_addDigitsFromLowest_34 : decode cX2_addDigitsFromLowest 34 = .ok (.l2i, 1) := by decide +kernel
theorem dX2_addDigitsFromLowest_35 : decode cX2_addDigitsFromLowest 35 = .ok (.iadd, 1) := by decide +kernel
theorem dX2_addDigitsFromLowest_36 : decode cX2_addDigitsFromLowest 36 = .ok (.invokevirtual 29, 3) := by decide +kernel
theorem dX2_addDigitsFromLowest_39 : decode cX2_addDigitsFromLowest 39 = .ok (.lload_n 3, 1) := by decide +kernel
theorem dX2_addDigitsFromLowest_40 : decode cX2_addDigitsFromLowest 40 = .ok (.ldc2_w 37, 3) := by decide +kernel
theorem dX2_addDigitsFromLowest_43 : decode cX2_addDigitsFromLowest 43 = .ok (.ldiv, 1) := by decide +kernel
theorem dX2_addDigitsFromLowest_44 : decode cX2_addDigitsFromLowest 44 = .ok (.lstore_n 3, 1) := by decide +kernel
theorem dX2_addDigitsFromLowest_45 : decode cX2_addDigitsFromLowest 45 = .ok (.iinc 5 1, 3) := by decide +kernel
theorem dX2_addDigitsFromLowest_48 : decode cX2_addDigitsFromLowest 48 = .ok (.goto (-43), 3) := by decide +kernel
theorem dX2_addDigitsFromLowest_51 : decode cX2_addDigitsFromLowest 51 = .ok (.return_, 1) := by decide +kernel
theorem dX2_addReplaced_0 : decode cX2_addReplaced 0 = .ok (.iconst 0, 1) := by decide +kernel
theorem dX2_addReplaced_1 : decode cX2_addReplaced 1 = .ok (.istore 4, 2) := by decide +kernel
theorem dX2_addReplaced_3 : decode cX2_addReplaced 3 = .ok (.iload 4, 2) := by decide +kernel
theorem dX2_addReplaced_5 : decode cX2_addReplaced 5 = .ok (.aload_n 1, 1) := by decide +kernel
theorem dX2_addReplaced_6 : decode cX2_addReplaced 6 = .ok (.getfield 21, 3) := by decide +kernel
theorem dX2_addReplaced_9 : decode cX2_addReplaced 9 = .ok (.if_icmp .ge 50, 3) := by decide +kernel
theorem dX2_addReplaced_12 : decode cX2_addReplaced 12 = .ok (.aload_n 1, 1) := by decide +kernel
theorem dX2_addReplaced_13 : decode cX2_addReplaced 13 = .ok (.aload_n 2, 1) := by decide +kernel
theorem dX2_addReplaced_14 : decode cX2_addReplaced 14 = .ok (.iload 4, 2) := by decide +kernel
theorem dX2_addReplaced_16 : decode cX2_addReplaced 16 = .ok (.invokevirtual 43, 3) := by decide +kernel
theorem dX2_addReplaced_19 : decode cX2_addReplaced 19 = .ok (.ifCond .eq 24, 3) := by decide +kernel
theorem dX2_addReplaced_22 : decode cX2_addReplaced 22 = .ok (.aload_n 0, 1) := by decide +kernel
theorem dX2_addReplaced_23 : decode cX2_addReplaced 23 = .ok (.aload_n 3, 1) := by decide +kernel
theorem dX2_addReplaced_24 : decode cX2_addReplaced 24 = .ok (.invokevirtual 47, 3) := by decide +kernel
theorem dX2_addReplaced_27 : decode cX2_addReplaced 27 = .ok (.iload 4, 2) := by decide +kernel
theorem dX2_addReplaced_29 : decode cX2_addReplaced 29 = .ok (.iconst 1, 1) := by decide +kernel
theorem dX2_addReplaced_30 : decode cX2_addReplaced 30 = .ok (.aload_n 2, 1) := by decide +kernel
theorem dX2_addReplaced_31 : decode cX2_addReplaced 31 = .ok (.getfield 21, 3) := by decide +kernel
theorem dX2_addReplaced_34 : decode cX2_addReplaced 34 = .ok (.invokestatic 9, 3) := by decide +kernel
theorem dX2_addReplaced_37 : decode cX2_addReplaced 37 = .ok (.iadd, 1) := by decide +kernel
theorem dX2_addReplaced_38 : decode cX2_addReplaced 38 = .ok (.istore 4, 2) := by decide +kernel
theorem dX2_addReplaced_40 : decode cX2_addReplaced 40 = .ok (.goto (-37), 3) := by decide +kernel
theorem dX2_addReplaced_43 : decode cX2_addReplaced 43 = .ok (.aload_n 0, 1) := by decide +kernel
theorem dX2_addReplaced_44 : decode cX2_addReplaced 44 = .ok (.aload_n 1, 1) := by decide +kernel
theorem dX2_addReplaced_45 : decode cX2_addReplaced 45 = .ok (.iload 4, 2) := by decide +kernel
theorem dX2_addReplaced_47 : decode cX2_addReplaced 47 = .ok (.invokevirtual 25, 3) := by decide +kernel
theorem dX2_addReplaced_50 : decode cX2_addReplaced 50 = .ok (.invokevirtual 29, 3) := by decide +kernel
theorem dX2_addReplaced_53 : decode cX2_addReplaced 53 = .ok (.iinc 4 1, 3) := by decide +kernel
theorem dX2_addReplaced_56 : decode cX2_addReplaced 56 = .ok (.goto (-53), 3) := by decide +kernel
theorem dX2_addReplaced_59 : decode cX2_addReplaced 59 = .ok (.return_, 1) := by decide +kernel
theorem dX2_become_0 : decode cX2_become 0 = .ok (.aload_n 0, 1) := by decide +kernel
theorem dX2_become_1 : decode cX2_become 1 = .ok (.invokevirtual 51, 3) := by decide +kernel
theorem dX2_become_4 : decode cX2_become 4 = .ok (.aload_n 0, 1) := by decide +kernel
theorem dX2_become_5 : decode cX2_become 5 = .ok (.aload_n 1, 1) := by decide +kernel
theorem dX2_become_6 : decode cX2_become 6 = .ok (.invokevirtual 47, 3) := by decide +kernel
theorem dX2_become_9 : decode cX2_become 9 = .ok (.return_, 1) := by decide +kernel
theorem dX2_change_0 : decode cX2_change 0 = .ok (.iconst 0, 1) := by decide +kernel
theorem dX2_change_1 : decode cX2_change 1 = .ok (.istore_n 3, 1) := by decide +kernel
theorem dX2_change_2 : decode cX2_change 2 = .ok (.iload_n 3, 1) := by decide +kernel
theorem dX2_change_3 : decode cX2_change 3 = .ok (.aload_n 0, 1) := by decide +kernel
theorem dX2_change_4 : decode cX2_change 4 = .ok (.getfield 21, 3) := by decide +kernel
theorem dX2_change_7 : decode cX2_change 7 = .ok (.if_icmp .ge 35, 3) := by decide +kernel
theorem dX2_change_10 : decode cX2_change 10 = .ok (.iload_n 3, 1) := by decide +kernel
theorem dX2_change_11 : decode cX2_change 11 = .ok (.aload_n 0, 1) := by decide +kernel
theorem dX2_change_12 : decode cX2_change 12 = .ok (.getfield 15, 3) := by decide +kernel
theorem dX2_change_15 : decode cX2_change 15 = .ok (.arraylength, 1) := by decide +kernel
theorem dX2_change_16 : decode cX2_change 16 = .ok (.if_icmp .ge 26, 3) := by decide +kernel
theorem dX2_change_19 : decode cX2_change 19 = .ok (.aload_n 0, 1) := by decide +kernel
theorem dX2_change_20 : decode cX2_change 20 = .ok (.getfield 15, 3) := by decide +kernel
theorem dX2_change_23 : decode cX2_change 23 = .ok (.iload_n 3, 1) := by decide +kernel
theorem dX2_change_24 : decode cX2_change 24 = .ok (.iaload, 1) := by decide +kernel
theorem dX2_change_25 : decode cX2_change 25 = .ok (.iload_n 1, 1) := by decide +kernel
theorem dX2_change_26 : decode cX2_change 26 = .ok (.if_icmp .ne 10, 3) := by decide +kernel
theorem dX2_change_29 : decode cX2_change 29 = .ok (.aload_n 0, 1) := by decide +kernel
theorem dX2_change_30 : decode cX2_change 30 = .ok (.getfield 15, 3) := by decide +kernel
theorem dX2_change_33 : decode cX2_change 33 = .ok (.iload_n 3, 1) := by decide +kernel
theorem dX2_change_34 : decode cX2_change 34 = .ok (.iload_n 2, 1) := by decide +kernel
theorem dX2_change_35 : decode cX2_change 35 = .ok (.iastore, 1) := by decide +kernel
theorem dX2_change_36 : decode cX2_change 36 = .ok (.iinc 3 1, 3) := by decide +kernel
theorem dX2_change_39 : decode cX2_change 39 = .ok (.goto (-37), 3) := by decide +kernel
theorem dX2_change_42 : decode cX2_change 42 = .ok (.return_, 1) := by decide +kernel
theorem dX2_signFrom_0 : decode cX2_signFrom 0 = .ok (.iconst 0, 1) := by decide +kernel
theorem dX2_signFrom_1 : decode cX2_signFrom 1 = .ok (.iload_n 2, 1) := by decide +kernel
theorem dX2_signFrom_2 : decode cX2_signFrom 2 = .ok (.invokestatic 9, 3) := by decide +kernel
theorem dX2_signFrom_5 : decode cX2_signFrom 5 = .ok (.istore_n 3, 1) := by decide +kernel
theorem dX2_signFrom_6 : decode cX2_signFrom 6 = .ok (.iload_n 3, 1) := by decide +kernel
theorem dX2_signFrom_7 : decode cX2_signFrom 7 = .ok (.aload_n 0, 1) := by decide +kernel
theorem dX2_signFrom_8 : decode cX2_signFrom 8 = .ok (.getfield 21, 3) := by decide +kernel
theorem dX2_signFrom_11 : decode cX2_signFrom 11 = .ok (.if_icmp .ge 20, 3) := by decide +kernel
theorem dX2_signFrom_14 : decode cX2_signFrom 14 = .ok (.aload_n 0, 1) := by decide +kernel
theorem dX2_signFrom_15 : decode cX2_signFrom 15 = .ok (.iload_n 3, 1) := by decide +kernel
theorem dX2_signFrom_16 : decode cX2_signFrom 16 = .ok (.invokevirtual 25, 3) := by decide +kernel
theorem dX2_signFrom_19 : decode cX2_signFrom 19 = .ok (.iload_n 1, 1) := by decide +kernel
theorem dX2_signFrom_20 : decode cX2_signFrom 20 = .ok (.if_icmp .ne 5, 3) := by decide +kernel
theorem dX2_signFrom_23 : decode cX2_signFrom 23 = .ok (.iload_n 3, 1) := by decide +kernel
theorem dX2_signFrom_24 : decode cX2_signFrom 24 = .ok (.ireturn, 1) := by decide +kernel
theorem dX2_signFrom_25 : decode cX2_signFrom 25 = .ok (.iinc 3 1, 3) := by decide +kernel
theorem dX2_signFrom_28 : decode cX2_signFrom 28 = .ok (.goto (-22), 3) := by decide +kernel
theorem dX2_signFrom_31 : decode cX2_signFrom 31 = .ok (.iconst (-1), 1) := by decide +kernel
theorem dX2_signFrom_32 : decode cX2_signFrom 32 = .ok (.ireturn, 1) := by decide +kernel
theorem dX2_signBack_0 : decode cX2_signBack 0 = .ok (.iload_n 2, 1) := by decide +kernel
theorem dX2_signBack_1 : decode cX2_signBack 1 = .ok (.aload_n 0, 1) := by decide +kernel
theorem dX2_signBack_2 : decode cX2_signBack 2 = .ok (.getfield 21, 3) := by decide +kernel
theorem dX2_signBack_5 : decode cX2_signBack 5 = .ok (.iconst 1, 1) := by decide +kernel
theorem dX2_signBack_6 : decode cX2_signBack 6 = .ok (.isub, 1) := by decide +kernel
theorem dX2_signBack_7 : decode cX2_signBack 7 = .ok (.invokestatic 54, 3) := by decide +kernel
theorem dX2_signBack_10 : decode cX2_signBack 10 = .ok (.istore_n 3, 1) := by decide +kernel
theorem dX2_signBack_11 : decode cX2_signBack 11 = .ok (.iload_n 3, 1) := by decide +kernel
theorem dX2_signBack_12 : decode cX2_signBack 12 = .ok (.ifCond .lt 20, 3) := by decide +kernel
theorem dX2_signBack_15 : decode cX2_signBack 15 = .ok (.aload_n 0, 1) := by decide +kernel
theorem dX2_signBack_16 : decode cX2_signBack 16 = .ok (.iload_n 3, 1) := by decide +kernel
theorem dX2_signBack_17 : decode cX2_signBack 17 = .ok (.invokevirtual 25, 3) := by decide +kernel
theorem dX2_signBack_20 : decode cX2_signBack 20 = .ok (.iload_n 1, 1) := by decide +kernel
theorem dX2_signBack_21 : decode cX2_signBack 21 = .ok (.if_icmp .ne 5, 3) := by decide +kernel
theorem dX2_signBack_24 : decode cX2_signBack 24 = .ok (.iload_n 3, 1) := by decide +kernel
theorem dX2_signBack_25 : decode cX2_signBack 25 = .ok (.ireturn, 1) := by decide +kernel
theorem dX2_signBack_26 : decode cX2_signBack 26 = .ok (.iinc 3 (-1), 3) := by decide +kernel
theorem dX2_signBack_29 : decode cX2_signBack 29 = .ok (.goto (-18), 3) := by decide +kernel
theorem dX2_signBack_32 : decode cX2_signBack 32 = .ok (.iconst (-1), 1) := by decide +kernel
theorem dX2_signBack_33 : decode cX2_signBack 33 = .ok (.ireturn, 1) := by decide +kernel
theorem dX2_placeFrom_0 : decode cX2_placeFrom 0 = .ok (.iconst 0, 1) := by decide +kernel
theorem dX2_placeFrom_1 : decode cX2_placeFrom 1 = .ok (.iload_n 2, 1) := by decide +kernel
theorem dX2_placeFrom_2 : decode cX2_placeFrom 2 = .ok (.aload_n 0, 1) := by decide +kernel
theorem dX2_placeFrom_3 : decode cX2_placeFrom 3 = .ok (.getfield 21, 3) := by decide +kernel
theorem dX2_placeFrom_6 : decode cX2_placeFrom 6 = .ok (.invokestatic 54, 3) := by decide +kernel
theorem dX2_placeFrom_9 : decode cX2_placeFrom 9 = .ok (.invokestatic 9, 3) := by decide +kernel
theorem dX2_placeFrom_12 : decode cX2_placeFrom 12 = .ok (.istore_n 3, 1) := by decide +kernel
theorem dX2_placeFrom_13 : decode cX2_placeFrom 13 = .ok (.iload_n 3, 1) := by decide +kernel
theorem dX2_placeFrom_14 : decode cX2_placeFrom 14 = .ok (.istore 4, 2) := by decide +kernel
theorem dX2_placeFrom_16 : decode cX2_placeFrom 16 = .ok (.iload 4, 2) := by decide +kernel
theorem dX2_placeFrom_18 : decode cX2_placeFrom 18 = .ok (.aload_n 0, 1) := by decide +kernel
theorem dX2_placeFrom_19 : decode cX2_placeFrom 19 = .ok (.getfield 21, 3) := by decide +kernel
theorem dX2_placeFrom_22 : decode cX2_placeFrom 22 = .ok (.aload_n 1, 1) := by decide +kernel
theorem dX2_placeFrom_23 : decode cX2_placeFrom 23 = .ok (.getfield 21, 3) := by decide +kernel
theorem dX2_placeFrom_26 : decode cX2_placeFrom 26 = .ok (.isub, 1) := by decide +kernel
theorem dX2_placeFrom_27 : decode cX2_placeFrom 27 = .ok (.if_icmp .gt 22, 3) := by decide +kernel
theorem dX2_placeFrom_30 : decode cX2_placeFrom 30 = .ok (.aload_n 0, 1) := by decide +kernel
theorem dX2_placeFrom_31 : decode cX2_placeFrom 31 = .ok (.aload_n 1, 1) := by decide +kernel
theorem dX2_placeFrom_32 : decode cX2_placeFrom 32 = .ok (.iload 4, 2) := by decide +kernel
theorem dX2_placeFrom_34 : decode cX2_placeFrom 34 = .ok (.invokevirtual 43, 3) := by decide +kernel
theorem dX2_placeFrom_37 : decode cX2_placeFrom 37 = .ok (.ifCond .eq 6, 3) := by decide +kernel
theorem dX2_placeFrom_40 : decode cX2_placeFrom 40 = .ok (.iload 4, 2) := by decide +kernel
theorem dX2_placeFrom_42 : decode cX2_placeFrom 42 = .ok (.ireturn, 1) := by decide +kernel
theorem dX2_placeFrom_43 : decode cX2_placeFrom 43 = .ok (.iinc 4 1, 3) := by decide +kernel
theorem dX2_placeFrom_46 : decode cX2_placeFrom 46 = .ok (.goto (-30), 3) := by decide +kernel
theorem dX2_placeFrom_49 : decode cX2_placeFrom 49 = .ok (.iconst (-1), 1) := by decide +kernel
theorem dX2_placeFrom_50 : decode cX2_placeFrom 50 = .ok (.ireturn, 1) := by decide +kernel
theorem dX2_placeBack_0 : decode cX2_placeBack 0 = .ok (.iload_n 2, 1) := by decide +kernel
theorem dX2_placeBack_1 : decode cX2_placeBack 1 = .ok (.aload_n 0, 1) := by decide +kernel
theorem dX2_placeBack_2 : decode cX2_placeBack 2 = .ok (.getfield 21, 3) := by decide +kernel
theorem dX2_placeBack_5 : decode cX2_placeBack 5 = .ok (.aload_n 1, 1) := by decide +kernel
theorem dX2_placeBack_6 : decode cX2_placeBack 6 = .ok (.getfield 21, 3) := by decide +kernel
theorem dX2_placeBack_9 : decode cX2_placeBack 9 = .ok (.isub, 1) := by decide +kernel
theorem dX2_placeBack_10 : decode cX2_placeBack 10 = .ok (.invokestatic 54, 3) := by decide +kernel
theorem dX2_placeBack_13 : decode cX2_placeBack 13 = .ok (.istore_n 3, 1) := by decide +kernel
theorem dX2_placeBack_14 : decode cX2_placeBack 14 = .ok (.iload_n 3, 1) := by decide +kernel
theorem dX2_placeBack_15 : decode cX2_placeBack 15 = .ok (.ifCond .lt 20, 3) := by decide +kernel
theorem dX2_placeBack_18 : decode cX2_placeBack 18 = .ok (.aload_n 0, 1) := by decide +kernel
theorem dX2_placeBack_19 : decode cX2_placeBack 19 = .ok (.aload_n 1, 1) := by decide +kernel
theorem dX2_placeBack_20 : decode cX2_placeBack 20 = .ok (.iload_n 3, 1) := by decide +kernel
theorem dX2_placeBack_21 : decode cX2_placeBack 21 = .ok (.invokevirtual 43, 3) := by decide +kernel
theorem dX2_placeBack_24 : decode cX2_placeBack 24 = .ok (.ifCond .eq 5, 3) := by decide +kernel
theorem dX2_placeBack_27 : decode cX2_placeBack 27 = .ok (.iload_n 3, 1) := by decide +kernel
theorem dX2_placeBack_28 : decode cX2_placeBack 28 = .ok (.ireturn, 1) := by decide +kernel
theorem dX2_placeBack_29 : decode cX2_placeBack 29 = .ok (.iinc 3 (-1), 3) := by decide +kernel
theorem dX2_placeBack_32 : decode cX2_placeBack 32 = .ok (.goto (-18), 3) := by decide +kernel
theorem dX2_placeBack_35 : decode cX2_placeBack 35 = .ok (.iconst (-1), 1) := by decide +kernel
theorem dX2_placeBack_36 : decode cX2_placeBack 36 = .ok (.ireturn, 1) := by decide +kernel
theorem dX2_bears_0 : decode cX2_bears 0 = .ok (.aload_n 0, 1) := by decide +kernel
theorem dX2_bears_1 : decode cX2_bears 1 = .ok (.iload_n 2, 1) := by decide +kernel
theorem dX2_bears_2 : decode cX2_bears 2 = .ok (.aload_n 1, 1) := by decide +kernel
theorem dX2_bears_3 : decode cX2_bears 3 = .ok (.iconst 0, 1) := by decide +kernel
theorem dX2_bears_4 : decode cX2_bears 4 = .ok (.aload_n 1, 1) := by decide +kernel
theorem dX2_bears_5 : decode cX2_bears 5 = .ok (.getfield 21, 3) := by decide +kernel
theorem dX2_bears_8 : decode cX2_bears 8 = .ok (.iconst 1, 1) := by decide +kernel
theorem dX2_bears_9 : decode cX2_bears 9 = .ok (.invokevirtual 57, 3) := by decide +kernel
theorem dX2_bears_12 : decode cX2_bears 12 = .ok (.ireturn, 1) := by decide +kernel
theorem dX2_agreesWholly_0 : decode cX2_agreesWholly 0 = .ok (.aload_n 0, 1) := by decide +kernel
theorem dX2_agreesWholly_1 : decode cX2_agreesWholly 1 = .ok (.getfield 21, 3) := by decide +kernel
theorem dX2_agreesWholly_4 : decode cX2_agreesWholly 4 = .ok (.aload_n 1, 1) := by decide +kernel
theorem dX2_agreesWholly_5 : decode cX2_agreesWholly 5 = .ok (.getfield 21, 3) := by decide +kernel
theorem dX2_agreesWholly_8 : decode cX2_agreesWholly 8 = .ok (.if_icmp .ne 22, 3) := by decide +kernel
theorem dX2_agreesWholly_11 : decode cX2_agreesWholly 11 = .ok (.aload_n 0, 1) := by decide +kernel
theorem dX2_agreesWholly_12 : decode cX2_agreesWholly 12 = .ok (.iconst 0, 1) := by decide +kernel
theorem dX2_agreesWholly_13 : decode cX2_agreesWholly 13 = .ok (.aload_n 1, 1) := by decide +kernel
theorem dX2_agreesWholly_14 : decode cX2_agreesWholly 14 = .ok (.iconst 0, 1) := by decide +kernel
theorem dX2_agreesWholly_15 : decode cX2_agreesWholly 15 = .ok (.aload_n 0, 1) := by decide +kernel
theorem dX2_agreesWholly_16 : decode cX2_agreesWholly 16 = .ok (.getfield 21, 3) := by decide +kernel
theorem dX2_agreesWholly_19 : decode cX2_agreesWholly 19 = .ok (.iload_n 2, 1) := by decide +kernel
theorem dX2_agreesWholly_20 : decode cX2_agreesWholly 20 = .ok (.invokevirtual 57, 3) := by decide +kernel
theorem dX2_agreesWholly_23 : decode cX2_agreesWholly 23 = .ok (.ifCond .eq 7, 3) := by decide +kernel
theorem dX2_agreesWholly_26 : decode cX2_agreesWholly 26 = .ok (.iconst 1, 1) := by decide +kernel
theorem dX2_agreesWholly_27 : decode cX2_agreesWholly 27 = .ok (.goto 4, 3) := by decide +kernel
theorem dX2_agreesWholly_30 : decode cX2_agreesWholly 30 = .ok (.iconst 0, 1) := by decide +kernel
theorem dX2_agreesWholly_31 : decode cX2_agreesWholly 31 = .ok (.ireturn, 1) := by decide +kernel
theorem dX2_agrees_0 : decode cX2_agrees 0 = .ok (.iload_n 1, 1) := by decide +kernel
theorem dX2_agrees_1 : decode cX2_agrees 1 = .ok (.ifCond .lt 7, 3) := by decide +kernel
theorem dX2_agrees_4 : decode cX2_agrees 4 = .ok (.iload_n 3, 1) := by decide +kernel
theorem dX2_agrees_5 : decode cX2_agrees 5 = .ok (.ifCond .ge 5, 3) := by decide +kernel
theorem dX2_agrees_8 : decode cX2_agrees 8 = .ok (.iconst 0, 1) := by decide +kernel
theorem dX2_agrees_9 : decode cX2_agrees 9 = .ok (.ireturn, 1) := by decide +kernel
theorem dX2_agrees_10 : decode cX2_agrees 10 = .ok (.iload_n 1, 1) := by decide +kernel
theorem dX2_agrees_11 : decode cX2_agrees 11 = .ok (.i2l, 1) := by decide +kernel
theorem dX2_agrees_12 : decode cX2_agrees 12 = .ok (.iload 4, 2) := by decide +kernel
theorem dX2_agrees_14 : decode cX2_agrees 14 = .ok (.i2l, 1) := by decide +kernel
theorem dX2_agrees_15 : decode cX2_agrees 15 = .ok (.ladd, 1) := by decide +kernel
theorem dX2_agrees_16 : decode cX2_agrees 16 = .ok (.aload_n 0, 1) := by decide +kernel
theorem dX2_agrees_17 : decode cX2_agrees 17 = .ok (.getfield 21, 3) := by decide +kernel
theorem dX2_agrees_20 : decode cX2_agrees 20 = .ok (.i2l, 1) := by decide +kernel
theorem dX2_agrees_21 : decode cX2_agrees 21 = .ok (.lcmp, 1) := by decide +kernel
theorem dX2_agrees_22 : decode cX2_agrees 22 = .ok (.ifCond .gt 18, 3) := by decide +kernel
theorem dX2_agrees_25 : decode cX2_agrees 25 = .ok (.iload_n 3, 1) := by decide +kernel
theorem dX2_agrees_26 : decode cX2_agrees 26 = .ok (.i2l, 1) := by decide +kernel
theorem dX2_agrees_27 : decode cX2_agrees 27 = .ok (.iload 4, 2) := by decide +kernel
theorem dX2_agrees_29 : decode cX2_agrees 29 = .ok (.i2l, 1) := by decide +kernel
theorem dX2_agrees_30 : decode cX2_agrees 30 = .ok (.ladd, 1) := by decide +kernel
theorem dX2_agrees_31 : decode cX2_agrees 31 = .ok (.aload_n 2, 1) := by decide +kernel
theorem dX2_agrees_32 : decode cX2_agrees 32 = .ok (.getfield 21, 3) := by decide +kernel
theorem dX2_agrees_35 : decode cX2_agrees 35 = .ok (.i2l, 1) := by decide +kernel
theorem dX2_agrees_36 : decode cX2_agrees 36 = .ok (.lcmp, 1) := by decide +kernel
theorem dX2_agrees_37 : decode cX2_agrees 37 = .ok (.ifCond .le 5, 3) := by decide +kernel
theorem dX2_agrees_40 : decode cX2_agrees 40 = .ok (.iconst 0, 1) := by decide +kernel
theorem dX2_agrees_41 : decode cX2_agrees 41 = .ok (.ireturn, 1) := by decide +kernel
theorem dX2_agrees_42 : decode cX2_agrees 42 = .ok (.iconst 0, 1) := by decide +kernel
theorem dX2_agrees_43 : decode cX2_agrees 43 = .ok (.istore 6, 2) := by decide +kernel
theorem dX2_agrees_45 : decode cX2_agrees 45 = .ok (.iload 6, 2) := by decide +kernel
theorem dX2_agrees_47 : decode cX2_agrees 47 = .ok (.iload 4, 2) := by decide +kernel
theorem dX2_agrees_49 : decode cX2_agrees 49 = .ok (.if_icmp .ge 44, 3) := by decide +kernel
theorem dX2_agrees_52 : decode cX2_agrees 52 = .ok (.aload_n 0, 1) := by decide +kernel
theorem dX2_agrees_53 : decode cX2_agrees 53 = .ok (.iload_n 1, 1) := by decide +kernel
theorem dX2_agrees_54 : decode cX2_agrees 54 = .ok (.iload 6, 2) := by decide +kernel
theorem dX2_agrees_56 : decode cX2_agrees 56 = .ok (.iadd, 1) := by decide +kernel
theorem dX2_agrees_57 : decode cX2_agrees 57 = .ok (.invokevirtual 25, 3) := by decide +kernel
theorem dX2_agrees_60 : decode cX2_agrees 60 = .ok (.iload 5, 2) := by decide +kernel
theorem dX2_agrees_62 : decode cX2_agrees 62 = .ok (.invokestatic 61, 3) := by decide +kernel
theorem dX2_agrees_65 : decode cX2_agrees 65 = .ok (.istore 7, 2) := by decide +kernel
theorem dX2_agrees_67 : decode cX2_agrees 67 = .ok (.iload 7, 2) := by decide +kernel
theorem dX2_agrees_69 : decode cX2_agrees 69 = .ok (.aload_n 2, 1) := by decide +kernel
theorem dX2_agrees_70 : decode cX2_agrees 70 = .ok (.iload_n 3, 1) := by decide +kernel
theorem dX2_agrees_71 : decode cX2_agrees 71 = .ok (.iload 6, 2) := by decide +kernel
theorem dX2_agrees_73 : decode cX2_agrees 73 = .ok (.iadd, 1) := by decide +kernel
theorem dX2_agrees_74 : decode cX2_agrees 74 = .ok (.invokevirtual 25, 3) := by decide +kernel
theorem dX2_agrees_77 : decode cX2_agrees 77 = .ok (.iload 5, 2) := by decide +kernel
theorem dX2_agrees_79 : decode cX2_agrees 79 = .ok (.invokestatic 61, 3) := by decide +kernel
theorem dX2_agrees_82 : decode cX2_agrees 82 = .ok (.if_icmp .eq 5, 3) := by decide +kernel
theorem dX2_agrees_85 : decode cX2_agrees 85 = .ok (.iconst 0, 1) := by decide +kernel
theorem dX2_agrees_86 : decode cX2_agrees 86 = .ok (.ireturn, 1) := by decide +kernel
theorem dX2_agrees_87 : decode cX2_agrees 87 = .ok (.iinc 6 1, 3) := by decide +kernel
theorem dX2_agrees_90 : decode cX2_agrees 90 = .ok (.goto (-45), 3) := by decide +kernel
theorem dX2_agrees_93 : decode cX2_agrees 93 = .ok (.iconst 1, 1) := by decide +kernel
theorem dX2_agrees_94 : decode cX2_agrees 94 = .ok (.ireturn, 1) := by decide +kernel
theorem dX2_order_0 : decode cX2_order 0 = .ok (.iconst 0, 1) := by decide +kernel
theorem dX2_order_1 : decode cX2_order 1 = .ok (.istore_n 3, 1) := by decide +kernel
theorem dX2_order_2 : decode cX2_order 2 = .ok (.iload_n 3, 1) := by decide +kernel
theorem dX2_order_3 : decode cX2_order 3 = .ok (.aload_n 0, 1) := by decide +kernel
theorem dX2_order_4 : decode cX2_order 4 = .ok (.getfield 21, 3) := by decide +kernel
theorem dX2_order_7 : decode cX2_order 7 = .ok (.if_icmp .ge 46, 3) := by decide +kernel
theorem dX2_order_10 : decode cX2_order 10 = .ok (.iload_n 3, 1) := by decide +kernel
theorem dX2_order_11 : decode cX2_order 11 = .ok (.aload_n 1, 1) := by decide +kernel
theorem dX2_order_12 : decode cX2_order 12 = .ok (.getfield 21, 3) := by decide +kernel
theorem dX2_order_15 : decode cX2_order 15 = .ok (.if_icmp .ge 38, 3) := by decide +kernel
theorem dX2_order_18 : decode cX2_order 18 = .ok (.aload_n 0, 1) := by decide +kernel
theorem dX2_order_19 : decode cX2_order 19 = .ok (.iload_n 3, 1) := by decide +kernel
theorem dX2_order_20 : decode cX2_order 20 = .ok (.invokevirtual 25, 3) := by decide +kernel
theorem dX2_order_23 : decode cX2_order 23 = .ok (.iload_n 2, 1) := by decide +kernel
theorem dX2_order_24 : decode cX2_order 24 = .ok (.invokestatic 61, 3) := by decide +kernel
theorem dX2_order_27 : decode cX2_order 27 = .ok (.aload_n 1, 1) := by decide +kernel
theorem dX2_order_28 : decode cX2_order 28 = .ok (.iload_n 3, 1) := by decide +kernel
theorem dX2_order_29 : decode cX2_order 29 = .ok (.invokevirtual 25, 3) := by decide +kernel
theorem dX2_order_32 : decode cX2_order 32 = .ok (.iload_n 2, 1) := by decide +kernel
theorem dX2_order_33 : decode cX2_order 33 = .ok (.invokestatic 61, 3) := by decide +kernel
theorem dX2_order_36 : decode cX2_order 36 = .ok (.isub, 1) := by decide +kernel
theorem dX2_order_37 : decode cX2_order 37 = .ok (.istore 4, 2) := by decide +kernel
theorem dX2_order_39 : decode cX2_order 39 = .ok (.iload 4, 2) := by decide +kernel
theorem dX2_order_41 : decode cX2_order 41 = .ok (.ifCond .eq 6, 3) := by decide +kernel
theorem dX2_order_44 : decode cX2_order 44 = .ok (.iload 4, 2) := by decide +kernel
theorem dX2_order_46 : decode cX2_order 46 = .ok (.ireturn, 1) := by decide +kernel
theorem dX2_order_47 : decode cX2_order 47 = .ok (.iinc 3 1, 3) := by decide +kernel
theorem dX2_order_50 : decode cX2_order 50 = .ok (.goto (-48), 3) := by decide +kernel
theorem dX2_order_53 : decode cX2_order 53 = .ok (.aload_n 0, 1) := by decide +kernel
theorem dX2_order_54 : decode cX2_order 54 = .ok (.getfield 21, 3) := by decide +kernel
theorem dX2_order_57 : decode cX2_order 57 = .ok (.aload_n 1, 1) := by decide +kernel
theorem dX2_order_58 : decode cX2_order 58 = .ok (.getfield 21, 3) := by decide +kernel
theorem dX2_order_61 : decode cX2_order 61 = .ok (.isub, 1) := by decide +kernel
theorem dX2_order_62 : decode cX2_order 62 = .ok (.ireturn, 1) := by decide +kernel
theorem dX2_finds_0 : decode cX2_finds 0 = .ok (.iconst 0, 1) := by decide +kernel
theorem dX2_finds_1 : decode cX2_finds 1 = .ok (.istore_n 2, 1) := by decide +kernel
theorem dX2_finds_2 : decode cX2_finds 2 = .ok (.iconst 0, 1) := by decide +kernel
theorem dX2_finds_3 : decode cX2_finds 3 = .ok (.istore_n 3, 1) := by decide +kernel
theorem dX2_finds_4 : decode cX2_finds 4 = .ok (.iload_n 3, 1) := by decide +kernel
theorem dX2_finds_5 : decode cX2_finds 5 = .ok (.aload_n 0, 1) := by decide +kernel
theorem dX2_finds_6 : decode cX2_finds 6 = .ok (.getfield 21, 3) := by decide +kernel
theorem dX2_finds_9 : decode cX2_finds 9 = .ok (.if_icmp .ge 35, 3) := by decide +kernel
theorem dX2_finds_12 : decode cX2_finds 12 = .ok (.aload_n 0, 1) := by decide +kernel
theorem dX2_finds_13 : decode cX2_finds 13 = .ok (.aload_n 1, 1) := by decide +kernel
theorem dX2_finds_14 : decode cX2_finds 14 = .ok (.iload_n 3, 1) := by decide +kernel
theorem dX2_finds_15 : decode cX2_finds 15 = .ok (.invokevirtual 43, 3) := by decide +kernel
theorem dX2_finds_18 : decode cX2_finds 18 = .ok (.ifCond .eq 20, 3) := by decide +kernel
theorem dX2_finds_21 : decode cX2_finds 21 = .ok (.iinc 2 1, 3) := by decide +kernel
theorem dX2_finds_24 : decode cX2_finds 24 = .ok (.iload_n 3, 1) := by decide +kernel
theorem dX2_finds_25 : decode cX2_finds 25 = .ok (.iconst 1, 1) := by decide +kernel
theorem dX2_finds_26 : decode cX2_finds 26 = .ok (.aload_n 1, 1) := by decide +kernel
theorem dX2_finds_27 : decode cX2_finds 27 = .ok (.getfield 21, 3) := by decide +kernel
theorem dX2_finds_30 : decode cX2_finds 30 = .ok (.invokestatic 9, 3) := by decide +kernel
theorem dX2_finds_33 : decode cX2_finds 33 = .ok (.iadd, 1) := by decide +kernel
theorem dX2_finds_34 : decode cX2_finds 34 = .ok (.istore_n 3, 1) := by decide +kernel
theorem dX2_finds_35 : decode cX2_finds 35 = .ok (.goto (-31), 3) := by decide +kernel
theorem dX2_finds_38 : decode cX2_finds 38 = .ok (.iinc 3 1, 3) := by decide +kernel
theorem dX2_finds_41 : decode cX2_finds 41 = .ok (.goto (-37), 3) := by decide +kernel
theorem dX2_finds_44 : decode cX2_finds 44 = .ok (.iload_n 2, 1) := by decide +kernel
theorem dX2_finds_45 : decode cX2_finds 45 = .ok (.ireturn, 1) := by decide +kernel
theorem dX2_sharedFront_0 : decode cX2_sharedFront 0 = .ok (.aload_n 0, 1) := by decide +kernel
theorem dX2_sharedFront_1 : decode cX2_sharedFront 1 = .ok (.getfield 21, 3) := by decide +kernel
theorem dX2_sharedFront_4 : decode cX2_sharedFront 4 = .ok (.aload_n 1, 1) := by decide +kernel
theorem dX2_sharedFront_5 : decode cX2_sharedFront 5 = .ok (.getfield 21, 3) := by decide +kernel
theorem dX2_sharedFront_8 : decode cX2_sharedFront 8 = .ok (.invokestatic 54, 3) := by decide +kernel
theorem dX2_sharedFront_11 : decode cX2_sharedFront 11 = .ok (.istore_n 2, 1) := by decide +kernel
theorem dX2_sharedFront_12 : decode cX2_sharedFront 12 = .ok (.iconst 0, 1) := by decide +kernel
theorem dX2_sharedFront_13 : decode cX2_sharedFront 13 = .ok (.istore_n 3, 1) := by decide +kernel
theorem dX2_sharedFront_14 : decode cX2_sharedFront 14 = .ok (.iload_n 3, 1) := by decide +kernel
theorem dX2_sharedFront_15 : decode cX2_sharedFront 15 = .ok (.iload_n 2, 1) := by decide +kernel
theorem dX2_sharedFront_16 : decode cX2_sharedFront 16 = .ok (.if_icmp .ge 22, 3) := by decide +kernel
theorem dX2_sharedFront_19 : decode cX2_sharedFront 19 = .ok (.aload_n 0, 1) := by decide +kernel
theorem dX2_sharedFront_20 : decode cX2_sharedFront 20 = .ok (.iload_n 3, 1) := by decide +kernel
theorem dX2_sharedFront_21 : decode cX2_sharedFront 21 = .ok (.invokevirtual 25, 3) := by decide +kernel
theorem dX2_sharedFront_24 : decode cX2_sharedFront 24 = .ok (.aload_n 1, 1) := by decide +kernel
theorem dX2_sharedFront_25 : decode cX2_sharedFront 25 = .ok (.iload_n 3, 1) := by decide +kernel
theorem dX2_sharedFront_26 : decode cX2_sharedFront 26 = .ok (.invokevirtual 25, 3) := by decide +kernel
theorem dX2_sharedFront_29 : decode cX2_sharedFront 29 = .ok (.if_icmp .ne 9, 3) := by decide +kernel
theorem dX2_sharedFront_32 : decode cX2_sharedFront 32 = .ok (.iinc 3 1, 3) := by decide +kernel
theorem dX2_sharedFront_35 : decode cX2_sharedFront 35 = .ok (.goto (-21), 3) := by decide +kernel
theorem dX2_sharedFront_38 : decode cX2_sharedFront 38 = .ok (.iload_n 3, 1) := by decide +kernel
theorem dX2_sharedFront_39 : decode cX2_sharedFront 39 = .ok (.ireturn, 1) := by decide +kernel
theorem dX2_sharedRear_0 : decode cX2_sharedRear 0 = .ok (.aload_n 0, 1) := by decide +kernel
theorem dX2_sharedRear_1 : decode cX2_sharedRear 1 = .ok (.getfield 21, 3) := by decide +kernel
theorem dX2_sharedRear_4 : decode cX2_sharedRear 4 = .ok (.aload_n 1, 1) := by decide +kernel
theorem dX2_sharedRear_5 : decode cX2_sharedRear 5 = .ok (.getfield 21, 3) := by decide +kernel
theorem dX2_sharedRear_8 : decode cX2_sharedRear 8 = .ok (.invokestatic 54, 3) := by decide +kernel
theorem dX2_sharedRear_11 : decode cX2_sharedRear 11 = .ok (.istore_n 2, 1) := by decide +kernel
theorem dX2_sharedRear_12 : decode cX2_sharedRear 12 = .ok (.iconst 0, 1) := by decide +kernel
theorem dX2_sharedRear_13 : decode cX2_sharedRear 13 = .ok (.istore_n 3, 1) := by decide +kernel
theorem dX2_sharedRear_14 : decode cX2_sharedRear 14 = .ok (.iload_n 3, 1) := by decide +kernel
theorem dX2_sharedRear_15 : decode cX2_sharedRear 15 = .ok (.iload_n 2, 1) := by decide +kernel
theorem dX2_sharedRear_16 : decode cX2_sharedRear 16 = .ok (.if_icmp .ge 36, 3) := by decide +kernel
theorem dX2_sharedRear_19 : decode cX2_sharedRear 19 = .ok (.aload_n 0, 1) := by decide +kernel
theorem dX2_sharedRear_20 : decode cX2_sharedRear 20 = .ok (.aload_n 0, 1) := by decide +kernel
theorem dX2_sharedRear_21 : decode cX2_sharedRear 21 = .ok (.getfield 21, 3) := by decide +kernel
theorem dX2_sharedRear_24 : decode cX2_sharedRear 24 = .ok (.iconst 1, 1) := by decide +kernel
theorem dX2_sharedRear_25 : decode cX2_sharedRear 25 = .ok (.isub, 1) := by decide +kernel
theorem dX2_sharedRear_26 : decode cX2_sharedRear 26 = .ok (.iload_n 3, 1) := by decide +kernel
theorem dX2_sharedRear_27 : decode cX2_sharedRear 27 = .ok (.isub, 1) := by decide +kernel
theorem dX2_sharedRear_28 : decode cX2_sharedRear 28 = .ok (.invokevirtual 25, 3) := by decide +kernel
theorem dX2_sharedRear_31 : decode cX2_sharedRear 31 = .ok (.aload_n 1, 1) := by decide +kernel
theorem dX2_sharedRear_32 : decode cX2_sharedRear 32 = .ok (.aload_n 1, 1) := by decide +kernel
theorem dX2_sharedRear_33 : decode cX2_sharedRear 33 = .ok (.getfield 21, 3) := by decide +kernel
theorem dX2_sharedRear_36 : decode cX2_sharedRear 36 = .ok (.iconst 1, 1) := by decide +kernel
theorem dX2_sharedRear_37 : decode cX2_sharedRear 37 = .ok (.isub, 1) := by decide +kernel
theorem dX2_sharedRear_38 : decode cX2_sharedRear 38 = .ok (.iload_n 3, 1) := by decide +kernel
theorem dX2_sharedRear_39 : decode cX2_sharedRear 39 = .ok (.isub, 1) := by decide +kernel
theorem dX2_sharedRear_40 : decode cX2_sharedRear 40 = .ok (.invokevirtual 25, 3) := by decide +kernel
theorem dX2_sharedRear_43 : decode cX2_sharedRear 43 = .ok (.if_icmp .ne 9, 3) := by decide +kernel
theorem dX2_sharedRear_46 : decode cX2_sharedRear 46 = .ok (.iinc 3 1, 3) := by decide +kernel
theorem dX2_sharedRear_49 : decode cX2_sharedRear 49 = .ok (.goto (-35), 3) := by decide +kernel
theorem dX2_sharedRear_52 : decode cX2_sharedRear 52 = .ok (.iload_n 3, 1) := by decide +kernel
theorem dX2_sharedRear_53 : decode cX2_sharedRear 53 = .ok (.ireturn, 1) := by decide +kernel
theorem dX2_endOfFront_0 : decode cX2_endOfFront 0 = .ok (.iconst 0, 1) := by decide +kernel
theorem dX2_endOfFront_1 : decode cX2_endOfFront 1 = .ok (.istore_n 2, 1) := by decide +kernel
theorem dX2_endOfFront_2 : decode cX2_endOfFront 2 = .ok (.iload_n 2, 1) := by decide +kernel
theorem dX2_endOfFront_3 : decode cX2_endOfFront 3 = .ok (.aload_n 0, 1) := by decide +kernel
theorem dX2_endOfFront_4 : decode cX2_endOfFront 4 = .ok (.getfield 21, 3) := by decide +kernel
theorem dX2_endOfFront_7 : decode cX2_endOfFront 7 = .ok (.if_icmp .ge 21, 3) := by decide +kernel
theorem dX2_endOfFront_10 : decode cX2_endOfFront 10 = .ok (.aload_n 0, 1) := by decide +kernel
theorem dX2_endOfFront_11 : decode cX2_endOfFront 11 = .ok (.iload_n 2, 1) := by decide +kernel
theorem dX2_endOfFront_12 : decode cX2_endOfFront 12 = .ok (.invokevirtual 25, 3) := by decide +kernel
theorem dX2_endOfFront_15 : decode cX2_endOfFront 15 = .ok (.iload_n 1, 1) := by decide +kernel
theorem dX2_endOfFront_16 : decode cX2_endOfFront 16 = .ok (.invokestatic 65, 3) := by decide +kernel
theorem dX2_endOfFront_19 : decode cX2_endOfFront 19 = .ok (.ifCond .eq 9, 3) := by decide +kernel
theorem dX2_endOfFront_22 : decode cX2_endOfFront 22 = .ok (.iinc 2 1, 3) := by decide +kernel
theorem dX2_endOfFront_25 : decode cX2_endOfFront 25 = .ok (.goto (-23), 3) := by decide +kernel
theorem dX2_endOfFront_28 : decode cX2_endOfFront 28 = .ok (.iload_n 2, 1) := by decide +kernel
theorem dX2_endOfFront_29 : decode cX2_endOfFront 29 = .ok (.ireturn, 1) := by decide +kernel
theorem dX2_startOfRear_0 : decode cX2_startOfRear 0 = .ok (.aload_n 0, 1) := by decide +kernel
theorem dX2_startOfRear_1 : decode cX2_startOfRear 1 = .ok (.getfield 21, 3) := by decide +kernel
theorem dX2_startOfRear_4 : decode cX2_startOfRear 4 = .ok (.istore_n 3, 1) := by decide +kernel
theorem dX2_startOfRear_5 : decode cX2_startOfRear 5 = .ok (.iload_n 3, 1) := by decide +kernel
theorem dX2_startOfRear_6 : decode cX2_startOfRear 6 = .ok (.iload_n 1, 1) := by decide +kernel
theorem dX2_startOfRear_7 : decode cX2_startOfRear 7 = .ok (.if_icmp .le 23, 3) := by decide +kernel
theorem dX2_startOfRear_10 : decode cX2_startOfRear 10 = .ok (.aload_n 0, 1) := by decide +kernel
theorem dX2_startOfRear_11 : decode cX2_startOfRear 11 = .ok (.iload_n 3, 1) := by decide +kernel
theorem dX2_startOfRear_12 : decode cX2_startOfRear 12 = .ok (.iconst 1, 1) := by decide +kernel
theorem dX2_startOfRear_13 : decode cX2_startOfRear 13 = .ok (.isub, 1) := by decide +kernel
theorem dX2_startOfRear_14 : decode cX2_startOfRear 14 = .ok (.invokevirtual 25, 3) := by decide +kernel
theorem dX2_startOfRear_17 : decode cX2_startOfRear 17 = .ok (.iload_n 2, 1) := by decide +kernel
theorem dX2_startOfRear_18 : decode cX2_startOfRear 18 = .ok (.invokestatic 65, 3) := by decide +kernel
theorem dX2_startOfRear_21 : decode cX2_startOfRear 21 = .ok (.ifCond .eq 9, 3) := by decide +kernel
theorem dX2_startOfRear_24 : decode cX2_startOfRear 24 = .ok (.iinc 3 (-1), 3) := by decide +kernel
theorem dX2_startOfRear_27 : decode cX2_startOfRear 27 = .ok (.goto (-22), 3) := by decide +kernel
theorem dX2_startOfRear_30 : decode cX2_startOfRear 30 = .ok (.iload_n 3, 1) := by decide +kernel
theorem dX2_startOfRear_31 : decode cX2_startOfRear 31 = .ok (.ireturn, 1) := by decide +kernel
theorem dX2_foldSpan_0 : decode cX2_foldSpan 0 = .ok (.ldc2_w 69, 3) := by decide +kernel
theorem dX2_foldSpan_3 : decode cX2_foldSpan 3 = .ok (.lload_n 1, 1) := by decide +kernel
theorem dX2_foldSpan_4 : decode cX2_foldSpan 4 = .ok (.lmul, 1) := by decide +kernel
theorem dX2_foldSpan_5 : decode cX2_foldSpan 5 = .ok (.iload 4, 2) := by decide +kernel
theorem dX2_foldSpan_7 : decode cX2_foldSpan 7 = .ok (.iload_n 3, 1) := by decide +kernel
theorem dX2_foldSpan_8 : decode cX2_foldSpan 8 = .ok (.isub, 1) := by decide +kernel
theorem dX2_foldSpan_9 : decode cX2_foldSpan 9 = .ok (.i2l, 1) := by decide +kernel
theorem dX2_foldSpan_10 : decode cX2_foldSpan 10 = .ok (.ladd, 1) := by decide +kernel
theorem dX2_foldSpan_11 : decode cX2_foldSpan 11 = .ok (.lstore 5, 2) := by decide +kernel
theorem dX2_foldSpan_13 : decode cX2_foldSpan 13 = .ok (.iload_n 3, 1) := by decide +kernel
theorem dX2_foldSpan_14 : decode cX2_foldSpan 14 = .ok (.istore 7, 2) := by decide +kernel
theorem dX2_foldSpan_16 : decode cX2_foldSpan 16 = .ok (.iload 7, 2) := by decide +kernel
theorem dX2_foldSpan_18 : decode cX2_foldSpan 18 = .ok (.iload 4, 2) := by decide +kernel
theorem dX2_foldSpan_20 : decode cX2_foldSpan 20 = .ok (.if_icmp .ge 25, 3) := by decide +kernel
theorem dX2_foldSpan_23 : decode cX2_foldSpan 23 = .ok (.ldc2_w 69, 3) := by decide +kernel
theorem dX2_foldSpan_26 : decode cX2_foldSpan 26 = .ok (.lload 5, 2) := by decide +kernel
theorem dX2_foldSpan_28 : decode cX2_foldSpan 28 = .ok (.lmul, 1) := by decide +kernel
theorem dX2_foldSpan_29 : decode cX2_foldSpan 29 = .ok (.aload_n 0, 1) := by decide +kernel
theorem dX2_foldSpan_30 : decode cX2_foldSpan 30 = .ok (.iload 7, 2) := by decide +kernel
theorem dX2_foldSpan_32 : decode cX2_foldSpan 32 = .ok (.invokevirtual 25, 3) := by decide +kernel
theorem dX2_foldSpan_35 : decode cX2_foldSpan 35 = .ok (.i2l, 1) := by decide +kernel
theorem dX2_foldSpan_36 : decode cX2_foldSpan 36 = .ok (.ladd, 1) := by decide +kernel
theorem dX2_foldSpan_37 : decode cX2_foldSpan 37 = .ok (.lstore 5, 2) := by decide +kernel
theorem dX2_foldSpan_39 : decode cX2_foldSpan 39 = .ok (.iinc 7 1, 3) := by decide +kernel
theorem dX2_foldSpan_42 : decode cX2_foldSpan 42 = .ok (.goto (-26), 3) := by decide +kernel
theorem dX2_foldSpan_45 : decode cX2_foldSpan 45 = .ok (.lload 5, 2) := by decide +kernel
theorem dX2_foldSpan_47 : decode cX2_foldSpan 47 = .ok (.lreturn, 1) := by decide +kernel
theorem dX3_init_0 : decode cX3_init 0 = .ok (.aload_n 0, 1) := by decide +kernel
theorem dX3_init_1 : decode cX3_init 1 = .ok (.invokespecial 1, 3) := by decide +kernel
theorem dX3_init_4 : decode cX3_init 4 = .ok (.aload_n 0, 1) := by decide +kernel
theorem dX3_init_5 : decode cX3_init 5 = .ok (.new 7, 3) := by decide +kernel
theorem dX3_init_8 : decode cX3_init 8 = .ok (.dup, 1) := by decide +kernel
theorem dX3_init_9 : decode cX3_init 9 = .ok (.invokespecial 9, 3) := by decide +kernel
theorem dX3_init_12 : decode cX3_init 12 = .ok (.putfield 10, 3) := by decide +kernel
theorem dX3_init_15 : decode cX3_init 15 = .ok (.aload_n 0, 1) := by decide +kernel
theorem dX3_init_16 : decode cX3_init 16 = .ok (.iconst 2, 1) := by decide +kernel
theorem dX3_init_17 : decode cX3_init 17 = .ok (.anewarray 7, 3) := by decide +kernel
theorem dX3_init_20 : decode cX3_init 20 = .ok (.putfield 16, 3) := by decide +kernel
theorem dX3_init_23 : decode cX3_init 23 = .ok (.iconst 0, 1) := by decide +kernel
theorem dX3_init_24 : decode cX3_init 24 = .ok (.istore_n 1, 1) := by decide +kernel
theorem dX3_init_25 : decode cX3_init 25 = .ok (.iload_n 1, 1) := by decide +kernel
theorem dX3_init_26 : decode cX3_init 26 = .ok (.iconst 2, 1) := by decide +kernel
theorem dX3_init_27 : decode cX3_init 27 = .ok (.if_icmp .ge 22, 3) := by decide +kernel
theorem dX3_init_30 : decode cX3_init 30 = .ok (.aload_n 0, 1) := by decide +kernel
theorem dX3_init_31 : decode cX3_init 31 = .ok (.getfield 16, 3) := by decide +kernel
theorem dX3_init_34 : decode cX3_init 34 = .ok (.iload_n 1, 1) := by decide +kernel
theorem dX3_init_35 : decode cX3_init 35 = .ok (.new 7, 3) := by decide +kernel
theorem dX3_init_38 : decode cX3_init 38 = .ok (.dup, 1) := by decide +kernel
theorem dX3_init_39 : decode cX3_init 39 = .ok (.invokespecial 9, 3) := by decide +kernel
theorem dX3_init_42 : decode cX3_init 42 = .ok (.aastore, 1) := by decide +kernel
theorem dX3_init_43 : decode cX3_init 43 = .ok (.iinc 1 1, 3) := by decide +kernel
theorem dX3_init_46 : decode cX3_init 46 = .ok (.goto (-21), 3) := by decide +kernel
theorem dX3_init_49 : decode cX3_init 49 = .ok (.aload_n 0, 1) := by decide +kernel
theorem dX3_init_50 : decode cX3_init 50 = .ok (.new 20, 3) := by decide +kernel
theorem dX3_init_53 : decode cX3_init 53 = .ok (.dup, 1) := by decide +kernel
theorem dX3_init_54 : decode cX3_init 54 = .ok (.sipush 600, 3) := by decide +kernel
theorem dX3_init_57 : decode cX3_init 57 = .ok (.invokespecial 22, 3) := by decide +kernel
theorem dX3_init_60 : decode cX3_init 60 = .ok (.putfield 25, 3) := by decide +kernel
theorem dX3_init_63 : decode cX3_init 63 = .ok (.aload_n 0, 1) := by decide +kernel
theorem dX3_init_64 : decode cX3_init 64 = .ok (.new 20, 3) := by decide +kernel
theorem dX3_init_67 : decode cX3_init 67 = .ok (.dup, 1) := by decide +kernel
theorem dX3_init_68 : decode cX3_init 68 = .ok (.sipush 600, 3) := by decide +kernel
theorem dX3_init_71 : decode cX3_init 71 = .ok (.invokespecial 22, 3) := by decide +kernel
theorem dX3_init_74 : decode cX3_init 74 = .ok (.putfield 29, 3) := by decide +kernel
theorem dX3_init_77 : decode cX3_init 77 = .ok (.aload_n 0, 1) := by decide +kernel
theorem dX3_init_78 : decode cX3_init 78 = .ok (.new 32, 3) := by decide +kernel
theorem dX3_init_81 : decode cX3_init 81 = .ok (.dup, 1) := by decide +kernel
theorem dX3_init_82 : decode cX3_init 82 = .ok (.invokespecial 34, 3) := by decide +kernel
theorem dX3_init_85 : decode cX3_init 85 = .ok (.putfield 35, 3) := by decide +kernel
theorem dX3_init_88 : decode cX3_init 88 = .ok (.return_, 1) := by decide +kernel
theorem dX3_wipe_0 : decode cX3_wipe 0 = .ok (.aload_n 0, 1) := by decide +kernel
theorem dX3_wipe_1 : decode cX3_wipe 1 = .ok (.getfield 10, 3) := by decide +kernel
theorem dX3_wipe_4 : decode cX3_wipe 4 = .ok (.iload_n 1, 1) := by decide +kernel
theorem dX3_wipe_5 : decode cX3_wipe 5 = .ok (.invokevirtual 39, 3) := by decide +kernel
theorem dX3_wipe_8 : decode cX3_wipe 8 = .ok (.astore_n 2, 1) := by decide +kernel
theorem dX3_wipe_9 : decode cX3_wipe 9 = .ok (.aload_n 2, 1) := by decide +kernel
theorem dX3_wipe_10 : decode cX3_wipe 10 = .ok (.invokevirtual 43, 3) := by decide +kernel
theorem dX3_wipe_13 : decode cX3_wipe 13 = .ok (.istore_n 3, 1) := by decide +kernel
theorem dX3_wipe_14 : decode cX3_wipe 14 = .ok (.aload_n 2, 1) := by decide +kernel
theorem dX3_wipe_15 : decode cX3_wipe 15 = .ok (.invokevirtual 47, 3) := by decide +kernel
theorem dX3_wipe_18 : decode cX3_wipe 18 = .ok (.iload_n 3, 1) := by decide +kernel
theorem dX3_wipe_19 : decode cX3_wipe 19 = .ok (.ireturn, 1) := by decide +kernel
theorem dX3_type_0 : decode cX3_type 0 = .ok (.aload_n 0, 1) := by decide +kernel
theorem dX3_type_1 : decode cX3_type 1 = .ok (.getfield 10, 3) := by decide +kernel
theorem dX3_type_4 : decode cX3_type 4 = .ok (.iload_n 1, 1) := by decide +kernel
theorem dX3_type_5 : decode cX3_type 5 = .ok (.invokevirtual 39, 3) := by decide +kernel
theorem dX3_type_8 : decode cX3_type 8 = .ok (.astore_n 3, 1) := by decide +kernel
theorem dX3_type_9 : decode cX3_type 9 = .ok (.iload_n 2, 1) := by decide +kernel
theorem dX3_type_10 : decode cX3_type 10 = .ok (.invokestatic 50, 3) := by decide +kernel
theorem dX3_type_13 : decode cX3_type 13 = .ok (.ifCond .ne 6, 3) := by decide +kernel
theorem dX3_type_16 : decode cX3_type 16 = .ok (.ldc 54, 2) := by decide +kernel
theorem dX3_type_18 : decode cX3_type 18 = .ok (.ireturn, 1) := by decide +kernel
theorem dX3_type_19 : decode cX3_type 19 = .ok (.aload_n 3, 1) := by decide +kernel
theorem dX3_type_20 : decode cX3_type 20 = .ok (.invokevirtual 43, 3) := by decide +kernel
theorem dX3_type_23 : decode cX3_type 23 = .ok (.sipush 300, 3) := by decide +kernel
theorem dX3_type_26 : decode cX3_type 26 = .ok (.if_icmp .lt 6, 3) := by decide +kernel
theorem dX3_type_29 : decode cX3_type 29 = .ok (.ldc 55, 2) := by decide +kernel
theorem dX3_type_31 : decode cX3_type 31 = .ok (.ireturn, 1) := by decide +kernel
theorem dX3_type_32 : decode cX3_type 32 = .ok (.aload_n 3, 1) := by decide +kernel
theorem dX3_type_33 : decode cX3_type 33 = .ok (.iload_n 2, 1) := by decide +kernel
theorem dX3_type_34 : decode cX3_type 34 = .ok (.invokevirtual 56, 3) := by decide +kernel
theorem dX3_type_37 : decode cX3_type 37 = .ok (.aload_n 3, 1) := by decide +kernel
theorem dX3_type_38 : decode cX3_type 38 = .ok (.invokevirtual 43, 3) := by decide +kernel
theorem dX3_type_41 : decode cX3_type 41 = .ok (.ireturn, 1) := by decide +kernel
theorem dX3_feed_0 : decode cX3_feed 0 = .ok (.aload_n 0, 1) := by decide +kernel
theorem dX3_feed_1 : decode cX3_feed 1 = .ok (.getfield 10, 3) := by decide +kernel
theorem dX3_feed_4 : decode cX3_feed 4 = .ok (.iload_n 1, 1) := by decide +kernel
theorem dX3_feed_5 : decode cX3_feed 5 = .ok (.invokevirtual 39, 3) := by decide +kernel
theorem dX3_feed_8 : decode cX3_feed 8 = .ok (.astore 5, 2) := by decide +kernel
theorem dX3_feed_10 : decode cX3_feed 10 = .ok (.iload 4, 2) := by decide +kernel
theorem dX3_feed_12 : decode cX3_feed 12 = .ok (.iconst 1, 1) := by decide +kernel
theorem dX3_feed_13 : decode cX3_feed 13 = .ok (.if_icmp .lt 19, 3) := by decide +kernel
theorem dX3_feed_16 : decode cX3_feed 16 = .ok (.iload 4, 2) := by decide +kernel
theorem dX3_feed_18 : decode cX3_feed 18 = .ok (.bipush 8, 2) := by decide +kernel
theorem dX3_feed_20 : decode cX3_feed 20 = .ok (.if_icmp .gt 12, 3) := by decide +kernel
theorem dX3_feed_23 : decode cX3_feed 23 = .ok (.lload_n 2, 1) := by decide +kernel
theorem dX3_feed_24 : decode cX3_feed 24 = .ok (.iload 4, 2) := by decide +kernel
theorem dX3_feed_26 : decode cX3_feed 26 = .ok (.invokestatic 59, 3) := by decide +kernel
theorem dX3_feed_29 : decode cX3_feed 29 = .ok (.ifCond .ne 6, 3) := by decide +kernel
theorem dX3_feed_32 : decode cX3_feed 32 = .ok (.ldc 54, 2) := by decide +kernel
theorem dX3_feed_34 : decode cX3_feed 34 = .ok (.ireturn, 1) := by decide +kernel
theorem dX3_feed_35 : decode cX3_feed 35 = .ok (.aload 5, 2) := by decide +kernel
theorem dX3_feed_37 : decode cX3_feed 37 = .ok (.invokevirtual 43, 3) := by decide +kernel
theorem dX3_feed_40 : decode cX3_feed 40 = .ok (.iload 4, 2) := by decide +kernel
theorem dX3_feed_42 : decode cX3_feed 42 = .ok (.iadd, 1) := by decide +kernel
theorem dX3_feed_43 : decode cX3_feed 43 = .ok (.sipush 300, 3) := by decide +kernel
theorem dX3_feed_46 : decode cX3_feed 46 = .ok (.if_icmp .le 6, 3) := by decide +kernel
theorem dX3_feed_49 : decode cX3_feed 49 = .ok (.ldc 55, 2) := by decide +kernel
theorem dX3_feed_51 : decode cX3_feed 51 = .ok (.ireturn, 1) := by decide +kernel
theorem dX3_feed_52 : decode cX3_feed 52 = .ok (.iconst 0, 1) := by decide +kernel
theorem dX3_feed_53 : decode cX3_feed 53 = .ok (.istore 6, 2) := by decide +kernel
theorem dX3_feed_55 : decode cX3_feed 55 = .ok (.iload 6, 2) := by decide +kernel
theorem dX3_feed_57 : decode cX3_feed 57 = .ok (.iload 4, 2) := by decide +kernel
theorem dX3_feed_59 : decode cX3_feed 59 = .ok (.if_icmp .ge 20, 3) := by decide +kernel
theorem dX3_feed_62 : decode cX3_feed 62 = .ok (.aload 5, 2) := by decide +kernel
theorem dX3_feed_64 : decode cX3_feed 64 = .ok (.lload_n 2, 1) := by decide +kernel
theorem dX3_feed_65 : decode cX3_feed 65 = .ok (.iload 6, 2) := by decide +kernel
theorem dX3_feed_67 : decode cX3_feed 67 = .ok (.invokestatic 63, 3) := by decide +kernel
theorem dX3_feed_70 : decode cX3_feed 70 = .ok (.invokevirtual 56, 3) := by decide +kernel
theorem dX3_feed_73 : decode cX3_feed 73 = .ok (.iinc 6 1, 3) := by decide +kernel
theorem dX3_feed_76 : decode cX3_feed 76 = .ok (.goto (-21), 3) := by decide +kernel
theorem dX3_feed_79 : decode cX3_feed 79 = .ok (.aload 5, 2) := by decide +kernel
theorem dX3_feed_81 : decode cX3_feed 81 = .ok (.invokevirtual 43, 3) := by decide +kernel
theorem dX3_feed_84 : decode cX3_feed 84 = .ok (.ireturn, 1) := by decide +kernel
theorem dX3_copy_0 : decode cX3_copy 0 = .ok (.aload_n 0, 1) := by decide +kernel
theorem dX3_copy_1 : decode cX3_copy 1 = .ok (.getfield 25, 3) := by decide +kernel
theorem dX3_copy_4 : decode cX3_copy 4 = .ok (.aload_n 0, 1) := by decide +kernel
theorem dX3_copy_5 : decode cX3_copy 5 = .ok (.getfield 10, 3) := by decide +kernel
theorem dX3_copy_8 : decode cX3_copy 8 = .ok (.iload_n 1, 1) := by decide +kernel
theorem dX3_copy_9 : decode cX3_copy 9 = .ok (.invokevirtual 39, 3) := by decide +kernel
theorem dX3_copy_12 : decode cX3_copy 12 = .ok (.invokevirtual 67, 3) := by decide +kernel
theorem dX3_copy_15 : decode cX3_copy 15 = .ok (.aload_n 0, 1) := by decide +kernel
theorem dX3_copy_16 : decode cX3_copy 16 = .ok (.iload_n 2, 1) := by decide +kernel
theorem dX3_copy_17 : decode cX3_copy 17 = .ok (.invokevirtual 71, 3) := by decide +kernel
theorem dX3_copy_20 : decode cX3_copy 20 = .ok (.ireturn, 1) := by decide +kernel
theorem dX3_swap_0 : decode cX3_swap 0 = .ok (.aload_n 0, 1) := by decide +kernel
theorem dX3_swap_1 : decode cX3_swap 1 = .ok (.getfield 10, 3) := by decide +kernel
theorem dX3_swap_4 : decode cX3_swap 4 = .ok (.iload_n 1, 1) := by decide +kernel
theorem dX3_swap_5 : decode cX3_swap 5 = .ok (.iload_n 2, 1) := by decide +kernel
theorem dX3_swap_6 : decode cX3_swap 6 = .ok (.invokevirtual 75, 3) := by decide +kernel
theorem dX3_swap_9 : decode cX3_swap 9 = .ok (.aload_n 0, 1) := by decide +kernel
theorem dX3_swap_10 : decode cX3_swap 10 = .ok (.getfield 10, 3) := by decide +kernel
theorem dX3_swap_13 : decode cX3_swap 13 = .ok (.iload_n 1, 1) := by decide +kernel
theorem dX3_swap_14 : decode cX3_swap 14 = .ok (.invokevirtual 39, 3) := by decide +kernel
theorem dX3_swap_17 : decode cX3_swap 17 = .ok (.invokevirtual 43, 3) := by decide +kernel
theorem dX3_swap_20 : decode cX3_swap 20 = .ok (.ireturn, 1) := by decide +kernel
theorem dX3_concat_0 : decode cX3_concat 0 = .ok (.aload_n 0, 1) := by decide +kernel
theorem dX3_concat_1 : decode cX3_concat 1 = .ok (.getfield 10, 3) := by decide +kernel
theorem dX3_concat_4 : decode cX3_concat 4 = .ok (.iload_n 1, 1) := by decide +kernel
theorem dX3_concat_5 : decode cX3_concat 5 = .ok (.invokevirtual 39, 3) := by decide +kernel
theorem dX3_concat_8 : decode cX3_concat 8 = .ok (.astore 4, 2) := by decide +kernel
theorem dX3_concat_10 : decode cX3_concat 10 = .ok (.aload_n 0, 1) := by decide +kernel
theorem dX3_concat_11 : decode cX3_concat 11 = .ok (.getfield 10, 3) := by decide +kernel
theorem dX3_concat_14 : decode cX3_concat 14 = .ok (.iload_n 2, 1) := by decide +kernel
theorem dX3_concat_15 : decode cX3_concat 15 = .ok (.invokevirtual 39, 3) := by decide +kernel
theorem dX3_concat_18 : decode cX3_concat 18 = .ok (.astore 5, 2) := by decide +kernel
theorem dX3_concat_20 : decode cX3_concat 20 = .ok (.aload 4, 2) := by decide +kernel
theorem dX3_concat_22 : decode cX3_concat 22 = .ok (.invokevirtual 43, 3) := by decide +kernel
theorem dX3_concat_25 : decode cX3_concat 25 = .ok (.aload 5, 2) := by decide +kernel
theorem dX3_concat_27 : decode cX3_concat 27 = .ok (.invokevirtual 43, 3) := by decide +kernel
theorem dX3_concat_30 : decode cX3_concat 30 = .ok (.iadd, 1) := by decide +kernel
theorem dX3_concat_31 : decode cX3_concat 31 = .ok (.sipush 300, 3) := by decide +kernel
theorem dX3_concat_34 : decode cX3_concat 34 = .ok (.if_icmp .le 6, 3) := by decide +kernel
theorem dX3_concat_37 : decode cX3_concat 37 = .ok (.ldc 55, 2) := by decide +kernel
theorem dX3_concat_39 : decode cX3_concat 39 = .ok (.ireturn, 1) := by decide +kernel
theorem dX3_concat_40 : decode cX3_concat 40 = .ok (.aload_n 0, 1) := by decide +kernel
theorem dX3_concat_41 : decode cX3_concat 41 = .ok (.getfield 25, 3) := by decide +kernel
theorem dX3_concat_44 : decode cX3_concat 44 = .ok (.aload 4, 2) := by decide +kernel
theorem dX3_concat_46 : decode cX3_concat 46 = .ok (.invokevirtual 67, 3) := by decide +kernel
theorem dX3_concat_49 : decode cX3_concat 49 = .ok (.aload_n 0, 1) := by decide +kernel
theorem dX3_concat_50 : decode cX3_concat 50 = .ok (.getfield 25, 3) := by decide +kernel
theorem dX3_concat_53 : decode cX3_concat 53 = .ok (.aload 5, 2) := by decide +kernel
theorem dX3_concat_55 : decode cX3_concat 55 = .ok (.invokevirtual 79, 3) := by decide +kernel
theorem dX3_concat_58 : decode cX3_concat 58 = .ok (.aload_n 0, 1) := by decide +kernel
theorem dX3_concat_59 : decode cX3_concat 59 = .ok (.iload_n 3, 1) := by decide +kernel
theorem dX3_concat_60 : decode cX3_concat 60 = .ok (.invokevirtual 71, 3) := by decide +kernel
theorem dX3_concat_63 : decode cX3_concat 63 = .ok (.ireturn, 1) := by decide +kernel
theorem dX3_substring_0 : decode cX3_substring 0 = .ok (.aload_n 0, 1) := by decide +kernel
theorem dX3_substring_1 : decode cX3_substring 1 = .ok (.getfield 10, 3) := by decide +kernel
theorem dX3_substring_4 : decode cX3_substring 4 = .ok (.iload_n 1, 1) := by decide +kernel
theorem dX3_substring_5 : decode cX3_substring 5 = .ok (.invokevirtual 39, 3) := by decide +kernel
theorem dX3_substring_8 : decode cX3_substring 8 = .ok (.astore 5, 2) := by decide +kernel
theorem dX3_substring_10 : decode cX3_substring 10 = .ok (.iload_n 2, 1) := by decide +kernel
theorem dX3_substring_11 : decode cX3_substring 11 = .ok (.ifCond .lt 17, 3) := by decide +kernel
theorem dX3_substring_14 : decode cX3_substring 14 = .ok (.iload_n 3, 1) := by decide +kernel
theorem dX3_substring_15 : decode cX3_substring 15 = .ok (.aload 5, 2) := by decide +kernel
theorem dX3_substring_17 : decode cX3_substring 17 = .ok (.invokevirtual 43, 3) := by decide +kernel
theorem dX3_substring_20 : decode cX3_substring 20 = .ok (.if_icmp .gt 8, 3) := by decide +kernel
theorem dX3_substring_23 : decode cX3_substring 23 = .ok (.iload_n 2, 1) := by decide +kernel
theorem dX3_substring_24 : decode cX3_substring 24 = .ok (.iload_n 3, 1) := by decide +kernel
theorem dX3_substring_25 : decode cX3_substring 25 = .ok (.if_icmp .le 6, 3) := by decide +kernel
theorem dX3_substring_28 : decode cX3_substring 28 = .ok (.ldc 82, 2) := by decide +kernel
theorem dX3_substring_30 : decode cX3_substring 30 = .ok (.ireturn, 1) := by decide +kernel
theorem dX3_substring_31 : decode cX3_substring 31 = .ok (.aload_n 0, 1) := by decide +kernel
theorem dX3_substring_32 : decode cX3_substring 32 = .ok (.getfield 25, 3) := by decide +kernel
theorem dX3_substring_35 : decode cX3_substring 35 = .ok (.invokevirtual 47, 3) := by decide +kernel
theorem dX3_substring_38 : decode cX3_substring 38 = .ok (.aload_n 0, 1) := by decide +kernel
theorem dX3_substring_39 : decode cX3_substring 39 = .ok (.getfield 25, 3) := by decide +kernel
theorem dX3_substring_42 : decode cX3_substring 42 = .ok (.aload 5, 2) := by decide +kernel
theorem dX3_substring_44 : decode cX3_substring 44 = .ok (.iload_n 2, 1) := by decide +kernel
theorem dX3_substring_45 : decode cX3_substring 45 = .ok (.iload_n 3, 1) := by decide +kernel
theorem dX3_substring_46 : decode cX3_substring 46 = .ok (.invokevirtual 83, 3) := by decide +kernel
theorem dX3_substring_49 : decode cX3_substring 49 = .ok (.aload_n 0, 1) := by decide +kernel
theorem dX3_substring_50 : decode cX3_substring 50 = .ok (.iload 4, 2) := by decide +kernel
theorem dX3_substring_52 : decode cX3_substring 52 = .ok (.invokevirtual 71, 3) := by decide +kernel
theorem dX3_substring_55 : decode cX3_substring 55 = .ok (.ireturn, 1) := by decide +kernel
theorem dX3_tail_0 : decode cX3_tail 0 = .ok (.aload_n 0, 1) := by decide +kernel
theorem dX3_tail_1 : decode cX3_tail 1 = .ok (.iload_n 1, 1) := by decide +kernel
theorem dX3_tail_2 : decode cX3_tail 2 = .ok (.iload_n 2, 1) := by decide +kernel
theorem dX3_tail_3 : decode cX3_tail 3 = .ok (.aload_n 0, 1) := by decide +kernel
theorem dX3_tail_4 : decode cX3_tail 4 = .ok (.getfield 10, 3) := by decide +kernel
theorem dX3_tail_7 : decode cX3_tail 7 = .ok (.iload_n 1, 1) := by decide +kernel
theorem dX3_tail_8 : decode cX3_tail 8 = .ok (.invokevirtual 39, 3) := by decide +kernel
theorem dX3_tail_11 : decode cX3_tail 11 = .ok (.invokevirtual 43, 3) := by decide +kernel
theorem dX3_tail_14 : decode cX3_tail 14 = .ok (.iload_n 3, 1) := by decide +kernel
theorem dX3_tail_15 : decode cX3_tail 15 = .ok (.invokevirtual 87, 3) := by decide +kernel
theorem dX3_tail_18 : decode cX3_tail 18 = .ok (.ireturn, 1) := by decide +kernel
theorem dX3_number_0 : decode cX3_number 0 = .ok (.aload_n 0, 1) := by decide +kernel
theorem dX3_number_1 : decode cX3_number 1 = .ok (.iload_n 1, 1) := by decide +kernel
theorem dX3_number_2 : decode cX3_number 2 = .ok (.i2l, 1) := by decide +kernel
theorem dX3_number_3 : decode cX3_number 3 = .ok (.iload_n 2, 1) := by decide +kernel
theorem dX3_number_4 : decode cX3_number 4 = .ok (.invokevirtual 91, 3) := by decide +kernel
theorem dX3_number_7 : decode cX3_number 7 = .ok (.ireturn, 1) := by decide +kernel
theorem dX3_big_0 : decode cX3_big 0 = .ok (.aload_n 0, 1) := by decide +kernel
theorem dX3_big_1 : decode cX3_big 1 = .ok (.getfield 29, 3) := by decide +kernel
theorem dX3_big_4 : decode cX3_big 4 = .ok (.invokevirtual 47, 3) := by decide +kernel
theorem dX3_big_7 : decode cX3_big 7 = .ok (.aload_n 0, 1) := by decide +kernel
theorem dX3_big_8 : decode cX3_big 8 = .ok (.getfield 29, 3) := by decide +kernel
theorem dX3_big_11 : decode cX3_big 11 = .ok (.lload_n 1, 1) := by decide +kernel
theorem dX3_big_12 : decode cX3_big 12 = .ok (.invokevirtual 94, 3) := by decide +kernel
theorem dX3_big_15 : decode cX3_big 15 = .ok (.lload_n 1, 1) := by decide +kernel
theorem dX3_big_16 : decode cX3_big 16 = .ok (.lconst 0, 1) := by decide +kernel
theorem dX3_big_17 : decode cX3_big 17 = .ok (.lcmp, 1) := by decide +kernel
theorem dX3_big_18 : decode cX3_big 18 = .ok (.ifCond .ge 12, 3) := by decide +kernel
theorem dX3_big_21 : decode cX3_big 21 = .ok (.aload_n 0, 1) := by decide +kernel
theorem dX3_big_22 : decode cX3_big 22 = .ok (.getfield 29, 3) := by decide +kernel
theorem dX3_big_25 : decode cX3_big 25 = .ok (.bipush 45, 2) := by decide +kernel
theorem dX3_big_27 : decode cX3_big 27 = .ok (.invokevirtual 56, 3) := by decide +kernel
theorem dX3_big_30 : decode cX3_big 30 = .ok (.aload_n 0, 1) := by decide +kernel
theorem dX3_big_31 : decode cX3_big 31 = .ok (.getfield 25, 3) := by decide +kernel
theorem dX3_big_34 : decode cX3_big 34 = .ok (.invokevirtual 47, 3) := by decide +kernel
theorem dX3_big_37 : decode cX3_big 37 = .ok (.aload_n 0, 1) := by decide +kernel
theorem dX3_big_38 : decode cX3_big 38 = .ok (.getfield 25, 3) := by decide +kernel
theorem dX3_big_41 : decode cX3_big 41 = .ok (.aload_n 0, 1) := by decide +kernel
theorem dX3_big_42 : decode cX3_big 42 = .ok (.getfield 29, 3) := by decide +kernel
theorem dX3_big_45 : decode cX3_big 45 = .ok (.invokevirtual 98, 3) := by decide +kernel
theorem dX3_big_48 : decode cX3_big 48 = .ok (.aload_n 0, 1) := by decide +kernel
theorem dX3_big_49 : decode cX3_big 49 = .ok (.iload_n 3, 1) := by decide +kernel
theorem dX3_big_50 : decode cX3_big 50 = .ok (.invokevirtual 71, 3) := by decide +kernel
theorem dX3_big_53 : decode cX3_big 53 = .ok (.ireturn, 1) := by decide +kernel
theorem dX3_length_0 : decode cX3_length 0 = .ok (.aload_n 0, 1) := by decide +kernel
theorem dX3_length_1 : decode cX3_length 1 = .ok (.getfield 10, 3) := by decide +kernel
theorem dX3_length_4 : decode cX3_length 4 = .ok (.iload_n 1, 1) := by decide +kernel
theorem dX3_length_5 : decode cX3_length 5 = .ok (.invokevirtual 39, 3) := by decide +kernel
theorem dX3_length_8 : decode cX3_length 8 = .ok (.invokevirtual 43, 3) := by decide +kernel
theorem dX3_length_11 : decode cX3_length 11 = .ok (.ireturn, 1) := by decide +kernel
theorem dX3_isEmpty_0 : decode cX3_isEmpty 0 = .ok (.aload_n 0, 1) := by decide +kernel
theorem dX3_isEmpty_1 : decode cX3_isEmpty 1 = .ok (.getfield 10, 3) := by decide +kernel
theorem dX3_isEmpty_4 : decode cX3_isEmpty 4 = .ok (.iload_n 1, 1) := by decide +kernel
theorem dX3_isEmpty_5 : decode cX3_isEmpty 5 = .ok (.invokevirtual 39, 3) := by decide +kernel
theorem dX3_isEmpty_8 : decode cX3_isEmpty 8 = .ok (.invokevirtual 43, 3) := by decide +kernel
theorem dX3_isEmpty_11 : decode cX3_isEmpty 11 = .ok (.ifCond .ne 7, 3) := by decide +kernel
theorem dX3_isEmpty_14 : decode cX3_isEmpty 14 = .ok (.iconst 1, 1) := by decide +kernel
theorem dX3_isEmpty_15 : decode cX3_isEmpty 15 = .ok (.goto 4, 3) := by decide +kernel
theorem dX3_isEmpty_18 : decode cX3_isEmpty 18 = .ok (.iconst 0, 1) := by decide +kernel
theorem dX3_isEmpty_19 : decode cX3_isEmpty 19 = .ok (.ireturn, 1) := by decide +kernel
theorem dX3_isBlank_0 : decode cX3_isBlank 0 = .ok (.aload_n 0, 1) := by decide +kernel
theorem dX3_isBlank_1 : decode cX3_isBlank 1 = .ok (.getfield 10, 3) := by decide +kernel
theorem dX3_isBlank_4 : decode cX3_isBlank 4 = .ok (.iload_n 1, 1) := by decide +kernel
theorem dX3_isBlank_5 : decode cX3_isBlank 5 = .ok (.invokevirtual 39, 3) := by decide +kernel
theorem dX3_isBlank_8 : decode cX3_isBlank 8 = .ok (.astore_n 2, 1) := by decide +kernel
theorem dX3_isBlank_9 : decode cX3_isBlank 9 = .ok (.aload_n 2, 1) := by decide +kernel
theorem dX3_isBlank_10 : decode cX3_isBlank 10 = .ok (.iconst 1, 1) := by decide +kernel
theorem dX3_isBlank_11 : decode cX3_isBlank 11 = .ok (.invokevirtual 101, 3) := by decide +kernel
theorem dX3_isBlank_14 : decode cX3_isBlank 14 = .ok (.aload_n 2, 1) := by decide +kernel
theorem dX3_isBlank_15 : decode cX3_isBlank 15 = .ok (.invokevirtual 43, 3) := by decide +kernel
theorem dX3_isBlank_18 : decode cX3_isBlank 18 = .ok (.if_icmp .ne 7, 3) := by decide +kernel
theorem dX3_isBlank_21 : decode cX3_isBlank 21 = .ok (.iconst 1, 1) := by decide +kernel
theorem dX3_isBlank_22 : decode cX3_isBlank 22 = .ok (.goto 4, 3) := by decide +kernel
theorem dX3_isBlank_25 : decode cX3_isBlank 25 = .ok (.iconst 0, 1) := by decide +kernel
theorem dX3_isBlank_26 : decode cX3_isBlank 26 = .ok (.ireturn, 1) := by decide +kernel
theorem dX3_charAt_0 : decode cX3_charAt 0 = .ok (.aload_n 0, 1) := by decide +kernel
theorem dX3_charAt_1 : decode cX3_charAt 1 = .ok (.getfield 10, 3) := by decide +kernel
theorem dX3_charAt_4 : decode cX3_charAt 4 = .ok (.iload_n 1, 1) := by decide +kernel
theorem dX3_charAt_5 : decode cX3_charAt 5 = .ok (.invokevirtual 39, 3) := by decide +kernel
theorem dX3_charAt_8 : decode cX3_charAt 8 = .ok (.astore_n 3, 1) := by decide +kernel
theorem dX3_charAt_9 : decode cX3_charAt 9 = .ok (.iload_n 2, 1) := by decide +kernel
theorem dX3_charAt_10 : decode cX3_charAt 10 = .ok (.ifCond .lt 11, 3) := by decide +kernel
theorem dX3_charAt_13 : decode cX3_charAt 13 = .ok (.iload_n 2, 1) := by decide +kernel
theorem dX3_charAt_14 : decode cX3_charAt 14 = .ok (.aload_n 3, 1) := by decide +kernel
theorem dX3_charAt_15 : decode cX3_charAt 15 = .ok (.invokevirtual 43, 3) := by decide +kernel
theorem dX3_charAt_18 : decode cX3_charAt 18 = .ok (.if_icmp .lt 6, 3) := by decide +kernel
theorem dX3_charAt_21 : decode cX3_charAt 21 = .ok (.ldc 82, 2) := by decide +kernel
theorem dX3_charAt_23 : decode cX3_charAt 23 = .ok (.ireturn, 1) := by decide +kernel
theorem dX3_charAt_24 : decode cX3_charAt 24 = .ok (.aload_n 3, 1) := by decide +kernel
theorem dX3_charAt_25 : decode cX3_charAt 25 = .ok (.iload_n 2, 1) := by decide +kernel
theorem dX3_charAt_26 : decode cX3_charAt 26 = .ok (.invokevirtual 105, 3) := by decide +kernel
theorem dX3_charAt_29 : decode cX3_charAt 29 = .ok (.ireturn, 1) := by decide +kernel
theorem dX3_hash_0 : decode cX3_hash 0 = .ok (.aload_n 0, 1) := by decide +kernel
theorem dX3_hash_1 : decode cX3_hash 1 = .ok (.getfield 10, 3) := by decide +kernel
theorem dX3_hash_4 : decode cX3_hash 4 = .ok (.iload_n 1, 1) := by decide +kernel
theorem dX3_hash_5 : decode cX3_hash 5 = .ok (.invokevirtual 39, 3) := by decide +kernel
theorem dX3_hash_8 : decode cX3_hash 8 = .ok (.astore_n 2, 1) := by decide +kernel
theorem dX3_hash_9 : decode cX3_hash 9 = .ok (.iconst 0, 1) := by decide +kernel
theorem dX3_hash_10 : decode cX3_hash 10 = .ok (.istore_n 3, 1) := by decide +kernel
theorem dX3_hash_11 : decode cX3_hash 11 = .ok (.iconst 0, 1) := by decide +kernel
theorem dX3_hash_12 : decode cX3_hash 12 = .ok (.istore 4, 2) := by decide +kernel
theorem dX3_hash_14 : decode cX3_hash 14 = .ok (.iload 4, 2) := by decide +kernel
theorem dX3_hash_16 : decode cX3_hash 16 = .ok (.aload_n 2, 1) := by decide +kernel
theorem dX3_hash_17 : decode cX3_hash 17 = .ok (.invokevirtual 43, 3) := by decide +kernel
theorem dX3_hash_20 : decode cX3_hash 20 = .ok (.if_icmp .ge 21, 3) := by decide +kernel
theorem dX3_hash_23 : decode cX3_hash 23 = .ok (.bipush 31, 2) := by decide +kernel
theorem dX3_hash_25 : decode cX3_hash 25 = .ok (.iload_n 3, 1) := by decide +kernel
theorem dX3_hash_26 : decode cX3_hash 26 = .ok (.imul, 1) := by decide +kernel
theorem dX3_hash_27 : decode cX3_hash 27 = .ok (.aload_n 2, 1) := by decide +kernel
theorem dX3_hash_28 : decode cX3_hash 28 = .ok (.iload 4, 2) := by decide +kernel
theorem dX3_hash_30 : decode cX3_hash 30 = .ok (.invokevirtual 105, 3) := by decide +kernel
theorem dX3_hash_33 : decode cX3_hash 33 = .ok (.iadd, 1) := by decide +kernel
theorem dX3_hash_34 : decode cX3_hash 34 = .ok (.istore_n 3, 1) := by decide +kernel
theorem dX3_hash_35 : decode cX3_hash 35 = .ok (.iinc 4 1, 3) := by decide +kernel
theorem dX3_hash_38 : decode cX3_hash 38 = .ok (.goto (-24), 3) := by decide +kernel
theorem dX3_hash_41 : decode cX3_hash 41 = .ok (.iload_n 3, 1) := by decide +kernel
theorem dX3_hash_42 : decode cX3_hash 42 = .ok (.ireturn, 1) := by decide +kernel
theorem dX3_first_0 : decode cX3_first 0 = .ok (.aload_n 0, 1) := by decide +kernel
theorem dX3_first_1 : decode cX3_first 1 = .ok (.iload_n 1, 1) := by decide +kernel
theorem dX3_first_2 : decode cX3_first 2 = .ok (.iload_n 2, 1) := by decide +kernel
theorem dX3_first_3 : decode cX3_first 3 = .ok (.iconst 0, 1) := by decide +kernel
theorem dX3_first_4 : decode cX3_first 4 = .ok (.invokevirtual 108, 3) := by decide +kernel
theorem dX3_first_7 : decode cX3_first 7 = .ok (.ireturn, 1) := by decide +kernel
theorem dX3_firstFrom_0 : decode cX3_firstFrom 0 = .ok (.aload_n 0, 1) := by decide +kernel
theorem dX3_firstFrom_1 : decode cX3_firstFrom 1 = .ok (.getfield 10, 3) := by decide +kernel
theorem dX3_firstFrom_4 : decode cX3_firstFrom 4 = .ok (.iload_n 1, 1) := by decide +kernel
theorem dX3_firstFrom_5 : decode cX3_firstFrom 5 = .ok (.invokevirtual 39, 3) := by decide +kernel
theorem dX3_firstFrom_8 : decode cX3_firstFrom 8 = .ok (.iload_n 2, 1) := by decide +kernel
theorem dX3_firstFrom_9 : decode cX3_firstFrom 9 = .ok (.iload_n 3, 1) := by decide +kernel
theorem dX3_firstFrom_10 : decode cX3_firstFrom 10 = .ok (.invokevirtual 112, 3) := by decide +kernel
theorem dX3_firstFrom_13 : decode cX3_firstFrom 13 = .ok (.ireturn, 1) := by decide +kernel
theorem dX3_last_0 : decode cX3_last 0 = .ok (.aload_n 0, 1) := by decide +kernel
theorem dX3_last_1 : decode cX3_last 1 = .ok (.iload_n 1, 1) := by decide +kernel
theorem dX3_last_2 : decode cX3_last 2 = .ok (.iload_n 2, 1) := by decide +kernel
theorem dX3_last_3 : decode cX3_last 3 = .ok (.sipush 300, 3) := by decide +kernel
theorem dX3_last_6 : decode cX3_last 6 = .ok (.invokevirtual 116, 3) := by decide +kernel
theorem dX3_last_9 : decode cX3_last 9 = .ok (.ireturn, 1) := by decide +kernel
theorem dX3_lastFrom_0 : decode cX3_lastFrom 0 = .ok (.aload_n 0, 1) := by decide +kernel
theorem dX3_lastFrom_1 : decode cX3_lastFrom 1 = .ok (.getfield 10, 3) := by decide +kernel
theorem dX3_lastFrom_4 : decode cX3_lastFrom 4 = .ok (.iload_n 1, 1) := by decide +kernel
theorem dX3_lastFrom_5 : decode cX3_lastFrom 5 = .ok (.invokevirtual 39, 3) := by decide +kernel
theorem dX3_lastFrom_8 : decode cX3_lastFrom 8 = .ok (.iload_n 2, 1) := by decide +kernel
theorem dX3_lastFrom_9 : decode cX3_lastFrom 9 = .ok (.iload_n 3, 1) := by decide +kernel
theorem dX3_lastFrom_10 : decode cX3_lastFrom 10 = .ok (.invokevirtual 119, 3) := by decide +kernel
theorem dX3_lastFrom_13 : decode cX3_lastFrom 13 = .ok (.ireturn, 1) := by decide +kernel
theorem dX3_find_0 : decode cX3_find 0 = .ok (.aload_n 0, 1) := by decide +kernel
theorem dX3_find_1 : decode cX3_find 1 = .ok (.iload_n 1, 1) := by decide +kernel
theorem dX3_find_2 : decode cX3_find 2 = .ok (.iload_n 2, 1) := by decide +kernel
theorem dX3_find_3 : decode cX3_find 3 = .ok (.iconst 0, 1) := by decide +kernel
theorem dX3_find_4 : decode cX3_find 4 = .ok (.invokevirtual 122, 3) := by decide +kernel
theorem dX3_find_7 : decode cX3_find 7 = .ok (.ireturn, 1) := by decide +kernel
theorem dX3_findFrom_0 : decode cX3_findFrom 0 = .ok (.aload_n 0, 1) := by decide +kernel
theorem dX3_findFrom_1 : decode cX3_findFrom 1 = .ok (.getfield 10, 3) := by decide +kernel
theorem dX3_findFrom_4 : decode cX3_findFrom 4 = .ok (.iload_n 1, 1) := by decide +kernel
theorem dX3_findFrom_5 : decode cX3_findFrom 5 = .ok (.invokevirtual 39, 3) := by decide +kernel
theorem dX3_findFrom_8 : decode cX3_findFrom 8 = .ok (.aload_n 0, 1) := by decide +kernel
theorem dX3_findFrom_9 : decode cX3_findFrom 9 = .ok (.getfield 10, 3) := by decide +kernel
theorem dX3_findFrom_12 : decode cX3_findFrom 12 = .ok (.iload_n 2, 1) := by decide +kernel
theorem dX3_findFrom_13 : decode cX3_findFrom 13 = .ok (.invokevirtual 39, 3) := by decide +kernel
theorem dX3_findFrom_16 : decode cX3_findFrom 16 = .ok (.iload_n 3, 1) := by decide +kernel
theorem dX3_findFrom_17 : decode cX3_findFrom 17 = .ok (.invokevirtual 125, 3) := by decide +kernel
theorem dX3_findFrom_20 : decode cX3_findFrom 20 = .ok (.ireturn, 1) := by decide +kernel
theorem dX3_findLast_0 : decode cX3_findLast 0 = .ok (.aload_n 0, 1) := by decide +kernel
theorem dX3_findLast_1 : decode cX3_findLast 1 = .ok (.iload_n 1, 1) := by decide +kernel
theorem dX3_findLast_2 : decode cX3_findLast 2 = .ok (.iload_n 2, 1) := by decide +kernel
theorem dX3_findLast_3 : decode cX3_findLast 3 = .ok (.sipush 300, 3) := by decide +kernel
theorem dX3_findLast_6 : decode cX3_findLast 6 = .ok (.invokevirtual 129, 3) := by decide +kernel
theorem dX3_findLast_9 : decode cX3_findLast 9 = .ok (.ireturn, 1) := by decide +kernel
theorem dX3_findLastFrom_0 : decode cX3_findLastFrom 0 = .ok (.aload_n 0, 1) := by decide +kernel
theorem dX3_findLastFrom_1 : decode cX3_findLastFrom 1 = .ok (.getfield 10, 3) := by decide +kernel
theorem dX3_findLastFrom_4 : decode cX3_findLastFrom 4 = .ok (.iload_n 1, 1) := by decide +kernel
theorem dX3_findLastFrom_5 : decode cX3_findLastFrom 5 = .ok (.invokevirtual 39, 3) := by decide +kernel
theorem dX3_findLastFrom_8 : decode cX3_findLastFrom 8 = .ok (.aload_n 0, 1) := by decide +kernel
theorem dX3_findLastFrom_9 : decode cX3_findLastFrom 9 = .ok (.getfield 10, 3) := by decide +kernel
theorem dX3_findLastFrom_12 : decode cX3_findLastFrom 12 = .ok (.iload_n 2, 1) := by decide +kernel
theorem dX3_findLastFrom_13 : decode cX3_findLastFrom 13 = .ok (.invokevirtual 39, 3) := by decide +kernel
theorem dX3_findLastFrom_16 : decode cX3_findLastFrom 16 = .ok (.iload_n 3, 1) := by decide +kernel
theorem dX3_findLastFrom_17 : decode cX3_findLastFrom 17 = .ok (.invokevirtual 132, 3) := by decide +kernel
theorem dX3_findLastFrom_20 : decode cX3_findLastFrom 20 = .ok (.ireturn, 1) := by decide +kernel
theorem dX3_contains_0 : decode cX3_contains 0 = .ok (.aload_n 0, 1) := by decide +kernel
theorem dX3_contains_1 : decode cX3_contains 1 = .ok (.iload_n 1, 1) := by decide +kernel
theorem dX3_contains_2 : decode cX3_contains 2 = .ok (.iload_n 2, 1) := by decide +kernel
theorem dX3_contains_3 : decode cX3_contains 3 = .ok (.invokevirtual 135, 3) := by decide +kernel
theorem dX3_contains_6 : decode cX3_contains 6 = .ok (.iconst (-1), 1) := by decide +kernel
theorem dX3_contains_7 : decode cX3_contains 7 = .ok (.if_icmp .eq 7, 3) := by decide +kernel
theorem dX3_contains_10 : decode cX3_contains 10 = .ok (.iconst 1, 1) := by decide +kernel
theorem dX3_contains_11 : decode cX3_contains 11 = .ok (.goto 4, 3) := by decide +kernel
theorem dX3_contains_14 : decode cX3_contains 14 = .ok (.iconst 0, 1) := by decide +kernel
theorem dX3_contains_15 : decode cX3_contains 15 = .ok (.ireturn, 1) := by decide +kernel
theorem dX3_starts_0 : decode cX3_starts 0 = .ok (.aload_n 0, 1) := by decide +kernel
theorem dX3_starts_1 : decode cX3_starts 1 = .ok (.iload_n 1, 1) := by decide +kernel
theorem dX3_starts_2 : decode cX3_starts 2 = .ok (.iload_n 2, 1) := by decide +kernel
theorem dX3_starts_3 : decode cX3_starts 3 = .ok (.iconst 0, 1) := by decide +kernel
theorem dX3_starts_4 : decode cX3_starts 4 = .ok (.invokevirtual 138, 3) := by decide +kernel
theorem dX3_starts_7 : decode cX3_starts 7 = .ok (.ireturn, 1) := by decide +kernel
theorem dX3_startsAt_0 : decode cX3_startsAt 0 = .ok (.aload_n 0, 1) := by decide +kernel
theorem dX3_startsAt_1 : decode cX3_startsAt 1 = .ok (.getfield 10, 3) := by decide +kernel
theorem dX3_startsAt_4 : decode cX3_startsAt 4 = .ok (.iload_n 1, 1) := by decide +kernel
theorem dX3_startsAt_5 : decode cX3_startsAt 5 = .ok (.invokevirtual 39, 3) := by decide +kernel
theorem dX3_startsAt_8 : decode cX3_startsAt 8 = .ok (.aload_n 0, 1) := by decide +kernel
theorem dX3_startsAt_9 : decode cX3_startsAt 9 = .ok (.getfield 10, 3) := by decide +kernel
theorem dX3_startsAt_12 : decode cX3_startsAt 12 = .ok (.iload_n 2, 1) := by decide +kernel
theorem dX3_startsAt_13 : decode cX3_startsAt 13 = .ok (.invokevirtual 39, 3) := by decide +kernel
theorem dX3_startsAt_16 : decode cX3_startsAt 16 = .ok (.iload_n 3, 1) := by decide +kernel
theorem dX3_startsAt_17 : decode cX3_startsAt 17 = .ok (.invokevirtual 142, 3) := by decide +kernel
theorem dX3_startsAt_20 : decode cX3_startsAt 20 = .ok (.ireturn, 1) := by decide +kernel
theorem dX3_ends_0 : decode cX3_ends 0 = .ok (.aload_n 0, 1) := by decide +kernel
theorem dX3_ends_1 : decode cX3_ends 1 = .ok (.iload_n 1, 1) := by decide +kernel
theorem dX3_ends_2 : decode cX3_ends 2 = .ok (.iload_n 2, 1) := by decide +kernel
theorem dX3_ends_3 : decode cX3_ends 3 = .ok (.aload_n 0, 1) := by decide +kernel
theorem dX3_ends_4 : decode cX3_ends 4 = .ok (.iload_n 1, 1) := by decide +kernel
theorem dX3_ends_5 : decode cX3_ends 5 = .ok (.invokevirtual 146, 3) := by decide +kernel
theorem dX3_ends_8 : decode cX3_ends 8 = .ok (.aload_n 0, 1) := by decide +kernel
theorem dX3_ends_9 : decode cX3_ends 9 = .ok (.iload_n 2, 1) := by decide +kernel
theorem dX3_ends_10 : decode cX3_ends 10 = .ok (.invokevirtual 146, 3) := by decide +kernel
theorem dX3_ends_13 : decode cX3_ends 13 = .ok (.isub, 1) := by decide +kernel
theorem dX3_ends_14 : decode cX3_ends 14 = .ok (.invokevirtual 138, 3) := by decide +kernel
theorem dX3_ends_17 : decode cX3_ends 17 = .ok (.ireturn, 1) := by decide +kernel
theorem dX3_region_0 : decode cX3_region 0 = .ok (.aload_n 0, 1) := by decide +kernel
theorem dX3_region_1 : decode cX3_region 1 = .ok (.getfield 10, 3) := by decide +kernel
theorem dX3_region_4 : decode cX3_region 4 = .ok (.iload_n 1, 1) := by decide +kernel
theorem dX3_region_5 : decode cX3_region 5 = .ok (.invokevirtual 39, 3) := by decide +kernel
theorem dX3_region_8 : decode cX3_region 8 = .ok (.iload_n 2, 1) := by decide +kernel
theorem dX3_region_9 : decode cX3_region 9 = .ok (.aload_n 0, 1) := by decide +kernel
theorem dX3_region_10 : decode cX3_region 10 = .ok (.getfield 10, 3) := by decide +kernel
theorem dX3_region_13 : decode cX3_region 13 = .ok (.iload_n 3, 1) := by decide +kernel
theorem dX3_region_14 : decode cX3_region 14 = .ok (.invokevirtual 39, 3) := by decide +kernel
theorem dX3_region_17 : decode cX3_region 17 = .ok (.iload 4, 2) := by decide +kernel
theorem dX3_region_19 : decode cX3_region 19 = .ok (.iload 5, 2) := by decide +kernel
theorem dX3_region_21 : decode cX3_region 21 = .ok (.iconst 1, 1) := by decide +kernel
theorem dX3_region_22 : decode cX3_region 22 = .ok (.invokevirtual 149, 3) := by decide +kernel
theorem dX3_region_25 : decode cX3_region 25 = .ok (.ireturn, 1) := by decide +kernel
theorem dX3_regionAlike_0 : decode cX3_regionAlike 0 = .ok (.aload_n 0, 1) := by decide +kernel
theorem dX3_regionAlike_1 : decode cX3_regionAlike 1 = .ok (.getfield 10, 3) := by decide +kernel
theorem dX3_regionAlike_4 : decode cX3_regionAlike 4 = .ok (.iload_n 1, 1) := by decide +kernel
theorem dX3_regionAlike_5 : decode cX3_regionAlike 5 = .ok (.invokevirtual 39, 3) := by decide +kernel
theorem dX3_regionAlike_8 : decode cX3_regionAlike 8 = .ok (.iload_n 2, 1) := by decide +kernel
theorem dX3_regionAlike_9 : decode cX3_regionAlike 9 = .ok (.aload_n 0, 1) := by decide +kernel
theorem dX3_regionAlike_10 : decode cX3_regionAlike 10 = .ok (.getfield 10, 3) := by decide +kernel
theorem dX3_regionAlike_13 : decode cX3_regionAlike 13 = .ok (.iload_n 3, 1) := by decide +kernel
theorem dX3_regionAlike_14 : decode cX3_regionAlike 14 = .ok (.invokevirtual 39, 3) := by decide +kernel
theorem dX3_regionAlike_17 : decode cX3_regionAlike 17 = .ok (.iload 4, 2) := by decide +kernel
theorem dX3_regionAlike_19 : decode cX3_regionAlike 19 = .ok (.iload 5, 2) := by decide +kernel
theorem dX3_regionAlike_21 : decode cX3_regionAlike 21 = .ok (.iconst 0, 1) := by decide +kernel
theorem dX3_regionAlike_22 : decode cX3_regionAlike 22 = .ok (.invokevirtual 149, 3) := by decide +kernel
theorem dX3_regionAlike_25 : decode cX3_regionAlike 25 = .ok (.ireturn, 1) := by decide +kernel
theorem dX3_same_0 : decode cX3_same 0 = .ok (.aload_n 0, 1) := by decide +kernel
theorem dX3_same_1 : decode cX3_same 1 = .ok (.getfield 10, 3) := by decide +kernel
theorem dX3_same_4 : decode cX3_same 4 = .ok (.iload_n 1, 1) := by decide +kernel
theorem dX3_same_5 : decode cX3_same 5 = .ok (.invokevirtual 39, 3) := by decide +kernel
theorem dX3_same_8 : decode cX3_same 8 = .ok (.aload_n 0, 1) := by decide +kernel
theorem dX3_same_9 : decode cX3_same 9 = .ok (.getfield 10, 3) := by decide +kernel
theorem dX3_same_12 : decode cX3_same 12 = .ok (.iload_n 2, 1) := by decide +kernel
theorem dX3_same_13 : decode cX3_same 13 = .ok (.invokevirtual 39, 3) := by decide +kernel
theorem dX3_same_16 : decode cX3_same 16 = .ok (.iconst 1, 1) := by decide +kernel
theorem dX3_same_17 : decode cX3_same 17 = .ok (.invokevirtual 153, 3) := by decide +kernel
theorem dX3_same_20 : decode cX3_same 20 = .ok (.ireturn, 1) := by decide +kernel
theorem dX3_alike_0 : decode cX3_alike 0 = .ok (.aload_n 0, 1) := by decide +kernel
theorem dX3_alike_1 : decode cX3_alike 1 = .ok (.getfield 10, 3) := by decide +kernel
theorem dX3_alike_4 : decode cX3_alike 4 = .ok (.iload_n 1, 1) := by decide +kernel
theorem dX3_alike_5 : decode cX3_alike 5 = .ok (.invokevirtual 39, 3) := by decide +kernel
theorem dX3_alike_8 : decode cX3_alike 8 = .ok (.aload_n 0, 1) := by decide +kernel
theorem dX3_alike_9 : decode cX3_alike 9 = .ok (.getfield 10, 3) := by decide +kernel
theorem dX3_alike_12 : decode cX3_alike 12 = .ok (.iload_n 2, 1) := by decide +kernel
theorem dX3_alike_13 : decode cX3_alike 13 = .ok (.invokevirtual 39, 3) := by decide +kernel
theorem dX3_alike_16 : decode cX3_alike 16 = .ok (.iconst 0, 1) := by decide +kernel
theorem dX3_alike_17 : decode cX3_alike 17 = .ok (.invokevirtual 153, 3) := by decide +kernel
theorem dX3_alike_20 : decode cX3_alike 20 = .ok (.ireturn, 1) := by decide +kernel
theorem dX3_compare_0 : decode cX3_compare 0 = .ok (.aload_n 0, 1) := by decide +kernel
theorem dX3_compare_1 : decode cX3_compare 1 = .ok (.getfield 10, 3) := by decide +kernel
theorem dX3_compare_4 : decode cX3_compare 4 = .ok (.iload_n 1, 1) := by decide +kernel
theorem dX3_compare_5 : decode cX3_compare 5 = .ok (.invokevirtual 39, 3) := by decide +kernel
theorem dX3_compare_8 : decode cX3_compare 8 = .ok (.aload_n 0, 1) := by decide +kernel
theorem dX3_compare_9 : decode cX3_compare 9 = .ok (.getfield 10, 3) := by decide +kernel
theorem dX3_compare_12 : decode cX3_compare 12 = .ok (.iload_n 2, 1) := by decide +kernel
theorem dX3_compare_13 : decode cX3_compare 13 = .ok (.invokevirtual 39, 3) := by decide +kernel
theorem dX3_compare_16 : decode cX3_compare 16 = .ok (.iconst 1, 1) := by decide +kernel
theorem dX3_compare_17 : decode cX3_compare 17 = .ok (.invokevirtual 157, 3) := by decide +kernel
theorem dX3_compare_20 : decode cX3_compare 20 = .ok (.ireturn, 1) := by decide +kernel
theorem dX3_compareAlike_0 : decode cX3_compareAlike 0 = .ok (.aload_n 0, 1) := by decide +kernel
theorem dX3_compareAlike_1 : decode cX3_compareAlike 1 = .ok (.getfield 10, 3) := by decide +kernel
theorem dX3_compareAlike_4 : decode cX3_compareAlike 4 = .ok (.iload_n 1, 1) := by decide +kernel
theorem dX3_compareAlike_5 : decode cX3_compareAlike 5 = .ok (.invokevirtual 39, 3) := by decide +kernel
theorem dX3_compareAlike_8 : decode cX3_compareAlike 8 = .ok (.aload_n 0, 1) := by decide +kernel
theorem dX3_compareAlike_9 : decode cX3_compareAlike 9 = .ok (.getfield 10, 3) := by decide +kernel
theorem dX3_compareAlike_12 : decode cX3_compareAlike 12 = .ok (.iload_n 2, 1) := by decide +kernel
theorem dX3_compareAlike_13 : decode cX3_compareAlike 13 = .ok (.invokevirtual 39, 3) := by decide +kernel
theorem dX3_compareAlike_16 : decode cX3_compareAlike 16 = .ok (.iconst 0, 1) := by decide +kernel
theorem dX3_compareAlike_17 : decode cX3_compareAlike 17 = .ok (.invokevirtual 157, 3) := by decide +kernel
theorem dX3_compareAlike_20 : decode cX3_compareAlike 20 = .ok (.iconst 0, 1) := by decide +kernel
theorem dX3_compareAlike_21 : decode cX3_compareAlike 21 = .ok (.invokestatic 161, 3) := by decide +kernel
theorem dX3_compareAlike_24 : decode cX3_compareAlike 24 = .ok (.ireturn, 1) := by decide +kernel
theorem dX3_replaceSign_0 : decode cX3_replaceSign 0 = .ok (.iload_n 2, 1) := by decide +kernel
theorem dX3_replaceSign_1 : decode cX3_replaceSign 1 = .ok (.invokestatic 50, 3) := by decide +kernel
theorem dX3_replaceSign_4 : decode cX3_replaceSign 4 = .ok (.ifCond .eq 10, 3) := by decide +kernel
theorem dX3_replaceSign_7 : decode cX3_replaceSign 7 = .ok (.iload_n 3, 1) := by decide +kernel
theorem dX3_replaceSign_8 : decode cX3_replaceSign 8 = .ok (.invokestatic 50, 3) := by decide +kernel
theorem dX3_replaceSign_11 : decode cX3_replaceSign 11 = .ok (.ifCond .ne 6, 3) := by decide +kernel
theorem dX3_replaceSign_14 : decode cX3_replaceSign 14 = .ok (.ldc 54, 2) := by decide +kernel
theorem dX3_replaceSign_16 : decode cX3_replaceSign 16 = .ok (.ireturn, 1) := by decide +kernel
theorem dX3_replaceSign_17 : decode cX3_replaceSign 17 = .ok (.aload_n 0, 1) := by decide +kernel
theorem dX3_replaceSign_18 : decode cX3_replaceSign 18 = .ok (.getfield 25, 3) := by decide +kernel
theorem dX3_replaceSign_21 : decode cX3_replaceSign 21 = .ok (.aload_n 0, 1) := by decide +kernel
theorem dX3_replaceSign_22 : decode cX3_replaceSign 22 = .ok (.getfield 10, 3) := by decide +kernel
theorem dX3_replaceSign_25 : decode cX3_replaceSign 25 = .ok (.iload_n 1, 1) := by decide +kernel
theorem dX3_replaceSign_26 : decode cX3_replaceSign 26 = .ok (.invokevirtual 39, 3) := by decide +kernel
theorem dX3_replaceSign_29 : decode cX3_replaceSign 29 = .ok (.invokevirtual 67, 3) := by decide +kernel
theorem dX3_replaceSign_32 : decode cX3_replaceSign 32 = .ok (.aload_n 0, 1) := by decide +kernel
theorem dX3_replaceSign_33 : decode cX3_replaceSign 33 = .ok (.getfield 25, 3) := by decide +kernel
theorem dX3_replaceSign_36 : decode cX3_replaceSign 36 = .ok (.iload_n 2, 1) := by decide +kernel
theorem dX3_replaceSign_37 : decode cX3_replaceSign 37 = .ok (.iload_n 3, 1) := by decide +kernel
theorem dX3_replaceSign_38 : decode cX3_replaceSign 38 = .ok (.invokevirtual 166, 3) := by decide +kernel
theorem dX3_replaceSign_41 : decode cX3_replaceSign 41 = .ok (.aload_n 0, 1) := by decide +kernel
theorem dX3_replaceSign_42 : decode cX3_replaceSign 42 = .ok (.iload 4, 2) := by decide +kernel
theorem dX3_replaceSign_44 : decode cX3_replaceSign 44 = .ok (.invokevirtual 71, 3) := by decide +kernel
theorem dX3_replaceSign_47 : decode cX3_replaceSign 47 = .ok (.ireturn, 1) := by decide +kernel
theorem dX3_replaceText_0 : decode cX3_replaceText 0 = .ok (.aload_n 0, 1) := by decide +kernel
theorem dX3_replaceText_1 : decode cX3_replaceText 1 = .ok (.getfield 10, 3) := by decide +kernel
theorem dX3_replaceText_4 : decode cX3_replaceText 4 = .ok (.iload_n 1, 1) := by decide +kernel
theorem dX3_replaceText_5 : decode cX3_replaceText 5 = .ok (.invokevirtual 39, 3) := by decide +kernel
theorem dX3_replaceText_8 : decode cX3_replaceText 8 = .ok (.astore 5, 2) := by decide +kernel
theorem dX3_replaceText_10 : decode cX3_replaceText 10 = .ok (.aload_n 0, 1) := by decide +kernel
theorem dX3_replaceText_11 : decode cX3_replaceText 11 = .ok (.getfield 10, 3) := by decide +kernel
theorem dX3_replaceText_14 : decode cX3_replaceText 14 = .ok (.iload_n 2, 1) := by decide +kernel
theorem dX3_replaceText_15 : decode cX3_replaceText 15 = .ok (.invokevirtual 39, 3) := by decide +kernel
theorem dX3_replaceText_18 : decode cX3_replaceText 18 = .ok (.astore 6, 2) := by decide +kernel
theorem dX3_replaceText_20 : decode cX3_replaceText 20 = .ok (.aload_n 0, 1) := by decide +kernel
theorem dX3_replaceText_21 : decode cX3_replaceText 21 = .ok (.getfield 10, 3) := by decide +kernel
theorem dX3_replaceText_24 : decode cX3_replaceText 24 = .ok (.iload_n 3, 1) := by decide +kernel
theorem dX3_replaceText_25 : decode cX3_replaceText 25 = .ok (.invokevirtual 39, 3) := by decide +kernel
theorem dX3_replaceText_28 : decode cX3_replaceText 28 = .ok (.astore 7, 2) := by decide +kernel
theorem dX3_replaceText_30 : decode cX3_replaceText 30 = .ok (.aload 6, 2) := by decide +kernel
theorem dX3_replaceText_32 : decode cX3_replaceText 32 = .ok (.invokevirtual 43, 3) := by decide +kernel
theorem dX3_replaceText_35 : decode cX3_replaceText 35 = .ok (.ifCond .ne 6, 3) := by decide +kernel
theorem dX3_replaceText_38 : decode cX3_replaceText 38 = .ok (.ldc 54, 2) := by decide +kernel
theorem dX3_replaceText_40 : decode cX3_replaceText 40 = .ok (.ireturn, 1) := by decide +kernel
theorem dX3_replaceText_41 : decode cX3_replaceText 41 = .ok (.aload 5, 2) := by decide +kernel
theorem dX3_replaceText_43 : decode cX3_replaceText 43 = .ok (.invokevirtual 43, 3) := by decide +kernel
theorem dX3_replaceText_46 : decode cX3_replaceText 46 = .ok (.aload 5, 2) := by decide +kernel
theorem dX3_replaceText_48 : decode cX3_replaceText 48 = .ok (.aload 6, 2) := by decide +kernel
theorem dX3_replaceText_50 : decode cX3_replaceText 50 = .ok (.invokevirtual 169, 3) := by decide +kernel
theorem dX3_replaceText_53 : decode cX3_replaceText 53 = .ok (.aload 7, 2) := by decide +kernel
theorem dX3_replaceText_55 : decode cX3_replaceText 55 = .ok (.invokevirtual 43, 3) := by decide +kernel
theorem dX3_replaceText_58 : decode cX3_replaceText 58 = .ok (.aload 6, 2) := by decide +kernel
theorem dX3_replaceText_60 : decode cX3_replaceText 60 = .ok (.invokevirtual 43, 3) := by decide +kernel
theorem dX3_replaceText_63 : decode cX3_replaceText 63 = .ok (.isub, 1) := by decide +kernel
theorem dX3_replaceText_64 : decode cX3_replaceText 64 = .ok (.imul, 1) := by decide +kernel
theorem dX3_replaceText_65 : decode cX3_replaceText 65 = .ok (.iadd, 1) := by decide +kernel
theorem dX3_replaceText_66 : decode cX3_replaceText 66 = .ok (.sipush 300, 3) := by decide +kernel
theorem dX3_replaceText_69 : decode cX3_replaceText 69 = .ok (.if_icmp .le 6, 3) := by decide +kernel
theorem dX3_replaceText_72 : decode cX3_replaceText 72 = .ok (.ldc 55, 2) := by decide +kernel
theorem dX3_replaceText_74 : decode cX3_replaceText 74 = .ok (.ireturn, 1) := by decide +kernel
theorem dX3_replaceText_75 : decode cX3_replaceText 75 = .ok (.aload_n 0, 1) := by decide +kernel
theorem dX3_replaceText_76 : decode cX3_replaceText 76 = .ok (.getfield 25, 3) := by decide +kernel
theorem dX3_replaceText_79 : decode cX3_replaceText 79 = .ok (.invokevirtual 47, 3) := by decide +kernel
theorem dX3_replaceText_82 : decode cX3_replaceText 82 = .ok (.aload_n 0, 1) := by decide +kernel
theorem dX3_replaceText_83 : decode cX3_replaceText 83 = .ok (.getfield 25, 3) := by decide +kernel
theorem dX3_replaceText_86 : decode cX3_replaceText 86 = .ok (.aload 5, 2) := by decide +kernel
theorem dX3_replaceText_88 : decode cX3_replaceText 88 = .ok (.aload 6, 2) := by decide +kernel
theorem dX3_replaceText_90 : decode cX3_replaceText 90 = .ok (.aload 7, 2) := by decide +kernel
theorem dX3_replaceText_92 : decode cX3_replaceText 92 = .ok (.invokevirtual 173, 3) := by decide +kernel
theorem dX3_replaceText_95 : decode cX3_replaceText 95 = .ok (.aload_n 0, 1) := by decide +kernel
theorem dX3_replaceText_96 : decode cX3_replaceText 96 = .ok (.iload 4, 2) := by decide +kernel
theorem dX3_replaceText_98 : decode cX3_replaceText 98 = .ok (.invokevirtual 71, 3) := by decide +kernel
theorem dX3_replaceText_101 : decode cX3_replaceText 101 = .ok (.ireturn, 1) := by decide +kernel
theorem dX3_trim_0 : decode cX3_trim 0 = .ok (.aload_n 0, 1) := by decide +kernel
theorem dX3_trim_1 : decode cX3_trim 1 = .ok (.iload_n 1, 1) := by decide +kernel
theorem dX3_trim_2 : decode cX3_trim 2 = .ok (.iconst 0, 1) := by decide +kernel
theorem dX3_trim_3 : decode cX3_trim 3 = .ok (.iload_n 2, 1) := by decide +kernel
theorem dX3_trim_4 : decode cX3_trim 4 = .ok (.invokevirtual 177, 3) := by decide +kernel
theorem dX3_trim_7 : decode cX3_trim 7 = .ok (.ireturn, 1) := by decide +kernel
theorem dX3_strip_0 : decode cX3_strip 0 = .ok (.aload_n 0, 1) := by decide +kernel
theorem dX3_strip_1 : decode cX3_strip 1 = .ok (.iload_n 1, 1) := by decide +kernel
theorem dX3_strip_2 : decode cX3_strip 2 = .ok (.iconst 1, 1) := by decide +kernel
theorem dX3_strip_3 : decode cX3_strip 3 = .ok (.iload_n 2, 1) := by decide +kernel
theorem dX3_strip_4 : decode cX3_strip 4 = .ok (.invokevirtual 177, 3) := by decide +kernel
theorem dX3_strip_7 : decode cX3_strip 7 = .ok (.ireturn, 1) := by decide +kernel
theorem dX3_repeat_0 : decode cX3_repeat 0 = .ok (.aload_n 0, 1) := by decide +kernel
theorem dX3_repeat_1 : decode cX3_repeat 1 = .ok (.getfield 10, 3) := by decide +kernel
theorem dX3_repeat_4 : decode cX3_repeat 4 = .ok (.iload_n 1, 1) := by decide +kernel
theorem dX3_repeat_5 : decode cX3_repeat 5 = .ok (.invokevirtual 39, 3) := by decide +kernel
theorem dX3_repeat_8 : decode cX3_repeat 8 = .ok (.astore 4, 2) := by decide +kernel
theorem dX3_repeat_10 : decode cX3_repeat 10 = .ok (.iload_n 2, 1) := by decide +kernel
theorem dX3_repeat_11 : decode cX3_repeat 11 = .ok (.ifCond .ge 6, 3) := by decide +kernel
theorem dX3_repeat_14 : decode cX3_repeat 14 = .ok (.ldc 181, 2) := by decide +kernel
theorem dX3_repeat_16 : decode cX3_repeat 16 = .ok (.ireturn, 1) := by decide +kernel
theorem dX3_repeat_17 : decode cX3_repeat 17 = .ok (.aload 4, 2) := by decide +kernel
theorem dX3_repeat_19 : decode cX3_repeat 19 = .ok (.invokevirtual 43, 3) := by decide +kernel
theorem dX3_repeat_22 : decode cX3_repeat 22 = .ok (.i2l, 1) := by decide +kernel
theorem dX3_repeat_23 : decode cX3_repeat 23 = .ok (.iload_n 2, 1) := by decide +kernel
theorem dX3_repeat_24 : decode cX3_repeat 24 = .ok (.i2l, 1) := by decide +kernel
theorem dX3_repeat_25 : decode cX3_repeat 25 = .ok (.lmul, 1) := by decide +kernel
theorem dX3_repeat_26 : decode cX3_repeat 26 = .ok (.ldc2_w 182, 3) := by decide +kernel
theorem dX3_repeat_29 : decode cX3_repeat 29 = .ok (.lcmp, 1) := by decide +kernel
theorem dX3_repeat_30 : decode cX3_repeat 30 = .ok (.ifCond .le 6, 3) := by decide +kernel
theorem dX3_repeat_33 : decode cX3_repeat 33 = .ok (.ldc 55, 2) := by decide +kernel
theorem dX3_repeat_35 : decode cX3_repeat 35 = .ok (.ireturn, 1) := by decide +kernel
theorem dX3_repeat_36 : decode cX3_repeat 36 = .ok (.aload_n 0, 1) := by decide +kernel
theorem dX3_repeat_37 : decode cX3_repeat 37 = .ok (.getfield 25, 3) := by decide +kernel
theorem dX3_repeat_40 : decode cX3_repeat 40 = .ok (.invokevirtual 47, 3) := by decide +kernel
theorem dX3_repeat_43 : decode cX3_repeat 43 = .ok (.aload 4, 2) := by decide +kernel
theorem dX3_repeat_45 : decode cX3_repeat 45 = .ok (.invokevirtual 43, 3) := by decide +kernel
theorem dX3_repeat_48 : decode cX3_repeat 48 = .ok (.ifCond .ne 7, 3) := by decide +kernel
theorem dX3_repeat_51 : decode cX3_repeat 51 = .ok (.iconst 0, 1) := by decide +kernel
theorem dX3_repeat_52 : decode cX3_repeat 52 = .ok (.goto 4, 3) := by decide +kernel
theorem dX3_repeat_55 : decode cX3_repeat 55 = .ok (.iload_n 2, 1) := by decide +kernel
theorem dX3_repeat_56 : decode cX3_repeat 56 = .ok (.istore 5, 2) := by decide +kernel
theorem dX3_repeat_58 : decode cX3_repeat 58 = .ok (.iconst 0, 1) := by decide +kernel
theorem dX3_repeat_59 : decode cX3_repeat 59 = .ok (.istore 6, 2) := by decide +kernel
theorem dX3_repeat_61 : decode cX3_repeat 61 = .ok (.iload 6, 2) := by decide +kernel
theorem dX3_repeat_63 : decode cX3_repeat 63 = .ok (.iload 5, 2) := by decide +kernel
theorem dX3_repeat_65 : decode cX3_repeat 65 = .ok (.if_icmp .ge 18, 3) := by decide +kernel
theorem dX3_repeat_68 : decode cX3_repeat 68 = .ok (.aload_n 0, 1) := by decide +kernel
theorem dX3_repeat_69 : decode cX3_repeat 69 = .ok (.getfield 25, 3) := by decide +kernel
theorem dX3_repeat_72 : decode cX3_repeat 72 = .ok (.aload 4, 2) := by decide +kernel
theorem dX3_repeat_74 : decode cX3_repeat 74 = .ok (.invokevirtual 79, 3) := by decide +kernel
theorem dX3_repeat_77 : decode cX3_repeat 77 = .ok (.iinc 6 1, 3) := by decide +kernel
theorem dX3_repeat_80 : decode cX3_repeat 80 = .ok (.goto (-19), 3) := by decide +kernel
theorem dX3_repeat_83 : decode cX3_repeat 83 = .ok (.aload_n 0, 1) := by decide +kernel
theorem dX3_repeat_84 : decode cX3_repeat 84 = .ok (.iload_n 3, 1) := by decide +kernel
theorem dX3_repeat_85 : decode cX3_repeat 85 = .ok (.invokevirtual 71, 3) := by decide +kernel
theorem dX3_repeat_88 : decode cX3_repeat 88 = .ok (.ireturn, 1) := by decide +kernel
theorem dX3_turn_0 : decode cX3_turn 0 = .ok (.aload_n 0, 1) := by decide +kernel
theorem dX3_turn_1 : decode cX3_turn 1 = .ok (.getfield 25, 3) := by decide +kernel
theorem dX3_turn_4 : decode cX3_turn 4 = .ok (.invokevirtual 47, 3) := by decide +kernel
theorem dX3_turn_7 : decode cX3_turn 7 = .ok (.aload_n 0, 1) := by decide +kernel
theorem dX3_turn_8 : decode cX3_turn 8 = .ok (.getfield 25, 3) := by decide +kernel
theorem dX3_turn_11 : decode cX3_turn 11 = .ok (.aload_n 0, 1) := by decide +kernel
theorem dX3_turn_12 : decode cX3_turn 12 = .ok (.getfield 10, 3) := by decide +kernel
theorem dX3_turn_15 : decode cX3_turn 15 = .ok (.iload_n 1, 1) := by decide +kernel
theorem dX3_turn_16 : decode cX3_turn 16 = .ok (.invokevirtual 39, 3) := by decide +kernel
theorem dX3_turn_19 : decode cX3_turn 19 = .ok (.invokevirtual 98, 3) := by decide +kernel
theorem dX3_turn_22 : decode cX3_turn 22 = .ok (.aload_n 0, 1) := by decide +kernel
theorem dX3_turn_23 : decode cX3_turn 23 = .ok (.iload_n 2, 1) := by decide +kernel
theorem dX3_turn_24 : decode cX3_turn 24 = .ok (.invokevirtual 71, 3) := by decide +kernel
theorem dX3_turn_27 : decode cX3_turn 27 = .ok (.ireturn, 1) := by decide +kernel
theorem dX3_part_0 : decode cX3_part 0 = .ok (.iload_n 2, 1) := by decide +kernel
theorem dX3_part_1 : decode cX3_part 1 = .ok (.invokestatic 50, 3) := by decide +kernel
theorem dX3_part_4 : decode cX3_part 4 = .ok (.ifCond .eq 13, 3) := by decide +kernel
theorem dX3_part_7 : decode cX3_part 7 = .ok (.ldc 184, 2) := by decide +kernel
theorem dX3_part_9 : decode cX3_part 9 = .ok (.iload_n 2, 1) := by decide +kernel
theorem dX3_part_10 : decode cX3_part 10 = .ok (.i2c, 1) := by decide +kernel
theorem dX3_part_11 : decode cX3_part 11 = .ok (.invokevirtual 186, 3) := by decide +kernel
theorem dX3_part_14 : decode cX3_part 14 = .ok (.ifCond .lt 6, 3) := by decide +kernel
theorem dX3_part_17 : decode cX3_part 17 = .ok (.ldc 54, 2) := by decide +kernel
theorem dX3_part_19 : decode cX3_part 19 = .ok (.ireturn, 1) := by decide +kernel
theorem dX3_part_20 : decode cX3_part 20 = .ok (.aload_n 0, 1) := by decide +kernel
theorem dX3_part_21 : decode cX3_part 21 = .ok (.getfield 10, 3) := by decide +kernel
theorem dX3_part_24 : decode cX3_part 24 = .ok (.getfield 191, 3) := by decide +kernel
theorem dX3_part_27 : decode cX3_part 27 = .ok (.aload_n 0, 1) := by decide +kernel
theorem dX3_part_28 : decode cX3_part 28 = .ok (.getfield 10, 3) := by decide +kernel
theorem dX3_part_31 : decode cX3_part 31 = .ok (.iload_n 1, 1) := by decide +kernel
theorem dX3_part_32 : decode cX3_part 32 = .ok (.invokevirtual 39, 3) := by decide +kernel
theorem dX3_part_35 : decode cX3_part 35 = .ok (.iload_n 2, 1) := by decide +kernel
theorem dX3_part_36 : decode cX3_part 36 = .ok (.iload_n 3, 1) := by decide +kernel
theorem dX3_part_37 : decode cX3_part 37 = .ok (.invokevirtual 194, 3) := by decide +kernel
theorem dX3_part_40 : decode cX3_part 40 = .ok (.aload_n 0, 1) := by decide +kernel
theorem dX3_part_41 : decode cX3_part 41 = .ok (.getfield 10, 3) := by decide +kernel
theorem dX3_part_44 : decode cX3_part 44 = .ok (.getfield 191, 3) := by decide +kernel
theorem dX3_part_47 : decode cX3_part 47 = .ok (.invokevirtual 197, 3) := by decide +kernel
theorem dX3_part_50 : decode cX3_part 50 = .ok (.ireturn, 1) := by decide +kernel
theorem dX3_pieces_0 : decode cX3_pieces 0 = .ok (.aload_n 0, 1) := by decide +kernel
theorem dX3_pieces_1 : decode cX3_pieces 1 = .ok (.getfield 10, 3) := by decide +kernel
theorem dX3_pieces_4 : decode cX3_pieces 4 = .ok (.getfield 191, 3) := by decide +kernel
theorem dX3_pieces_7 : decode cX3_pieces 7 = .ok (.invokevirtual 197, 3) := by decide +kernel
theorem dX3_pieces_10 : decode cX3_pieces 10 = .ok (.ireturn, 1) := by decide +kernel
theorem dX3_piece_0 : decode cX3_piece 0 = .ok (.iload_n 1, 1) := by decide +kernel
theorem dX3_piece_1 : decode cX3_piece 1 = .ok (.ifCond .lt 17, 3) := by decide +kernel
theorem dX3_piece_4 : decode cX3_piece 4 = .ok (.iload_n 1, 1) := by decide +kernel
theorem dX3_piece_5 : decode cX3_piece 5 = .ok (.aload_n 0, 1) := by decide +kernel
theorem dX3_piece_6 : decode cX3_piece 6 = .ok (.getfield 10, 3) := by decide +kernel
theorem dX3_piece_9 : decode cX3_piece 9 = .ok (.getfield 191, 3) := by decide +kernel
theorem dX3_piece_12 : decode cX3_piece 12 = .ok (.invokevirtual 197, 3) := by decide +kernel
theorem dX3_piece_15 : decode cX3_piece 15 = .ok (.if_icmp .lt 6, 3) := by decide +kernel
theorem dX3_piece_18 : decode cX3_piece 18 = .ok (.ldc 82, 2) := by decide +kernel
theorem dX3_piece_20 : decode cX3_piece 20 = .ok (.ireturn, 1) := by decide +kernel
theorem dX3_piece_21 : decode cX3_piece 21 = .ok (.aload_n 0, 1) := by decide +kernel
theorem dX3_piece_22 : decode cX3_piece 22 = .ok (.getfield 25, 3) := by decide +kernel
theorem dX3_piece_25 : decode cX3_piece 25 = .ok (.invokevirtual 47, 3) := by decide +kernel
theorem dX3_piece_28 : decode cX3_piece 28 = .ok (.aload_n 0, 1) := by decide +kernel
theorem dX3_piece_29 : decode cX3_piece 29 = .ok (.getfield 10, 3) := by decide +kernel
theorem dX3_piece_32 : decode cX3_piece 32 = .ok (.getfield 191, 3) := by decide +kernel
theorem dX3_piece_35 : decode cX3_piece 35 = .ok (.aload_n 0, 1) := by decide +kernel
theorem dX3_piece_36 : decode cX3_piece 36 = .ok (.getfield 25, 3) := by decide +kernel
theorem dX3_piece_39 : decode cX3_piece 39 = .ok (.iload_n 1, 1) := by decide +kernel
theorem dX3_piece_40 : decode cX3_piece 40 = .ok (.invokevirtual 198, 3) := by decide +kernel
theorem dX3_piece_43 : decode cX3_piece 43 = .ok (.aload_n 0, 1) := by decide +kernel
theorem dX3_piece_44 : decode cX3_piece 44 = .ok (.iload_n 2, 1) := by decide +kernel
theorem dX3_piece_45 : decode cX3_piece 45 = .ok (.invokevirtual 71, 3) := by decide +kernel
theorem dX3_piece_48 : decode cX3_piece 48 = .ok (.ireturn, 1) := by decide +kernel
theorem dX3_join_0 : decode cX3_join 0 = .ok (.iload_n 1, 1) := by decide +kernel
theorem dX3_join_1 : decode cX3_join 1 = .ok (.invokestatic 50, 3) := by decide +kernel
theorem dX3_join_4 : decode cX3_join 4 = .ok (.ifCond .ne 6, 3) := by decide +kernel
theorem dX3_join_7 : decode cX3_join 7 = .ok (.ldc 54, 2) := by decide +kernel
theorem dX3_join_9 : decode cX3_join 9 = .ok (.ireturn, 1) := by decide +kernel
theorem dX3_join_10 : decode cX3_join 10 = .ok (.aload_n 0, 1) := by decide +kernel
theorem dX3_join_11 : decode cX3_join 11 = .ok (.getfield 10, 3) := by decide +kernel
theorem dX3_join_14 : decode cX3_join 14 = .ok (.getfield 191, 3) := by decide +kernel
theorem dX3_join_17 : decode cX3_join 17 = .ok (.invokevirtual 202, 3) := by decide +kernel
theorem dX3_join_20 : decode cX3_join 20 = .ok (.sipush 300, 3) := by decide +kernel
theorem dX3_join_23 : decode cX3_join 23 = .ok (.if_icmp .le 6, 3) := by decide +kernel
theorem dX3_join_26 : decode cX3_join 26 = .ok (.ldc 55, 2) := by decide +kernel
theorem dX3_join_28 : decode cX3_join 28 = .ok (.ireturn, 1) := by decide +kernel
theorem dX3_join_29 : decode cX3_join 29 = .ok (.aload_n 0, 1) := by decide +kernel
theorem dX3_join_30 : decode cX3_join 30 = .ok (.getfield 25, 3) := by decide +kernel
theorem dX3_join_33 : decode cX3_join 33 = .ok (.invokevirtual 47, 3) := by decide +kernel
theorem dX3_join_36 : decode cX3_join 36 = .ok (.aload_n 0, 1) := by decide +kernel
theorem dX3_join_37 : decode cX3_join 37 = .ok (.getfield 10, 3) := by decide +kernel
theorem dX3_join_40 : decode cX3_join 40 = .ok (.getfield 191, 3) := by decide +kernel
theorem dX3_join_43 : decode cX3_join 43 = .ok (.aload_n 0, 1) := by decide +kernel
theorem dX3_join_44 : decode cX3_join 44 = .ok (.getfield 25, 3) := by decide +kernel
theorem dX3_join_47 : decode cX3_join 47 = .ok (.iload_n 1, 1) := by decide +kernel
theorem dX3_join_48 : decode cX3_join 48 = .ok (.invokevirtual 205, 3) := by decide +kernel
theorem dX3_join_51 : decode cX3_join 51 = .ok (.aload_n 0, 1) := by decide +kernel
theorem dX3_join_52 : decode cX3_join 52 = .ok (.iload_n 2, 1) := by decide +kernel
theorem dX3_join_53 : decode cX3_join 53 = .ok (.invokevirtual 71, 3) := by decide +kernel
theorem dX3_join_56 : decode cX3_join 56 = .ok (.ireturn, 1) := by decide +kernel
theorem dX3_count_0 : decode cX3_count 0 = .ok (.aload_n 0, 1) := by decide +kernel
theorem dX3_count_1 : decode cX3_count 1 = .ok (.getfield 10, 3) := by decide +kernel
theorem dX3_count_4 : decode cX3_count 4 = .ok (.iload_n 2, 1) := by decide +kernel
theorem dX3_count_5 : decode cX3_count 5 = .ok (.invokevirtual 39, 3) := by decide +kernel
theorem dX3_count_8 : decode cX3_count 8 = .ok (.astore_n 3, 1) := by decide +kernel
theorem dX3_count_9 : decode cX3_count 9 = .ok (.aload_n 3, 1) := by decide +kernel
theorem dX3_count_10 : decode cX3_count 10 = .ok (.invokevirtual 43, 3) := by decide +kernel
theorem dX3_count_13 : decode cX3_count 13 = .ok (.ifCond .ne 6, 3) := by decide +kernel
theorem dX3_count_16 : decode cX3_count 16 = .ok (.ldc 54, 2) := by decide +kernel
theorem dX3_count_18 : decode cX3_count 18 = .ok (.ireturn, 1) := by decide +kernel
theorem dX3_count_19 : decode cX3_count 19 = .ok (.aload_n 0, 1) := by decide +kernel
theorem dX3_count_20 : decode cX3_count 20 = .ok (.getfield 10, 3) := by decide +kernel
theorem dX3_count_23 : decode cX3_count 23 = .ok (.iload_n 1, 1) := by decide +kernel
theorem dX3_count_24 : decode cX3_count 24 = .ok (.invokevirtual 39, 3) := by decide +kernel
theorem dX3_count_27 : decode cX3_count 27 = .ok (.aload_n 3, 1) := by decide +kernel
theorem dX3_count_28 : decode cX3_count 28 = .ok (.invokevirtual 169, 3) := by decide +kernel
theorem dX3_count_31 : decode cX3_count 31 = .ok (.ireturn, 1) := by decide +kernel
theorem dX3_head_0 : decode cX3_head 0 = .ok (.aload_n 0, 1) := by decide +kernel
theorem dX3_head_1 : decode cX3_head 1 = .ok (.getfield 10, 3) := by decide +kernel
theorem dX3_head_4 : decode cX3_head 4 = .ok (.iload_n 1, 1) := by decide +kernel
theorem dX3_head_5 : decode cX3_head 5 = .ok (.invokevirtual 39, 3) := by decide +kernel
theorem dX3_head_8 : decode cX3_head 8 = .ok (.aload_n 0, 1) := by decide +kernel
theorem dX3_head_9 : decode cX3_head 9 = .ok (.getfield 10, 3) := by decide +kernel
theorem dX3_head_12 : decode cX3_head 12 = .ok (.iload_n 2, 1) := by decide +kernel
theorem dX3_head_13 : decode cX3_head 13 = .ok (.invokevirtual 39, 3) := by decide +kernel
theorem dX3_head_16 : decode cX3_head 16 = .ok (.invokevirtual 208, 3) := by decide +kernel
theorem dX3_head_19 : decode cX3_head 19 = .ok (.ireturn, 1) := by decide +kernel
theorem dX3_foot_0 : decode cX3_foot 0 = .ok (.aload_n 0, 1) := by decide +kernel
theorem dX3_foot_1 : decode cX3_foot 1 = .ok (.getfield 10, 3) := by decide +kernel
theorem dX3_foot_4 : decode cX3_foot 4 = .ok (.iload_n 1, 1) := by decide +kernel
theorem dX3_foot_5 : decode cX3_foot 5 = .ok (.invokevirtual 39, 3) := by decide +kernel
theorem dX3_foot_8 : decode cX3_foot 8 = .ok (.aload_n 0, 1) := by decide +kernel
theorem dX3_foot_9 : decode cX3_foot 9 = .ok (.getfield 10, 3) := by decide +kernel
theorem dX3_foot_12 : decode cX3_foot 12 = .ok (.iload_n 2, 1) := by decide +kernel
theorem dX3_foot_13 : decode cX3_foot 13 = .ok (.invokevirtual 39, 3) := by decide +kernel
theorem dX3_foot_16 : decode cX3_foot 16 = .ok (.invokevirtual 211, 3) := by decide +kernel
theorem dX3_foot_19 : decode cX3_foot 19 = .ok (.ireturn, 1) := by decide +kernel
theorem dX3_holds_0 : decode cX3_holds 0 = .ok (.aload_n 0, 1) := by decide +kernel
theorem dX3_holds_1 : decode cX3_holds 1 = .ok (.iload_n 1, 1) := by decide +kernel
theorem dX3_holds_2 : decode cX3_holds 2 = .ok (.iload_n 2, 1) := by decide +kernel
theorem dX3_holds_3 : decode cX3_holds 3 = .ok (.iload_n 3, 1) := by decide +kernel
theorem dX3_holds_4 : decode cX3_holds 4 = .ok (.invokevirtual 214, 3) := by decide +kernel
theorem dX3_holds_7 : decode cX3_holds 7 = .ok (.ifCond .eq 79, 3) := by decide +kernel
theorem dX3_holds_10 : decode cX3_holds 10 = .ok (.aload_n 0, 1) := by decide +kernel
theorem dX3_holds_11 : decode cX3_holds 11 = .ok (.iload_n 1, 1) := by decide +kernel
theorem dX3_holds_12 : decode cX3_holds 12 = .ok (.iload_n 2, 1) := by decide +kernel
theorem dX3_holds_13 : decode cX3_holds 13 = .ok (.iload_n 3, 1) := by decide +kernel
theorem dX3_holds_14 : decode cX3_holds 14 = .ok (.invokevirtual 217, 3) := by decide +kernel
theorem dX3_holds_17 : decode cX3_holds 17 = .ok (.ifCond .eq 69, 3) := by decide +kernel
theorem dX3_holds_20 : decode cX3_holds 20 = .ok (.aload_n 0, 1) := by decide +kernel
theorem dX3_holds_21 : decode cX3_holds 21 = .ok (.iload_n 1, 1) := by decide +kernel
theorem dX3_holds_22 : decode cX3_holds 22 = .ok (.iload_n 2, 1) := by decide +kernel
theorem dX3_holds_23 : decode cX3_holds 23 = .ok (.invokevirtual 220, 3) := by decide +kernel
theorem dX3_holds_26 : decode cX3_holds 26 = .ok (.ifCond .eq 60, 3) := by decide +kernel
theorem dX3_holds_29 : decode cX3_holds 29 = .ok (.aload_n 0, 1) := by decide +kernel
theorem dX3_holds_30 : decode cX3_holds 30 = .ok (.aload_n 0, 1) := by decide +kernel
theorem dX3_holds_31 : decode cX3_holds 31 = .ok (.getfield 10, 3) := by decide +kernel
theorem dX3_holds_34 : decode cX3_holds 34 = .ok (.iload_n 1, 1) := by decide +kernel
theorem dX3_holds_35 : decode cX3_holds 35 = .ok (.invokevirtual 39, 3) := by decide +kernel
theorem dX3_holds_38 : decode cX3_holds 38 = .ok (.aload_n 0, 1) := by decide +kernel
theorem dX3_holds_39 : decode cX3_holds 39 = .ok (.getfield 10, 3) := by decide +kernel
theorem dX3_holds_42 : decode cX3_holds 42 = .ok (.iload_n 2, 1) := by decide +kernel
theorem dX3_holds_43 : decode cX3_holds 43 = .ok (.invokevirtual 39, 3) := by decide +kernel
theorem dX3_holds_46 : decode cX3_holds 46 = .ok (.invokevirtual 224, 3) := by decide +kernel
theorem dX3_holds_49 : decode cX3_holds 49 = .ok (.ifCond .eq 37, 3) := by decide +kernel
theorem dX3_holds_52 : decode cX3_holds 52 = .ok (.aload_n 0, 1) := by decide +kernel
theorem dX3_holds_53 : decode cX3_holds 53 = .ok (.aload_n 0, 1) := by decide +kernel
theorem dX3_holds_54 : decode cX3_holds 54 = .ok (.getfield 10, 3) := by decide +kernel
theorem dX3_holds_57 : decode cX3_holds 57 = .ok (.iload_n 1, 1) := by decide +kernel
theorem dX3_holds_58 : decode cX3_holds 58 = .ok (.invokevirtual 39, 3) := by decide +kernel
theorem dX3_holds_61 : decode cX3_holds 61 = .ok (.invokevirtual 228, 3) := by decide +kernel
theorem dX3_holds_64 : decode cX3_holds 64 = .ok (.ifCond .eq 22, 3) := by decide +kernel
theorem dX3_holds_67 : decode cX3_holds 67 = .ok (.aload_n 0, 1) := by decide +kernel
theorem dX3_holds_68 : decode cX3_holds 68 = .ok (.aload_n 0, 1) := by decide +kernel
theorem dX3_holds_69 : decode cX3_holds 69 = .ok (.getfield 10, 3) := by decide +kernel
theorem dX3_holds_72 : decode cX3_holds 72 = .ok (.iload_n 2, 1) := by decide +kernel
theorem dX3_holds_73 : decode cX3_holds 73 = .ok (.invokevirtual 39, 3) := by decide +kernel
theorem dX3_holds_76 : decode cX3_holds 76 = .ok (.invokevirtual 228, 3) := by decide +kernel
theorem dX3_holds_79 : decode cX3_holds 79 = .ok (.ifCond .eq 7, 3) := by decide +kernel
theorem dX3_holds_82 : decode cX3_holds 82 = .ok (.iconst 1, 1) := by decide +kernel
theorem dX3_holds_83 : decode cX3_holds 83 = .ok (.goto 4, 3) := by decide +kernel
theorem dX3_holds_86 : decode cX3_holds 86 = .ok (.iconst 0, 1) := by decide +kernel
theorem dX3_holds_87 : decode cX3_holds 87 = .ok (.ireturn, 1) := by decide +kernel
theorem dX3_keep_0 : decode cX3_keep 0 = .ok (.aload_n 0, 1) := by decide +kernel
theorem dX3_keep_1 : decode cX3_keep 1 = .ok (.getfield 16, 3) := by decide +kernel
theorem dX3_keep_4 : decode cX3_keep 4 = .ok (.iload_n 1, 1) := by decide +kernel
theorem dX3_keep_5 : decode cX3_keep 5 = .ok (.iconst 2, 1) := by decide +kernel
theorem dX3_keep_6 : decode cX3_keep 6 = .ok (.invokestatic 232, 3) := by decide +kernel
theorem dX3_keep_9 : decode cX3_keep 9 = .ok (.aaload, 1) := by decide +kernel
theorem dX3_keep_10 : decode cX3_keep 10 = .ok (.aload_n 0, 1) := by decide +kernel
theorem dX3_keep_11 : decode cX3_keep 11 = .ok (.getfield 10, 3) := by decide +kernel
theorem dX3_keep_14 : decode cX3_keep 14 = .ok (.invokevirtual 237, 3) := by decide +kernel
theorem dX3_keep_17 : decode cX3_keep 17 = .ok (.aload_n 0, 1) := by decide +kernel
theorem dX3_keep_18 : decode cX3_keep 18 = .ok (.getfield 10, 3) := by decide +kernel
theorem dX3_keep_21 : decode cX3_keep 21 = .ok (.invokevirtual 240, 3) := by decide +kernel
theorem dX3_keep_24 : decode cX3_keep 24 = .ok (.ireturn, 1) := by decide +kernel
theorem dX3_back_0 : decode cX3_back 0 = .ok (.aload_n 0, 1) := by decide +kernel
theorem dX3_back_1 : decode cX3_back 1 = .ok (.getfield 10, 3) := by decide +kernel
theorem dX3_back_4 : decode cX3_back 4 = .ok (.aload_n 0, 1) := by decide +kernel
theorem dX3_back_5 : decode cX3_back 5 = .ok (.getfield 16, 3) := by decide +kernel
theorem dX3_back_8 : decode cX3_back 8 = .ok (.iload_n 1, 1) := by decide +kernel
theorem dX3_back_9 : decode cX3_back 9 = .ok (.iconst 2, 1) := by decide +kernel
theorem dX3_back_10 : decode cX3_back 10 = .ok (.invokestatic 232, 3) := by decide +kernel
theorem dX3_back_13 : decode cX3_back 13 = .ok (.aaload, 1) := by decide +kernel
theorem dX3_back_14 : decode cX3_back 14 = .ok (.invokevirtual 237, 3) := by decide +kernel
theorem dX3_back_17 : decode cX3_back 17 = .ok (.aload_n 0, 1) := by decide +kernel
theorem dX3_back_18 : decode cX3_back 18 = .ok (.getfield 10, 3) := by decide +kernel
theorem dX3_back_21 : decode cX3_back 21 = .ok (.invokevirtual 240, 3) := by decide +kernel
theorem dX3_back_24 : decode cX3_back 24 = .ok (.ireturn, 1) := by decide +kernel
theorem dX3_digest_0 : decode cX3_digest 0 = .ok (.ldc2_w 243, 3) := by decide +kernel
theorem dX3_digest_3 : decode cX3_digest 3 = .ok (.lstore_n 1, 1) := by decide +kernel
theorem dX3_digest_4 : decode cX3_digest 4 = .ok (.iconst 0, 1) := by decide +kernel
theorem dX3_digest_5 : decode cX3_digest 5 = .ok (.istore_n 3, 1) := by decide +kernel
theorem dX3_digest_6 : decode cX3_digest 6 = .ok (.iload_n 3, 1) := by decide +kernel
theorem dX3_digest_7 : decode cX3_digest 7 = .ok (.bipush 8, 2) := by decide +kernel
theorem dX3_digest_9 : decode cX3_digest 9 = .ok (.if_icmp .ge 32, 3) := by decide +kernel
theorem dX3_digest_12 : decode cX3_digest 12 = .ok (.aload_n 0, 1) := by decide +kernel
theorem dX3_digest_13 : decode cX3_digest 13 = .ok (.getfield 10, 3) := by decide +kernel
theorem dX3_digest_16 : decode cX3_digest 16 = .ok (.iload_n 3, 1) := by decide +kernel
theorem dX3_digest_17 : decode cX3_digest 17 = .ok (.invokevirtual 39, 3) := by decide +kernel
theorem dX3_digest_20 : decode cX3_digest 20 = .ok (.astore 4, 2) := by decide +kernel
theorem dX3_digest_22 : decode cX3_digest 22 = .ok (.aload 4, 2) := by decide +kernel
theorem dX3_digest_24 : decode cX3_digest 24 = .ok (.lload_n 1, 1) := by decide +kernel
theorem dX3_digest_25 : decode cX3_digest 25 = .ok (.iconst 0, 1) := by decide +kernel
theorem dX3_digest_26 : decode cX3_digest 26 = .ok (.aload 4, 2) := by decide +kernel
theorem dX3_digest_28 : decode cX3_digest 28 = .ok (.invokevirtual 43, 3) := by decide +kernel
theorem dX3_digest_31 : decode cX3_digest 31 = .ok (.invokevirtual 245, 3) := by decide +kernel
theorem dX3_digest_34 : decode cX3_digest 34 = .ok (.lstore_n 1, 1) := by decide +kernel
theorem dX3_digest_35 : decode cX3_digest 35 = .ok (.iinc 3 1, 3) := by decide +kernel
theorem dX3_digest_38 : decode cX3_digest 38 = .ok (.goto (-32), 3) := by decide +kernel
theorem dX3_digest_41 : decode cX3_digest 41 = .ok (.aload_n 0, 1) := by decide +kernel
theorem dX3_digest_42 : decode cX3_digest 42 = .ok (.getfield 10, 3) := by decide +kernel
theorem dX3_digest_45 : decode cX3_digest 45 = .ok (.getfield 191, 3) := by decide +kernel
theorem dX3_digest_48 : decode cX3_digest 48 = .ok (.lload_n 1, 1) := by decide +kernel
theorem dX3_digest_49 : decode cX3_digest 49 = .ok (.invokevirtual 249, 3) := by decide +kernel
theorem dX3_digest_52 : decode cX3_digest 52 = .ok (.lreturn, 1) := by decide +kernel
theorem dX3_lay_0 : decode cX3_lay 0 = .ok (.aload_n 0, 1) := by decide +kernel
theorem dX3_lay_1 : decode cX3_lay 1 = .ok (.getfield 10, 3) := by decide +kernel
theorem dX3_lay_4 : decode cX3_lay 4 = .ok (.iload_n 1, 1) := by decide +kernel
theorem dX3_lay_5 : decode cX3_lay 5 = .ok (.invokevirtual 39, 3) := by decide +kernel
theorem dX3_lay_8 : decode cX3_lay 8 = .ok (.astore_n 2, 1) := by decide +kernel
theorem dX3_lay_9 : decode cX3_lay 9 = .ok (.aload_n 2, 1) := by decide +kernel
theorem dX3_lay_10 : decode cX3_lay 10 = .ok (.aload_n 0, 1) := by decide +kernel
theorem dX3_lay_11 : decode cX3_lay 11 = .ok (.getfield 25, 3) := by decide +kernel
theorem dX3_lay_14 : decode cX3_lay 14 = .ok (.invokevirtual 67, 3) := by decide +kernel
theorem dX3_lay_17 : decode cX3_lay 17 = .ok (.aload_n 2, 1) := by decide +kernel
theorem dX3_lay_18 : decode cX3_lay 18 = .ok (.invokevirtual 43, 3) := by decide +kernel
theorem dX3_lay_21 : decode cX3_lay 21 = .ok (.ireturn, 1) := by decide +kernel
theorem dX3_layBare_0 : decode cX3_layBare 0 = .ok (.aload_n 0, 1) := by decide +kernel
theorem dX3_layBare_1 : decode cX3_layBare 1 = .ok (.getfield 10, 3) := by decide +kernel
theorem dX3_layBare_4 : decode cX3_layBare 4 = .ok (.iload_n 1, 1) := by decide +kernel
theorem dX3_layBare_5 : decode cX3_layBare 5 = .ok (.invokevirtual 39, 3) := by decide +kernel
theorem dX3_layBare_8 : decode cX3_layBare 8 = .ok (.astore 4, 2) := by decide +kernel
theorem dX3_layBare_10 : decode cX3_layBare 10 = .ok (.aload 4, 2) := by decide +kernel
theorem dX3_layBare_12 : decode cX3_layBare 12 = .ok (.iload_n 2, 1) := by decide +kernel
theorem dX3_layBare_13 : decode cX3_layBare 13 = .ok (.invokevirtual 101, 3) := by decide +kernel
theorem dX3_layBare_16 : decode cX3_layBare 16 = .ok (.istore 5, 2) := by decide +kernel
theorem dX3_layBare_18 : decode cX3_layBare 18 = .ok (.aload_n 0, 1) := by decide +kernel
theorem dX3_layBare_19 : decode cX3_layBare 19 = .ok (.getfield 25, 3) := by decide +kernel
theorem dX3_layBare_22 : decode cX3_layBare 22 = .ok (.invokevirtual 47, 3) := by decide +kernel
theorem dX3_layBare_25 : decode cX3_layBare 25 = .ok (.aload_n 0, 1) := by decide +kernel
theorem dX3_layBare_26 : decode cX3_layBare 26 = .ok (.getfield 25, 3) := by decide +kernel
theorem dX3_layBare_29 : decode cX3_layBare 29 = .ok (.aload 4, 2) := by decide +kernel
theorem dX3_layBare_31 : decode cX3_layBare 31 = .ok (.iload 5, 2) := by decide +kernel
theorem dX3_layBare_33 : decode cX3_layBare 33 = .ok (.aload 4, 2) := by decide +kernel
theorem dX3_layBare_35 : decode cX3_layBare 35 = .ok (.iload 5, 2) := by decide +kernel
theorem dX3_layBare_37 : decode cX3_layBare 37 = .ok (.iload_n 2, 1) := by decide +kernel
theorem dX3_layBare_38 : decode cX3_layBare 38 = .ok (.invokevirtual 253, 3) := by decide +kernel
theorem dX3_layBare_41 : decode cX3_layBare 41 = .ok (.invokevirtual 83, 3) := by decide +kernel
theorem dX3_layBare_44 : decode cX3_layBare 44 = .ok (.aload_n 0, 1) := by decide +kernel
theorem dX3_layBare_45 : decode cX3_layBare 45 = .ok (.iload_n 3, 1) := by decide +kernel
theorem dX3_layBare_46 : decode cX3_layBare 46 = .ok (.invokevirtual 71, 3) := by decide +kernel
theorem dX3_layBare_49 : decode cX3_layBare 49 = .ok (.ireturn, 1) := by decide +kernel
theorem dX3_firstPlaceHolds_0 : decode cX3_firstPlaceHolds 0 = .ok (.iconst 0, 1) := by decide +kernel
theorem dX3_firstPlaceHolds_1 : decode cX3_firstPlaceHolds 1 = .ok (.iload_n 3, 1) := by decide +kernel
theorem dX3_firstPlaceHolds_2 : decode cX3_firstPlaceHolds 2 = .ok (.aload_n 0, 1) := by decide +kernel
theorem dX3_firstPlaceHolds_3 : decode cX3_firstPlaceHolds 3 = .ok (.iload_n 1, 1) := by decide +kernel
theorem dX3_firstPlaceHolds_4 : decode cX3_firstPlaceHolds 4 = .ok (.invokevirtual 146, 3) := by decide +kernel
theorem dX3_firstPlaceHolds_7 : decode cX3_firstPlaceHolds 7 = .ok (.invokestatic 257, 3) := by decide +kernel
theorem dX3_firstPlaceHolds_10 : decode cX3_firstPlaceHolds 10 = .ok (.invokestatic 260, 3) := by decide +kernel
theorem dX3_firstPlaceHolds_13 : decode cX3_firstPlaceHolds 13 = .ok (.istore 4, 2) := by decide +kernel
theorem dX3_firstPlaceHolds_15 : decode cX3_firstPlaceHolds 15 = .ok (.aload_n 0, 1) := by decide +kernel
theorem dX3_firstPlaceHolds_16 : decode cX3_firstPlaceHolds 16 = .ok (.iload_n 1, 1) := by decide +kernel
theorem dX3_firstPlaceHolds_17 : decode cX3_firstPlaceHolds 17 = .ok (.iload_n 2, 1) := by decide +kernel
theorem dX3_firstPlaceHolds_18 : decode cX3_firstPlaceHolds 18 = .ok (.iload_n 3, 1) := by decide +kernel
theorem dX3_firstPlaceHolds_19 : decode cX3_firstPlaceHolds 19 = .ok (.invokevirtual 122, 3) := by decide +kernel
theorem dX3_firstPlaceHolds_22 : decode cX3_firstPlaceHolds 22 = .ok (.istore 5, 2) := by decide +kernel
theorem dX3_firstPlaceHolds_24 : decode cX3_firstPlaceHolds 24 = .ok (.iload 5, 2) := by decide +kernel
theorem dX3_firstPlaceHolds_26 : decode cX3_firstPlaceHolds 26 = .ok (.iconst (-1), 1) := by decide +kernel
theorem dX3_firstPlaceHolds_27 : decode cX3_firstPlaceHolds 27 = .ok (.if_icmp .ne 13, 3) := by decide +kernel
theorem dX3_firstPlaceHolds_30 : decode cX3_firstPlaceHolds 30 = .ok (.aload_n 0, 1) := by decide +kernel
theorem dX3_firstPlaceHolds_31 : decode cX3_firstPlaceHolds 31 = .ok (.iload_n 1, 1) := by decide +kernel
theorem dX3_firstPlaceHolds_32 : decode cX3_firstPlaceHolds 32 = .ok (.invokevirtual 146, 3) := by decide +kernel
theorem dX3_firstPlaceHolds_35 : decode cX3_firstPlaceHolds 35 = .ok (.iconst 1, 1) := by decide +kernel
theorem dX3_firstPlaceHolds_36 : decode cX3_firstPlaceHolds 36 = .ok (.iadd, 1) := by decide +kernel
theorem dX3_firstPlaceHolds_37 : decode cX3_firstPlaceHolds 37 = .ok (.goto 5, 3) := by decide +kernel
theorem dX3_firstPlaceHolds_40 : decode cX3_firstPlaceHolds 40 = .ok (.iload 5, 2) := by decide +kernel
theorem dX3_firstPlaceHolds_42 : decode cX3_firstPlaceHolds 42 = .ok (.istore 6, 2) := by decide +kernel
theorem dX3_firstPlaceHolds_44 : decode cX3_firstPlaceHolds 44 = .ok (.iload 4, 2) := by decide +kernel
theorem dX3_firstPlaceHolds_46 : decode cX3_firstPlaceHolds 46 = .ok (.istore 7, 2) := by decide +kernel
theorem dX3_firstPlaceHolds_48 : decode cX3_firstPlaceHolds 48 = .ok (.iload 7, 2) := by decide +kernel
theorem dX3_firstPlaceHolds_50 : decode cX3_firstPlaceHolds 50 = .ok (.iload 6, 2) := by decide +kernel
theorem dX3_firstPlaceHolds_52 : decode cX3_firstPlaceHolds 52 = .ok (.if_icmp .ge 22, 3) := by decide +kernel
theorem dX3_firstPlaceHolds_55 : decode cX3_firstPlaceHolds 55 = .ok (.aload_n 0, 1) := by decide +kernel
theorem dX3_firstPlaceHolds_56 : decode cX3_firstPlaceHolds 56 = .ok (.iload_n 1, 1) := by decide +kernel
theorem dX3_firstPlaceHolds_57 : decode cX3_firstPlaceHolds 57 = .ok (.iload_n 2, 1) := by decide +kernel
theorem dX3_firstPlaceHolds_58 : decode cX3_firstPlaceHolds 58 = .ok (.iload 7, 2) := by decide +kernel
theorem dX3_firstPlaceHolds_60 : decode cX3_firstPlaceHolds 60 = .ok (.invokevirtual 138, 3) := by decide +kernel
theorem dX3_firstPlaceHolds_63 : decode cX3_firstPlaceHolds 63 = .ok (.ifCond .eq 5, 3) := by decide +kernel
theorem dX3_firstPlaceHolds_66 : decode cX3_firstPlaceHolds 66 = .ok (.iconst 0, 1) := by decide +kernel
theorem dX3_firstPlaceHolds_67 : decode cX3_firstPlaceHolds 67 = .ok (.ireturn, 1) := by decide +kernel
theorem dX3_firstPlaceHolds_68 : decode cX3_firstPlaceHolds 68 = .ok (.iinc 7 1, 3) := by decide +kernel
theorem dX3_firstPlaceHolds_71 : decode cX3_firstPlaceHolds 71 = .ok (.goto (-23), 3) := by decide +kernel
theorem dX3_firstPlaceHolds_74 : decode cX3_firstPlaceHolds 74 = .ok (.iload 5, 2) := by decide +kernel
theorem dX3_firstPlaceHolds_76 : decode cX3_firstPlaceHolds 76 = .ok (.iconst (-1), 1) := by decide +kernel
theorem dX3_firstPlaceHolds_77 : decode cX3_firstPlaceHolds 77 = .ok (.if_icmp .eq 21, 3) := by decide +kernel
theorem dX3_firstPlaceHolds_80 : decode cX3_firstPlaceHolds 80 = .ok (.iload 5, 2) := by decide +kernel
theorem dX3_firstPlaceHolds_82 : decode cX3_firstPlaceHolds 82 = .ok (.iload 4, 2) := by decide +kernel
theorem dX3_firstPlaceHolds_84 : decode cX3_firstPlaceHolds 84 = .ok (.if_icmp .lt 18, 3) := by decide +kernel
theorem dX3_firstPlaceHolds_87 : decode cX3_firstPlaceHolds 87 = .ok (.aload_n 0, 1) := by decide +kernel
theorem dX3_firstPlaceHolds_88 : decode cX3_firstPlaceHolds 88 = .ok (.iload_n 1, 1) := by decide +kernel
theorem dX3_firstPlaceHolds_89 : decode cX3_firstPlaceHolds 89 = .ok (.iload_n 2, 1) := by decide +kernel
theorem dX3_firstPlaceHolds_90 : decode cX3_firstPlaceHolds 90 = .ok (.iload 5, 2) := by decide +kernel
theorem dX3_firstPlaceHolds_92 : decode cX3_firstPlaceHolds 92 = .ok (.invokevirtual 138, 3) := by decide +kernel
theorem dX3_firstPlaceHolds_95 : decode cX3_firstPlaceHolds 95 = .ok (.ifCond .eq 7, 3) := by decide +kernel
theorem dX3_firstPlaceHolds_98 : decode cX3_firstPlaceHolds 98 = .ok (.iconst 1, 1) := by decide +kernel
theorem dX3_firstPlaceHolds_99 : decode cX3_firstPlaceHolds 99 = .ok (.goto 4, 3) := by decide +kernel
theorem dX3_firstPlaceHolds_102 : decode cX3_firstPlaceHolds 102 = .ok (.iconst 0, 1) := by decide +kernel
theorem dX3_firstPlaceHolds_103 : decode cX3_firstPlaceHolds 103 = .ok (.ireturn, 1) := by decide +kernel
theorem dX3_lastPlaceHolds_0 : decode cX3_lastPlaceHolds 0 = .ok (.iload_n 3, 1) := by decide +kernel
theorem dX3_lastPlaceHolds_1 : decode cX3_lastPlaceHolds 1 = .ok (.aload_n 0, 1) := by decide +kernel
theorem dX3_lastPlaceHolds_2 : decode cX3_lastPlaceHolds 2 = .ok (.iload_n 1, 1) := by decide +kernel
theorem dX3_lastPlaceHolds_3 : decode cX3_lastPlaceHolds 3 = .ok (.invokevirtual 146, 3) := by decide +kernel
theorem dX3_lastPlaceHolds_6 : decode cX3_lastPlaceHolds 6 = .ok (.invokestatic 257, 3) := by decide +kernel
theorem dX3_lastPlaceHolds_9 : decode cX3_lastPlaceHolds 9 = .ok (.istore 4, 2) := by decide +kernel
theorem dX3_lastPlaceHolds_11 : decode cX3_lastPlaceHolds 11 = .ok (.aload_n 0, 1) := by decide +kernel
theorem dX3_lastPlaceHolds_12 : decode cX3_lastPlaceHolds 12 = .ok (.iload_n 1, 1) := by decide +kernel
theorem dX3_lastPlaceHolds_13 : decode cX3_lastPlaceHolds 13 = .ok (.iload_n 2, 1) := by decide +kernel
theorem dX3_lastPlaceHolds_14 : decode cX3_lastPlaceHolds 14 = .ok (.iload_n 3, 1) := by decide +kernel
theorem dX3_lastPlaceHolds_15 : decode cX3_lastPlaceHolds 15 = .ok (.invokevirtual 129, 3) := by decide +kernel
theorem dX3_lastPlaceHolds_18 : decode cX3_lastPlaceHolds 18 = .ok (.istore 5, 2) := by decide +kernel
theorem dX3_lastPlaceHolds_20 : decode cX3_lastPlaceHolds 20 = .ok (.iload 4, 2) := by decide +kernel
theorem dX3_lastPlaceHolds_22 : decode cX3_lastPlaceHolds 22 = .ok (.istore 6, 2) := by decide +kernel
theorem dX3_lastPlaceHolds_24 : decode cX3_lastPlaceHolds 24 = .ok (.iload 6, 2) := by decide +kernel
theorem dX3_lastPlaceHolds_26 : decode cX3_lastPlaceHolds 26 = .ok (.ifCond .lt 29, 3) := by decide +kernel
theorem dX3_lastPlaceHolds_29 : decode cX3_lastPlaceHolds 29 = .ok (.iload 6, 2) := by decide +kernel
theorem dX3_lastPlaceHolds_31 : decode cX3_lastPlaceHolds 31 = .ok (.iload 5, 2) := by decide +kernel
theorem dX3_lastPlaceHolds_33 : decode cX3_lastPlaceHolds 33 = .ok (.if_icmp .le 22, 3) := by decide +kernel
theorem dX3_lastPlaceHolds_36 : decode cX3_lastPlaceHolds 36 = .ok (.aload_n 0, 1) := by decide +kernel
theorem dX3_lastPlaceHolds_37 : decode cX3_lastPlaceHolds 37 = .ok (.iload_n 1, 1) := by decide +kernel
theorem dX3_lastPlaceHolds_38 : decode cX3_lastPlaceHolds 38 = .ok (.iload_n 2, 1) := by decide +kernel
theorem dX3_lastPlaceHolds_39 : decode cX3_lastPlaceHolds 39 = .ok (.iload 6, 2) := by decide +kernel
theorem dX3_lastPlaceHolds_41 : decode cX3_lastPlaceHolds 41 = .ok (.invokevirtual 138, 3) := by decide +kernel
theorem dX3_lastPlaceHolds_44 : decode cX3_lastPlaceHolds 44 = .ok (.ifCond .eq 5, 3) := by decide +kernel
theorem dX3_lastPlaceHolds_47 : decode cX3_lastPlaceHolds 47 = .ok (.iconst 0, 1) := by decide +kernel
theorem dX3_lastPlaceHolds_48 : decode cX3_lastPlaceHolds 48 = .ok (.ireturn, 1) := by decide +kernel
theorem dX3_lastPlaceHolds_49 : decode cX3_lastPlaceHolds 49 = .ok (.iinc 6 (-1), 3) := by decide +kernel
theorem dX3_lastPlaceHolds_52 : decode cX3_lastPlaceHolds 52 = .ok (.goto (-28), 3) := by decide +kernel
theorem dX3_lastPlaceHolds_55 : decode cX3_lastPlaceHolds 55 = .ok (.iload 5, 2) := by decide +kernel
theorem dX3_lastPlaceHolds_57 : decode cX3_lastPlaceHolds 57 = .ok (.iconst (-1), 1) := by decide +kernel
theorem dX3_lastPlaceHolds_58 : decode cX3_lastPlaceHolds 58 = .ok (.if_icmp .eq 21, 3) := by decide +kernel
theorem dX3_lastPlaceHolds_61 : decode cX3_lastPlaceHolds 61 = .ok (.iload 5, 2) := by decide +kernel
theorem dX3_lastPlaceHolds_63 : decode cX3_lastPlaceHolds 63 = .ok (.iload 4, 2) := by decide +kernel
theorem dX3_lastPlaceHolds_65 : decode cX3_lastPlaceHolds 65 = .ok (.if_icmp .gt 18, 3) := by decide +kernel
theorem dX3_lastPlaceHolds_68 : decode cX3_lastPlaceHolds 68 = .ok (.aload_n 0, 1) := by decide +kernel
theorem dX3_lastPlaceHolds_69 : decode cX3_lastPlaceHolds 69 = .ok (.iload_n 1, 1) := by decide +kernel
theorem dX3_lastPlaceHolds_70 : decode cX3_lastPlaceHolds 70 = .ok (.iload_n 2, 1) := by decide +kernel
theorem dX3_lastPlaceHolds_71 : decode cX3_lastPlaceHolds 71 = .ok (.iload 5, 2) := by decide +kernel
theorem dX3_lastPlaceHolds_73 : decode cX3_lastPlaceHolds 73 = .ok (.invokevirtual 138, 3) := by decide +kernel
theorem dX3_lastPlaceHolds_76 : decode cX3_lastPlaceHolds 76 = .ok (.ifCond .eq 7, 3) := by decide +kernel
theorem dX3_lastPlaceHolds_79 : decode cX3_lastPlaceHolds 79 = .ok (.iconst 1, 1) := by decide +kernel
theorem dX3_lastPlaceHolds_80 : decode cX3_lastPlaceHolds 80 = .ok (.goto 4, 3) := by decide +kernel
theorem dX3_lastPlaceHolds_83 : decode cX3_lastPlaceHolds 83 = .ok (.iconst 0, 1) := by decide +kernel
theorem dX3_lastPlaceHolds_84 : decode cX3_lastPlaceHolds 84 = .ok (.ireturn, 1) := by decide +kernel
theorem dX3_orderHolds_0 : decode cX3_orderHolds 0 = .ok (.aload_n 0, 1) := by decide +kernel
theorem dX3_orderHolds_1 : decode cX3_orderHolds 1 = .ok (.iload_n 1, 1) := by decide +kernel
theorem dX3_orderHolds_2 : decode cX3_orderHolds 2 = .ok (.iload_n 2, 1) := by decide +kernel
theorem dX3_orderHolds_3 : decode cX3_orderHolds 3 = .ok (.invokevirtual 263, 3) := by decide +kernel
theorem dX3_orderHolds_6 : decode cX3_orderHolds 6 = .ok (.istore_n 3, 1) := by decide +kernel
theorem dX3_orderHolds_7 : decode cX3_orderHolds 7 = .ok (.iload_n 3, 1) := by decide +kernel
theorem dX3_orderHolds_8 : decode cX3_orderHolds 8 = .ok (.aload_n 0, 1) := by decide +kernel
theorem dX3_orderHolds_9 : decode cX3_orderHolds 9 = .ok (.iload_n 2, 1) := by decide +kernel
theorem dX3_orderHolds_10 : decode cX3_orderHolds 10 = .ok (.iload_n 1, 1) := by decide +kernel
theorem dX3_orderHolds_11 : decode cX3_orderHolds 11 = .ok (.invokevirtual 263, 3) := by decide +kernel
theorem dX3_orderHolds_14 : decode cX3_orderHolds 14 = .ok (.ineg, 1) := by decide +kernel
theorem dX3_orderHolds_15 : decode cX3_orderHolds 15 = .ok (.if_icmp .ne 21, 3) := by decide +kernel
theorem dX3_orderHolds_18 : decode cX3_orderHolds 18 = .ok (.iload_n 3, 1) := by decide +kernel
theorem dX3_orderHolds_19 : decode cX3_orderHolds 19 = .ok (.ifCond .ne 7, 3) := by decide +kernel
theorem dX3_orderHolds_22 : decode cX3_orderHolds 22 = .ok (.iconst 1, 1) := by decide +kernel
theorem dX3_orderHolds_23 : decode cX3_orderHolds 23 = .ok (.goto 4, 3) := by decide +kernel
theorem dX3_orderHolds_26 : decode cX3_orderHolds 26 = .ok (.iconst 0, 1) := by decide +kernel
theorem dX3_orderHolds_27 : decode cX3_orderHolds 27 = .ok (.aload_n 0, 1) := by decide +kernel
theorem dX3_orderHolds_28 : decode cX3_orderHolds 28 = .ok (.iload_n 1, 1) := by decide +kernel
theorem dX3_orderHolds_29 : decode cX3_orderHolds 29 = .ok (.iload_n 2, 1) := by decide +kernel
theorem dX3_orderHolds_30 : decode cX3_orderHolds 30 = .ok (.invokevirtual 264, 3) := by decide +kernel
theorem dX3_orderHolds_33 : decode cX3_orderHolds 33 = .ok (.if_icmp .eq 5, 3) := by decide +kernel
theorem dX3_orderHolds_36 : decode cX3_orderHolds 36 = .ok (.iconst 0, 1) := by decide +kernel
theorem dX3_orderHolds_37 : decode cX3_orderHolds 37 = .ok (.ireturn, 1) := by decide +kernel
theorem dX3_orderHolds_38 : decode cX3_orderHolds 38 = .ok (.aload_n 0, 1) := by decide +kernel
theorem dX3_orderHolds_39 : decode cX3_orderHolds 39 = .ok (.iload_n 1, 1) := by decide +kernel
theorem dX3_orderHolds_40 : decode cX3_orderHolds 40 = .ok (.iload_n 2, 1) := by decide +kernel
theorem dX3_orderHolds_41 : decode cX3_orderHolds 41 = .ok (.invokevirtual 267, 3) := by decide +kernel
theorem dX3_orderHolds_44 : decode cX3_orderHolds 44 = .ok (.istore 4, 2) := by decide +kernel
theorem dX3_orderHolds_46 : decode cX3_orderHolds 46 = .ok (.iload 4, 2) := by decide +kernel
theorem dX3_orderHolds_48 : decode cX3_orderHolds 48 = .ok (.aload_n 0, 1) := by decide +kernel
theorem dX3_orderHolds_49 : decode cX3_orderHolds 49 = .ok (.iload_n 1, 1) := by decide +kernel
theorem dX3_orderHolds_50 : decode cX3_orderHolds 50 = .ok (.invokevirtual 146, 3) := by decide +kernel
theorem dX3_orderHolds_53 : decode cX3_orderHolds 53 = .ok (.if_icmp .ge 38, 3) := by decide +kernel
theorem dX3_orderHolds_56 : decode cX3_orderHolds 56 = .ok (.iload 4, 2) := by decide +kernel
theorem dX3_orderHolds_58 : decode cX3_orderHolds 58 = .ok (.aload_n 0, 1) := by decide +kernel
theorem dX3_orderHolds_59 : decode cX3_orderHolds 59 = .ok (.iload_n 2, 1) := by decide +kernel
theorem dX3_orderHolds_60 : decode cX3_orderHolds 60 = .ok (.invokevirtual 146, 3) := by decide +kernel
theorem dX3_orderHolds_63 : decode cX3_orderHolds 63 = .ok (.if_icmp .ge 28, 3) := by decide +kernel
theorem dX3_orderHolds_66 : decode cX3_orderHolds 66 = .ok (.iload_n 3, 1) := by decide +kernel
theorem dX3_orderHolds_67 : decode cX3_orderHolds 67 = .ok (.aload_n 0, 1) := by decide +kernel
theorem dX3_orderHolds_68 : decode cX3_orderHolds 68 = .ok (.iload_n 1, 1) := by decide +kernel
theorem dX3_orderHolds_69 : decode cX3_orderHolds 69 = .ok (.iload 4, 2) := by decide +kernel
theorem dX3_orderHolds_71 : decode cX3_orderHolds 71 = .ok (.invokevirtual 270, 3) := by decide +kernel
theorem dX3_orderHolds_74 : decode cX3_orderHolds 74 = .ok (.aload_n 0, 1) := by decide +kernel
theorem dX3_orderHolds_75 : decode cX3_orderHolds 75 = .ok (.iload_n 2, 1) := by decide +kernel
theorem dX3_orderHolds_76 : decode cX3_orderHolds 76 = .ok (.iload 4, 2) := by decide +kernel
theorem dX3_orderHolds_78 : decode cX3_orderHolds 78 = .ok (.invokevirtual 270, 3) := by decide +kernel
theorem dX3_orderHolds_81 : decode cX3_orderHolds 81 = .ok (.isub, 1) := by decide +kernel
theorem dX3_orderHolds_82 : decode cX3_orderHolds 82 = .ok (.if_icmp .ne 7, 3) := by decide +kernel
theorem dX3_orderHolds_85 : decode cX3_orderHolds 85 = .ok (.iconst 1, 1) := by decide +kernel
theorem dX3_orderHolds_86 : decode cX3_orderHolds 86 = .ok (.goto 4, 3) := by decide +kernel
theorem dX3_orderHolds_89 : decode cX3_orderHolds 89 = .ok (.iconst 0, 1) := by decide +kernel
theorem dX3_orderHolds_90 : decode cX3_orderHolds 90 = .ok (.ireturn, 1) := by decide +kernel
theorem dX3_orderHolds_91 : decode cX3_orderHolds 91 = .ok (.iload_n 3, 1) := by decide +kernel
theorem dX3_orderHolds_92 : decode cX3_orderHolds 92 = .ok (.aload_n 0, 1) := by decide +kernel
theorem dX3_orderHolds_93 : decode cX3_orderHolds 93 = .ok (.iload_n 1, 1) := by decide +kernel
theorem dX3_orderHolds_94 : decode cX3_orderHolds 94 = .ok (.invokevirtual 146, 3) := by decide +kernel
theorem dX3_orderHolds_97 : decode cX3_orderHolds 97 = .ok (.aload_n 0, 1) := by decide +kernel
theorem dX3_orderHolds_98 : decode cX3_orderHolds 98 = .ok (.iload_n 2, 1) := by decide +kernel
theorem dX3_orderHolds_99 : decode cX3_orderHolds 99 = .ok (.invokevirtual 146, 3) := by decide +kernel
theorem dX3_orderHolds_102 : decode cX3_orderHolds 102 = .ok (.isub, 1) := by decide +kernel
theorem dX3_orderHolds_103 : decode cX3_orderHolds 103 = .ok (.if_icmp .ne 7, 3) := by decide +kernel
theorem dX3_orderHolds_106 : decode cX3_orderHolds 106 = .ok (.iconst 1, 1) := by decide +kernel
theorem dX3_orderHolds_107 : decode cX3_orderHolds 107 = .ok (.goto 4, 3) := by decide +kernel
theorem dX3_orderHolds_110 : decode cX3_orderHolds 110 = .ok (.iconst 0, 1) := by decide +kernel
theorem dX3_orderHolds_111 : decode cX3_orderHolds 111 = .ok (.ireturn, 1) := by decide +kernel
theorem dX3_replacingHolds_0 : decode cX3_replacingHolds 0 = .ok (.aload_n 2, 1) := by decide +kernel
theorem dX3_replacingHolds_1 : decode cX3_replacingHolds 1 = .ok (.invokevirtual 43, 3) := by decide +kernel
theorem dX3_replacingHolds_4 : decode cX3_replacingHolds 4 = .ok (.ifCond .ne 5, 3) := by decide +kernel
theorem dX3_replacingHolds_7 : decode cX3_replacingHolds 7 = .ok (.iconst 1, 1) := by decide +kernel
theorem dX3_replacingHolds_8 : decode cX3_replacingHolds 8 = .ok (.ireturn, 1) := by decide +kernel
theorem dX3_replacingHolds_9 : decode cX3_replacingHolds 9 = .ok (.aload_n 0, 1) := by decide +kernel
theorem dX3_replacingHolds_10 : decode cX3_replacingHolds 10 = .ok (.getfield 25, 3) := by decide +kernel
theorem dX3_replacingHolds_13 : decode cX3_replacingHolds 13 = .ok (.invokevirtual 47, 3) := by decide +kernel
theorem dX3_replacingHolds_16 : decode cX3_replacingHolds 16 = .ok (.aload_n 0, 1) := by decide +kernel
theorem dX3_replacingHolds_17 : decode cX3_replacingHolds 17 = .ok (.getfield 25, 3) := by decide +kernel
theorem dX3_replacingHolds_20 : decode cX3_replacingHolds 20 = .ok (.aload_n 1, 1) := by decide +kernel
theorem dX3_replacingHolds_21 : decode cX3_replacingHolds 21 = .ok (.aload_n 2, 1) := by decide +kernel
theorem dX3_replacingHolds_22 : decode cX3_replacingHolds 22 = .ok (.aload_n 2, 1) := by decide +kernel
theorem dX3_replacingHolds_23 : decode cX3_replacingHolds 23 = .ok (.invokevirtual 173, 3) := by decide +kernel
theorem dX3_replacingHolds_26 : decode cX3_replacingHolds 26 = .ok (.aload_n 0, 1) := by decide +kernel
theorem dX3_replacingHolds_27 : decode cX3_replacingHolds 27 = .ok (.getfield 25, 3) := by decide +kernel
theorem dX3_replacingHolds_30 : decode cX3_replacingHolds 30 = .ok (.aload_n 1, 1) := by decide +kernel
theorem dX3_replacingHolds_31 : decode cX3_replacingHolds 31 = .ok (.iconst 1, 1) := by decide +kernel
theorem dX3_replacingHolds_32 : decode cX3_replacingHolds 32 = .ok (.invokevirtual 153, 3) := by decide +kernel
theorem dX3_replacingHolds_35 : decode cX3_replacingHolds 35 = .ok (.ifCond .ne 5, 3) := by decide +kernel
theorem dX3_replacingHolds_38 : decode cX3_replacingHolds 38 = .ok (.iconst 0, 1) := by decide +kernel
theorem dX3_replacingHolds_39 : decode cX3_replacingHolds 39 = .ok (.ireturn, 1) := by decide +kernel
theorem dX3_replacingHolds_40 : decode cX3_replacingHolds 40 = .ok (.aload_n 0, 1) := by decide +kernel
theorem dX3_replacingHolds_41 : decode cX3_replacingHolds 41 = .ok (.getfield 29, 3) := by decide +kernel
theorem dX3_replacingHolds_44 : decode cX3_replacingHolds 44 = .ok (.aload_n 2, 1) := by decide +kernel
theorem dX3_replacingHolds_45 : decode cX3_replacingHolds 45 = .ok (.invokevirtual 67, 3) := by decide +kernel
theorem dX3_replacingHolds_48 : decode cX3_replacingHolds 48 = .ok (.aload_n 0, 1) := by decide +kernel
theorem dX3_replacingHolds_49 : decode cX3_replacingHolds 49 = .ok (.getfield 29, 3) := by decide +kernel
theorem dX3_replacingHolds_52 : decode cX3_replacingHolds 52 = .ok (.aload_n 2, 1) := by decide +kernel
theorem dX3_replacingHolds_53 : decode cX3_replacingHolds 53 = .ok (.invokevirtual 79, 3) := by decide +kernel
theorem dX3_replacingHolds_56 : decode cX3_replacingHolds 56 = .ok (.aload_n 0, 1) := by decide +kernel
theorem dX3_replacingHolds_57 : decode cX3_replacingHolds 57 = .ok (.getfield 25, 3) := by decide +kernel
theorem dX3_replacingHolds_60 : decode cX3_replacingHolds 60 = .ok (.invokevirtual 47, 3) := by decide +kernel
theorem dX3_replacingHolds_63 : decode cX3_replacingHolds 63 = .ok (.aload_n 0, 1) := by decide +kernel
theorem dX3_replacingHolds_64 : decode cX3_replacingHolds 64 = .ok (.getfield 25, 3) := by decide +kernel
theorem dX3_replacingHolds_67 : decode cX3_replacingHolds 67 = .ok (.aload_n 1, 1) := by decide +kernel
theorem dX3_replacingHolds_68 : decode cX3_replacingHolds 68 = .ok (.aload_n 2, 1) := by decide +kernel
theorem dX3_replacingHolds_69 : decode cX3_replacingHolds 69 = .ok (.aload_n 0, 1) := by decide +kernel
theorem dX3_replacingHolds_70 : decode cX3_replacingHolds 70 = .ok (.getfield 29, 3) := by decide +kernel
theorem dX3_replacingHolds_73 : decode cX3_replacingHolds 73 = .ok (.invokevirtual 173, 3) := by decide +kernel
theorem dX3_replacingHolds_76 : decode cX3_replacingHolds 76 = .ok (.aload_n 0, 1) := by decide +kernel
theorem dX3_replacingHolds_77 : decode cX3_replacingHolds 77 = .ok (.getfield 25, 3) := by decide +kernel
theorem dX3_replacingHolds_80 : decode cX3_replacingHolds 80 = .ok (.invokevirtual 43, 3) := by decide +kernel
theorem dX3_replacingHolds_83 : decode cX3_replacingHolds 83 = .ok (.aload_n 1, 1) := by decide +kernel
theorem dX3_replacingHolds_84 : decode cX3_replacingHolds 84 = .ok (.invokevirtual 43, 3) := by decide +kernel
theorem dX3_replacingHolds_87 : decode cX3_replacingHolds 87 = .ok (.aload_n 1, 1) := by decide +kernel
theorem dX3_replacingHolds_88 : decode cX3_replacingHolds 88 = .ok (.aload_n 2, 1) := by decide +kernel
theorem dX3_replacingHolds_89 : decode cX3_replacingHolds 89 = .ok (.invokevirtual 169, 3) := by decide +kernel
theorem dX3_replacingHolds_92 : decode cX3_replacingHolds 92 = .ok (.aload_n 2, 1) := by decide +kernel
theorem dX3_replacingHolds_93 : decode cX3_replacingHolds 93 = .ok (.invokevirtual 43, 3) := by decide +kernel
theorem dX3_replacingHolds_96 : decode cX3_replacingHolds 96 = .ok (.imul, 1) := by decide +kernel
theorem dX3_replacingHolds_97 : decode cX3_replacingHolds 97 = .ok (.iadd, 1) := by decide +kernel
theorem dX3_replacingHolds_98 : decode cX3_replacingHolds 98 = .ok (.if_icmp .ne 7, 3) := by decide +kernel
theorem dX3_replacingHolds_101 : decode cX3_replacingHolds 101 = .ok (.iconst 1, 1) := by decide +kernel
theorem dX3_replacingHolds_102 : decode cX3_replacingHolds 102 = .ok (.goto 4, 3) := by decide +kernel
theorem dX3_replacingHolds_105 : decode cX3_replacingHolds 105 = .ok (.iconst 0, 1) := by decide +kernel
theorem dX3_replacingHolds_106 : decode cX3_replacingHolds 106 = .ok (.ireturn, 1) := by decide +kernel
theorem dX3_partingHolds_0 : decode cX3_partingHolds 0 = .ok (.aload_n 0, 1) := by decide +kernel
theorem dX3_partingHolds_1 : decode cX3_partingHolds 1 = .ok (.getfield 35, 3) := by decide +kernel
theorem dX3_partingHolds_4 : decode cX3_partingHolds 4 = .ok (.aload_n 1, 1) := by decide +kernel
theorem dX3_partingHolds_5 : decode cX3_partingHolds 5 = .ok (.bipush 44, 2) := by decide +kernel
theorem dX3_partingHolds_7 : decode cX3_partingHolds 7 = .ok (.iconst (-1), 1) := by decide +kernel
theorem dX3_partingHolds_8 : decode cX3_partingHolds 8 = .ok (.invokevirtual 194, 3) := by decide +kernel
theorem dX3_partingHolds_11 : decode cX3_partingHolds 11 = .ok (.aload_n 0, 1) := by decide +kernel
theorem dX3_partingHolds_12 : decode cX3_partingHolds 12 = .ok (.getfield 25, 3) := by decide +kernel
theorem dX3_partingHolds_15 : decode cX3_partingHolds 15 = .ok (.invokevirtual 47, 3) := by decide +kernel
theorem dX3_partingHolds_18 : decode cX3_partingHolds 18 = .ok (.aload_n 0, 1) := by decide +kernel
theorem dX3_partingHolds_19 : decode cX3_partingHolds 19 = .ok (.getfield 35, 3) := by decide +kernel
theorem dX3_partingHolds_22 : decode cX3_partingHolds 22 = .ok (.aload_n 0, 1) := by decide +kernel
theorem dX3_partingHolds_23 : decode cX3_partingHolds 23 = .ok (.getfield 25, 3) := by decide +kernel
theorem dX3_partingHolds_26 : decode cX3_partingHolds 26 = .ok (.bipush 44, 2) := by decide +kernel
theorem dX3_partingHolds_28 : decode cX3_partingHolds 28 = .ok (.invokevirtual 205, 3) := by decide +kernel
theorem dX3_partingHolds_31 : decode cX3_partingHolds 31 = .ok (.aload_n 0, 1) := by decide +kernel
theorem dX3_partingHolds_32 : decode cX3_partingHolds 32 = .ok (.getfield 25, 3) := by decide +kernel
theorem dX3_partingHolds_35 : decode cX3_partingHolds 35 = .ok (.aload_n 1, 1) := by decide +kernel
theorem dX3_partingHolds_36 : decode cX3_partingHolds 36 = .ok (.iconst 1, 1) := by decide +kernel
theorem dX3_partingHolds_37 : decode cX3_partingHolds 37 = .ok (.invokevirtual 153, 3) := by decide +kernel
theorem dX3_partingHolds_40 : decode cX3_partingHolds 40 = .ok (.ireturn, 1) := by decide +kernel
theorem dX3_isSign_0 : decode cX3_isSign 0 = .ok (.iload_n 0, 1) := by decide +kernel
theorem dX3_isSign_1 : decode cX3_isSign 1 = .ok (.ifCond .lt 13, 3) := by decide +kernel
theorem dX3_isSign_4 : decode cX3_isSign 4 = .ok (.iload_n 0, 1) := by decide +kernel
theorem dX3_isSign_5 : decode cX3_isSign 5 = .ok (.bipush 127, 2) := by decide +kernel
theorem dX3_isSign_7 : decode cX3_isSign 7 = .ok (.if_icmp .gt 7, 3) := by decide +kernel
theorem dX3_isSign_10 : decode cX3_isSign 10 = .ok (.iconst 1, 1) := by decide +kernel
theorem dX3_isSign_11 : decode cX3_isSign 11 = .ok (.goto 4, 3) := by decide +kernel
theorem dX3_isSign_14 : decode cX3_isSign 14 = .ok (.iconst 0, 1) := by decide +kernel
theorem dX3_isSign_15 : decode cX3_isSign 15 = .ok (.ireturn, 1) := by decide +kernel
theorem dX3_areSigns_0 : decode cX3_areSigns 0 = .ok (.iconst 0, 1) := by decide +kernel
theorem dX3_areSigns_1 : decode cX3_areSigns 1 = .ok (.istore_n 3, 1) := by decide +kernel
theorem dX3_areSigns_2 : decode cX3_areSigns 2 = .ok (.iload_n 3, 1) := by decide +kernel
theorem dX3_areSigns_3 : decode cX3_areSigns 3 = .ok (.iload_n 2, 1) := by decide +kernel
theorem dX3_areSigns_4 : decode cX3_areSigns 4 = .ok (.if_icmp .ge 22, 3) := by decide +kernel
theorem dX3_areSigns_7 : decode cX3_areSigns 7 = .ok (.lload_n 0, 1) := by decide +kernel
theorem dX3_areSigns_8 : decode cX3_areSigns 8 = .ok (.iload_n 3, 1) := by decide +kernel
theorem dX3_areSigns_9 : decode cX3_areSigns 9 = .ok (.invokestatic 63, 3) := by decide +kernel
theorem dX3_areSigns_12 : decode cX3_areSigns 12 = .ok (.invokestatic 50, 3) := by decide +kernel
theorem dX3_areSigns_15 : decode cX3_areSigns 15 = .ok (.ifCond .ne 5, 3) := by decide +kernel
theorem dX3_areSigns_18 : decode cX3_areSigns 18 = .ok (.iconst 0, 1) := by decide +kernel
theorem dX3_areSigns_19 : decode cX3_areSigns 19 = .ok (.ireturn, 1) := by decide +kernel
theorem dX3_areSigns_20 : decode cX3_areSigns 20 = .ok (.iinc 3 1, 3) := by decide +kernel
theorem dX3_areSigns_23 : decode cX3_areSigns 23 = .ok (.goto (-21), 3) := by decide +kernel
theorem dX3_areSigns_26 : decode cX3_areSigns 26 = .ok (.iconst 1, 1) := by decide +kernel
theorem dX3_areSigns_27 : decode cX3_areSigns 27 = .ok (.ireturn, 1) := by decide +kernel
theorem dX3_byteOf_0 : decode cX3_byteOf 0 = .ok (.lload_n 0, 1) := by decide +kernel
theorem dX3_byteOf_1 : decode cX3_byteOf 1 = .ok (.bipush 8, 2) := by decide +kernel
theorem dX3_byteOf_3 : decode cX3_byteOf 3 = .ok (.iload_n 2, 1) := by decide +kernel
theorem dX3_byteOf_4 : decode cX3_byteOf 4 = .ok (.imul, 1) := by decide +kernel
theorem dX3_byteOf_5 : decode cX3_byteOf 5 = .ok (.lushr, 1) := by decide +kernel
theorem dX3_byteOf_6 : decode cX3_byteOf 6 = .ok (.l2i, 1) := by decide +kernel
theorem dX3_byteOf_7 : decode cX3_byteOf 7 = .ok (.sipush 255, 3) := by decide +kernel
theorem dX3_byteOf_10 : decode cX3_byteOf 10 = .ok (.iand, 1) := by decide +kernel
theorem dX3_byteOf_11 : decode cX3_byteOf 11 = .ok (.ireturn, 1) := by decide +kernel
theorem dX3_isBlankSign_0 : decode cX3_isBlankSign 0 = .ok (.iload_n 0, 1) := by decide +kernel
theorem dX3_isBlankSign_1 : decode cX3_isBlankSign 1 = .ok (.bipush 9, 2) := by decide +kernel
theorem dX3_isBlankSign_3 : decode cX3_isBlankSign 3 = .ok (.if_icmp .lt 9, 3) := by decide +kernel
theorem dX3_isBlankSign_6 : decode cX3_isBlankSign 6 = .ok (.iload_n 0, 1) := by decide +kernel
theorem dX3_isBlankSign_7 : decode cX3_isBlankSign 7 = .ok (.bipush 13, 2) := by decide +kernel
theorem dX3_isBlankSign_9 : decode cX3_isBlankSign 9 = .ok (.if_icmp .le 15, 3) := by decide +kernel
theorem dX3_isBlankSign_12 : decode cX3_isBlankSign 12 = .ok (.iload_n 0, 1) := by decide +kernel
theorem dX3_isBlankSign_13 : decode cX3_isBlankSign 13 = .ok (.bipush 28, 2) := by decide +kernel
theorem dX3_isBlankSign_15 : decode cX3_isBlankSign 15 = .ok (.if_icmp .lt 13, 3) := by decide +kernel
theorem dX3_isBlankSign_18 : decode cX3_isBlankSign 18 = .ok (.iload_n 0, 1) := by decide +kernel
theorem dX3_isBlankSign_19 : decode cX3_isBlankSign 19 = .ok (.bipush 32, 2) := by decide +kernel
theorem dX3_isBlankSign_21 : decode cX3_isBlankSign 21 = .ok (.if_icmp .gt 7, 3) := by decide +kernel
theorem dX3_isBlankSign_24 : decode cX3_isBlankSign 24 = .ok (.iconst 1, 1) := by decide +kernel
theorem dX3_isBlankSign_25 : decode cX3_isBlankSign 25 = .ok (.goto 4, 3) := by decide +kernel
theorem dX3_isBlankSign_28 : decode cX3_isBlankSign 28 = .ok (.iconst 0, 1) := by decide +kernel
theorem dX3_isBlankSign_29 : decode cX3_isBlankSign 29 = .ok (.ireturn, 1) := by decide +kernel
theorem dX3_isLoose_0 : decode cX3_isLoose 0 = .ok (.iload_n 1, 1) := by decide +kernel
theorem dX3_isLoose_1 : decode cX3_isLoose 1 = .ok (.ifCond .eq 10, 3) := by decide +kernel
theorem dX3_isLoose_4 : decode cX3_isLoose 4 = .ok (.iload_n 0, 1) := by decide +kernel
theorem dX3_isLoose_5 : decode cX3_isLoose 5 = .ok (.invokestatic 273, 3) := by decide +kernel
theorem dX3_isLoose_8 : decode cX3_isLoose 8 = .ok (.goto 14, 3) := by decide +kernel
theorem dX3_isLoose_11 : decode cX3_isLoose 11 = .ok (.iload_n 0, 1) := by decide +kernel
theorem dX3_isLoose_12 : decode cX3_isLoose 12 = .ok (.bipush 32, 2) := by decide +kernel
theorem dX3_isLoose_14 : decode cX3_isLoose 14 = .ok (.if_icmp .gt 7, 3) := by decide +kernel
theorem dX3_isLoose_17 : decode cX3_isLoose 17 = .ok (.iconst 1, 1) := by decide +kernel
theorem dX3_isLoose_18 : decode cX3_isLoose 18 = .ok (.goto 4, 3) := by decide +kernel
theorem dX3_isLoose_21 : decode cX3_isLoose 21 = .ok (.iconst 0, 1) := by decide +kernel
theorem dX3_isLoose_22 : decode cX3_isLoose 22 = .ok (.ireturn, 1) := by decide +kernel
theorem dX3_asTold_0 : decode cX3_asTold 0 = .ok (.iload_n 0, 1) := by decide +kernel
theorem dX3_asTold_1 : decode cX3_asTold 1 = .ok (.bipush 65, 2) := by decide +kernel
theorem dX3_asTold_3 : decode cX3_asTold 3 = .ok (.if_icmp .lt 13, 3) := by decide +kernel
theorem dX3_asTold_6 : decode cX3_asTold 6 = .ok (.iload_n 0, 1) := by decide +kernel
theorem dX3_asTold_7 : decode cX3_asTold 7 = .ok (.bipush 90, 2) := by decide +kernel
theorem dX3_asTold_9 : decode cX3_asTold 9 = .ok (.if_icmp .gt 7, 3) := by decide +kernel
theorem dX3_asTold_12 : decode cX3_asTold 12 = .ok (.iconst 1, 1) := by decide +kernel
theorem dX3_asTold_13 : decode cX3_asTold 13 = .ok (.goto 4, 3) := by decide +kernel
theorem dX3_asTold_16 : decode cX3_asTold 16 = .ok (.iconst 0, 1) := by decide +kernel
theorem dX3_asTold_17 : decode cX3_asTold 17 = .ok (.istore_n 2, 1) := by decide +kernel
theorem dX3_asTold_18 : decode cX3_asTold 18 = .ok (.iload_n 2, 1) := by decide +kernel
theorem dX3_asTold_19 : decode cX3_asTold 19 = .ok (.ifCond .eq 17, 3) := by decide +kernel
theorem dX3_asTold_22 : decode cX3_asTold 22 = .ok (.iload_n 1, 1) := by decide +kernel
theorem dX3_asTold_23 : decode cX3_asTold 23 = .ok (.ifCond .ne 13, 3) := by decide +kernel
theorem dX3_asTold_26 : decode cX3_asTold 26 = .ok (.iload_n 0, 1) := by decide +kernel
theorem dX3_asTold_27 : decode cX3_asTold 27 = .ok (.bipush 65, 2) := by decide +kernel
theorem dX3_asTold_29 : decode cX3_asTold 29 = .ok (.isub, 1) := by decide +kernel
theorem dX3_asTold_30 : decode cX3_asTold 30 = .ok (.bipush 97, 2) := by decide +kernel
theorem dX3_asTold_32 : decode cX3_asTold 32 = .ok (.iadd, 1) := by decide +kernel
theorem dX3_asTold_33 : decode cX3_asTold 33 = .ok (.goto 4, 3) := by decide +kernel
theorem dX3_asTold_36 : decode cX3_asTold 36 = .ok (.iload_n 0, 1) := by decide +kernel
theorem dX3_asTold_37 : decode cX3_asTold 37 = .ok (.ireturn, 1) := by decide +kernel
theorem dX4_init_0 : decode cX4_init 0 = .ok (.aload_n 0, 1) := by decide +kernel
theorem dX4_init_1 : decode cX4_init 1 = .ok (.invokespecial 1, 3) := by decide +kernel
theorem dX4_init_4 : decode cX4_init 4 = .ok (.aload_n 0, 1) := by decide +kernel
theorem dX4_init_5 : decode cX4_init 5 = .ok (.sipush 2400, 3) := by decide +kernel
theorem dX4_init_8 : decode cX4_init 8 = .ok (.newarray .int, 2) := by decide +kernel
theorem dX4_init_10 : decode cX4_init 10 = .ok (.putfield 7, 3) := by decide +kernel
theorem dX4_init_13 : decode cX4_init 13 = .ok (.aload_n 0, 1) := by decide +kernel
theorem dX4_init_14 : decode cX4_init 14 = .ok (.bipush 8, 2) := by decide +kernel
theorem dX4_init_16 : decode cX4_init 16 = .ok (.newarray .int, 2) := by decide +kernel
theorem dX4_init_18 : decode cX4_init 18 = .ok (.putfield 13, 3) := by decide +kernel
theorem dX4_init_21 : decode cX4_init 21 = .ok (.aload_n 0, 1) := by decide +kernel
theorem dX4_init_22 : decode cX4_init 22 = .ok (.sipush 300, 3) := by decide +kernel
theorem dX4_init_25 : decode cX4_init 25 = .ok (.newarray .int, 2) := by decide +kernel
theorem dX4_init_27 : decode cX4_init 27 = .ok (.putfield 16, 3) := by decide +kernel
theorem dX4_init_30 : decode cX4_init 30 = .ok (.aload_n 0, 1) := by decide +kernel
theorem dX4_init_31 : decode cX4_init 31 = .ok (.sipush 301, 3) := by decide +kernel
theorem dX4_init_34 : decode cX4_init 34 = .ok (.newarray .int, 2) := by decide +kernel
theorem dX4_init_36 : decode cX4_init 36 = .ok (.putfield 19, 3) := by decide +kernel
theorem dX4_init_39 : decode cX4_init 39 = .ok (.aload_n 0, 1) := by decide +kernel
theorem dX4_init_40 : decode cX4_init 40 = .ok (.sipush 301, 3) := by decide +kernel
theorem dX4_init_43 : decode cX4_init 43 = .ok (.newarray .int, 2) := by decide +kernel
theorem dX4_init_45 : decode cX4_init 45 = .ok (.putfield 22, 3) := by decide +kernel
theorem dX4_init_48 : decode cX4_init 48 = .ok (.aload_n 0, 1) := by decide +kernel
theorem dX4_init_49 : decode cX4_init 49 = .ok (.sipush 4800, 3) := by decide +kernel
theorem dX4_init_52 : decode cX4_init 52 = .ok (.newarray .int, 2) := by decide +kernel
theorem dX4_init_54 : decode cX4_init 54 = .ok (.putfield 25, 3) := by decide +kernel
theorem dX4_init_57 : decode cX4_init 57 = .ok (.aload_n 0, 1) := by decide +kernel
theorem dX4_init_58 : decode cX4_init 58 = .ok (.bipush 16, 2) := by decide +kernel
theorem dX4_init_60 : decode cX4_init 60 = .ok (.newarray .int, 2) := by decide +kernel
theorem dX4_init_62 : decode cX4_init 62 = .ok (.putfield 28, 3) := by decide +kernel
theorem dX4_init_65 : decode cX4_init 65 = .ok (.aload_n 0, 1) := by decide +kernel
theorem dX4_init_66 : decode cX4_init 66 = .ok (.iconst 2, 1) := by decide +kernel
theorem dX4_init_67 : decode cX4_init 67 = .ok (.newarray .int, 2) := by decide +kernel
theorem dX4_init_69 : decode cX4_init 69 = .ok (.putfield 31, 3) := by decide +kernel
theorem dX4_init_72 : decode cX4_init 72 = .ok (.aload_n 0, 1) := by decide +kernel
theorem dX4_init_73 : decode cX4_init 73 = .ok (.sipush 600, 3) := by decide +kernel
theorem dX4_init_76 : decode cX4_init 76 = .ok (.newarray .int, 2) := by decide +kernel
theorem dX4_init_78 : decode cX4_init 78 = .ok (.putfield 34, 3) := by decide +kernel
theorem dX4_init_81 : decode cX4_init 81 = .ok (.aload_n 0, 1) := by decide +kernel
theorem dX4_init_82 : decode cX4_init 82 = .ok (.sipush 602, 3) := by decide +kernel
theorem dX4_init_85 : decode cX4_init 85 = .ok (.newarray .int, 2) := by decide +kernel
theorem dX4_init_87 : decode cX4_init 87 = .ok (.putfield 37, 3) := by decide +kernel
theorem dX4_init_90 : decode cX4_init 90 = .ok (.aload_n 0, 1) := by decide +kernel
theorem dX4_init_91 : decode cX4_init 91 = .ok (.sipush 602, 3) := by decide +kernel
theorem dX4_init_94 : decode cX4_init 94 = .ok (.newarray .int, 2) := by decide +kernel
theorem dX4_init_96 : decode cX4_init 96 = .ok (.putfield 40, 3) := by decide +kernel
theorem dX4_init_99 : decode cX4_init 99 = .ok (.aload_n 0, 1) := by decide +kernel
theorem dX4_init_100 : decode cX4_init 100 = .ok (.sipush 300, 3) := by decide +kernel
theorem dX4_init_103 : decode cX4_init 103 = .ok (.newarray .int, 2) := by decide +kernel
theorem dX4_init_105 : decode cX4_init 105 = .ok (.putfield 43, 3) := by decide +kernel
theorem dX4_init_108 : decode cX4_init 108 = .ok (.return_, 1) := by decide +kernel
theorem dX4_isIn_0 : decode cX4_isIn 0 = .ok (.iload_n 0, 1) := by decide +kernel
theorem dX4_isIn_1 : decode cX4_isIn 1 = .ok (.iload_n 1, 1) := by decide +kernel
theorem dX4_isIn_2 : decode cX4_isIn 2 = .ok (.if_icmp .lt 12, 3) := by decide +kernel
theorem dX4_isIn_5 : decode cX4_isIn 5 = .ok (.iload_n 0, 1) := by decide +kernel
theorem dX4_isIn_6 : decode cX4_isIn 6 = .ok (.iload_n 2, 1) := by decide +kernel
theorem dX4_isIn_7 : decode cX4_isIn 7 = .ok (.if_icmp .gt 7, 3) := by decide +kernel
theorem dX4_isIn_10 : decode cX4_isIn 10 = .ok (.iconst 1, 1) := by decide +kernel
theorem dX4_isIn_11 : decode cX4_isIn 11 = .ok (.goto 4, 3) := by decide +kernel
theorem dX4_isIn_14 : decode cX4_isIn 14 = .ok (.iconst 0, 1) := by decide +kernel
theorem dX4_isIn_15 : decode cX4_isIn 15 = .ok (.ireturn, 1) := by decide +kernel
theorem dX4_isSign_0 : decode cX4_isSign 0 = .ok (.iload_n 0, 1) := by decide +kernel
theorem dX4_isSign_1 : decode cX4_isSign 1 = .ok (.iconst 0, 1) := by decide +kernel
theorem dX4_isSign_2 : decode cX4_isSign 2 = .ok (.bipush 127, 2) := by decide +kernel
theorem dX4_isSign_4 : decode cX4_isSign 4 = .ok (.invokestatic 46, 3) := by decide +kernel
theorem dX4_isSign_7 : decode cX4_isSign 7 = .ok (.ireturn, 1) := by decide +kernel
theorem dX4_meant_0 : decode cX4_meant 0 = .ok (.iload_n 0, 1) := by decide +kernel
theorem dX4_meant_1 : decode cX4_meant 1 = .ok (.bipush 7, 2) := by decide +kernel
theorem dX4_meant_3 : decode cX4_meant 3 = .ok (.iand, 1) := by decide +kernel
theorem dX4_meant_4 : decode cX4_meant 4 = .ok (.ireturn, 1) := by decide +kernel
theorem dX4_sizeOf_0 : decode cX4_sizeOf 0 = .ok (.aload_n 0, 1) := by decide +kernel
theorem dX4_sizeOf_1 : decode cX4_sizeOf 1 = .ok (.getfield 13, 3) := by decide +kernel
theorem dX4_sizeOf_4 : decode cX4_sizeOf 4 = .ok (.iload_n 1, 1) := by decide +kernel
theorem dX4_sizeOf_5 : decode cX4_sizeOf 5 = .ok (.invokestatic 50, 3) := by decide +kernel
theorem dX4_sizeOf_8 : decode cX4_sizeOf 8 = .ok (.iaload, 1) := by decide +kernel
theorem dX4_sizeOf_9 : decode cX4_sizeOf 9 = .ok (.ireturn, 1) := by decide +kernel
theorem dX4_signAt_0 : decode cX4_signAt 0 = .ok (.aload_n 0, 1) := by decide +kernel
theorem dX4_signAt_1 : decode cX4_signAt 1 = .ok (.getfield 7, 3) := by decide +kernel
theorem dX4_signAt_4 : decode cX4_signAt 4 = .ok (.sipush 300, 3) := by decide +kernel
theorem dX4_signAt_7 : decode cX4_signAt 7 = .ok (.iload_n 1, 1) := by decide +kernel
theorem dX4_signAt_8 : decode cX4_signAt 8 = .ok (.invokestatic 50, 3) := by decide +kernel
theorem dX4_signAt_11 : decode cX4_signAt 11 = .ok (.imul, 1) := by decide +kernel
theorem dX4_signAt_12 : decode cX4_signAt 12 = .ok (.iload_n 2, 1) := by decide +kernel
theorem dX4_signAt_13 : decode cX4_signAt 13 = .ok (.iadd, 1) := by decide +kernel
theorem dX4_signAt_14 : decode cX4_signAt 14 = .ok (.iaload, 1) := by decide +kernel
theorem dX4_signAt_15 : decode cX4_signAt 15 = .ok (.ireturn, 1) := by decide +kernel
theorem dX4_begins_0 : decode cX4_begins 0 = .ok (.aload_n 0, 1) := by decide +kernel
theorem dX4_begins_1 : decode cX4_begins 1 = .ok (.iconst 0, 1) := by decide +kernel
theorem dX4_begins_2 : decode cX4_begins 2 = .ok (.putfield 54, 3) := by decide +kernel
theorem dX4_begins_5 : decode cX4_begins 5 = .ok (.return_, 1) := by decide +kernel
theorem dX4_puts_0 : decode cX4_puts 0 = .ok (.aload_n 0, 1) := by decide +kernel
theorem dX4_puts_1 : decode cX4_puts 1 = .ok (.getfield 54, 3) := by decide +kernel
theorem dX4_puts_4 : decode cX4_puts 4 = .ok (.sipush 300, 3) := by decide +kernel
theorem dX4_puts_7 : decode cX4_puts 7 = .ok (.if_icmp .ge 13, 3) := by decide +kernel
theorem dX4_puts_10 : decode cX4_puts 10 = .ok (.aload_n 0, 1) := by decide +kernel
theorem dX4_puts_11 : decode cX4_puts 11 = .ok (.getfield 43, 3) := by decide +kernel
theorem dX4_puts_14 : decode cX4_puts 14 = .ok (.aload_n 0, 1) := by decide +kernel
theorem dX4_puts_15 : decode cX4_puts 15 = .ok (.getfield 54, 3) := by decide +kernel
theorem dX4_puts_18 : decode cX4_puts 18 = .ok (.iload_n 1, 1) := by decide +kernel
theorem dX4_puts_19 : decode cX4_puts 19 = .ok (.iastore, 1) := by decide +kernel
theorem dX4_puts_20 : decode cX4_puts 20 = .ok (.aload_n 0, 1) := by decide +kernel
theorem dX4_puts_21 : decode cX4_puts 21 = .ok (.dup, 1) := by decide +kernel
theorem dX4_puts_22 : decode cX4_puts 22 = .ok (.getfield 54, 3) := by decide +kernel
theorem dX4_puts_25 : decode cX4_puts 25 = .ok (.iconst 1, 1) := by decide +kernel
theorem dX4_puts_26 : decode cX4_puts 26 = .ok (.iadd, 1) := by decide +kernel
theorem dX4_puts_27 : decode cX4_puts 27 = .ok (.putfield 54, 3) := by decide +kernel
theorem dX4_puts_30 : decode cX4_puts 30 = .ok (.return_, 1) := by decide +kernel
theorem dX4_putsPart_0 : decode cX4_putsPart 0 = .ok (.iload_n 2, 1) := by decide +kernel
theorem dX4_putsPart_1 : decode cX4_putsPart 1 = .ok (.istore 4, 2) := by decide +kernel
theorem dX4_putsPart_3 : decode cX4_putsPart 3 = .ok (.iload 4, 2) := by decide +kernel
theorem dX4_putsPart_5 : decode cX4_putsPart 5 = .ok (.iload_n 3, 1) := by decide +kernel
theorem dX4_putsPart_6 : decode cX4_putsPart 6 = .ok (.if_icmp .ge 20, 3) := by decide +kernel
theorem dX4_putsPart_9 : decode cX4_putsPart 9 = .ok (.aload_n 0, 1) := by decide +kernel
theorem dX4_putsPart_10 : decode cX4_putsPart 10 = .ok (.aload_n 0, 1) := by decide +kernel
theorem dX4_putsPart_11 : decode cX4_putsPart 11 = .ok (.iload_n 1, 1) := by decide +kernel
theorem dX4_putsPart_12 : decode cX4_putsPart 12 = .ok (.iload 4, 2) := by decide +kernel
theorem dX4_putsPart_14 : decode cX4_putsPart 14 = .ok (.invokevirtual 58, 3) := by decide +kernel
theorem dX4_putsPart_17 : decode cX4_putsPart 17 = .ok (.invokevirtual 62, 3) := by decide +kernel
theorem dX4_putsPart_20 : decode cX4_putsPart 20 = .ok (.iinc 4 1, 3) := by decide +kernel
theorem dX4_putsPart_23 : decode cX4_putsPart 23 = .ok (.goto (-20), 3) := by decide +kernel
theorem dX4_putsPart_26 : decode cX4_putsPart 26 = .ok (.return_, 1) := by decide +kernel
theorem dX4_lays_0 : decode cX4_lays 0 = .ok (.aload_n 0, 1) := by decide +kernel
theorem dX4_lays_1 : decode cX4_lays 1 = .ok (.getfield 54, 3) := by decide +kernel
theorem dX4_lays_4 : decode cX4_lays 4 = .ok (.sipush 300, 3) := by decide +kernel
theorem dX4_lays_7 : decode cX4_lays 7 = .ok (.if_icmp .le 6, 3) := by decide +kernel
theorem dX4_lays_10 : decode cX4_lays 10 = .ok (.ldc 66, 2) := by decide +kernel
theorem dX4_lays_12 : decode cX4_lays 12 = .ok (.ireturn, 1) := by decide +kernel
theorem dX4_lays_13 : decode cX4_lays 13 = .ok (.iload_n 1, 1) := by decide +kernel
theorem dX4_lays_14 : decode cX4_lays 14 = .ok (.invokestatic 50, 3) := by decide +kernel
theorem dX4_lays_17 : decode cX4_lays 17 = .ok (.istore_n 2, 1) := by decide +kernel
theorem dX4_lays_18 : decode cX4_lays 18 = .ok (.iconst 0, 1) := by decide +kernel
theorem dX4_lays_19 : decode cX4_lays 19 = .ok (.istore_n 3, 1) := by decide +kernel
theorem dX4_lays_20 : decode cX4_lays 20 = .ok (.iload_n 3, 1) := by decide +kernel
theorem dX4_lays_21 : decode cX4_lays 21 = .ok (.aload_n 0, 1) := by decide +kernel
theorem dX4_lays_22 : decode cX4_lays 22 = .ok (.getfield 54, 3) := by decide +kernel
theorem dX4_lays_25 : decode cX4_lays 25 = .ok (.if_icmp .ge 27, 3) := by decide +kernel
theorem dX4_lays_28 : decode cX4_lays 28 = .ok (.aload_n 0, 1) := by decide +kernel
theorem dX4_lays_29 : decode cX4_lays 29 = .ok (.getfield 7, 3) := by decide +kernel
theorem dX4_lays_32 : decode cX4_lays 32 = .ok (.sipush 300, 3) := by decide +kernel
theorem dX4_lays_35 : decode cX4_lays 35 = .ok (.iload_n 2, 1) := by decide +kernel
theorem dX4_lays_36 : decode cX4_lays 36 = .ok (.imul, 1) := by decide +kernel
theorem dX4_lays_37 : decode cX4_lays 37 = .ok (.iload_n 3, 1) := by decide +kernel
theorem dX4_lays_38 : decode cX4_lays 38 = .ok (.iadd, 1) := by decide +kernel
theorem dX4_lays_39 : decode cX4_lays 39 = .ok (.aload_n 0, 1) := by decide +kernel
theorem dX4_lays_40 : decode cX4_lays 40 = .ok (.getfield 43, 3) := by decide +kernel
theorem dX4_lays_43 : decode cX4_lays 43 = .ok (.iload_n 3, 1) := by decide +kernel
theorem dX4_lays_44 : decode cX4_lays 44 = .ok (.iaload, 1) := by decide +kernel
theorem dX4_lays_45 : decode cX4_lays 45 = .ok (.iastore, 1) := by decide +kernel
theorem dX4_lays_46 : decode cX4_lays 46 = .ok (.iinc 3 1, 3) := by decide +kernel
theorem dX4_lays_49 : decode cX4_lays 49 = .ok (.goto (-29), 3) := by decide +kernel
theorem dX4_lays_52 : decode cX4_lays 52 = .ok (.aload_n 0, 1) := by decide +kernel
theorem dX4_lays_53 : decode cX4_lays 53 = .ok (.getfield 13, 3) := by decide +kernel
theorem dX4_lays_56 : decode cX4_lays 56 = .ok (.iload_n 2, 1) := by decide +kernel
theorem dX4_lays_57 : decode cX4_lays 57 = .ok (.aload_n 0, 1) := by decide +kernel
theorem dX4_lays_58 : decode cX4_lays 58 = .ok (.getfield 54, 3) := by decide +kernel
theorem dX4_lays_61 : decode cX4_lays 61 = .ok (.iastore, 1) := by decide +kernel
theorem dX4_lays_62 : decode cX4_lays 62 = .ok (.aload_n 0, 1) := by decide +kernel
theorem dX4_lays_63 : decode cX4_lays 63 = .ok (.getfield 54, 3) := by decide +kernel
theorem dX4_lays_66 : decode cX4_lays 66 = .ok (.ireturn, 1) := by decide +kernel
theorem dX4_wipe_0 : decode cX4_wipe 0 = .ok (.aload_n 0, 1) := by decide +kernel
theorem dX4_wipe_1 : decode cX4_wipe 1 = .ok (.iload_n 1, 1) := by decide +kernel
theorem dX4_wipe_2 : decode cX4_wipe 2 = .ok (.invokevirtual 67, 3) := by decide +kernel
theorem dX4_wipe_5 : decode cX4_wipe 5 = .ok (.istore_n 2, 1) := by decide +kernel
theorem dX4_wipe_6 : decode cX4_wipe 6 = .ok (.aload_n 0, 1) := by decide +kernel
theorem dX4_wipe_7 : decode cX4_wipe 7 = .ok (.getfield 13, 3) := by decide +kernel
theorem dX4_wipe_10 : decode cX4_wipe 10 = .ok (.iload_n 1, 1) := by decide +kernel
theorem dX4_wipe_11 : decode cX4_wipe 11 = .ok (.invokestatic 50, 3) := by decide +kernel
theorem dX4_wipe_14 : decode cX4_wipe 14 = .ok (.iconst 0, 1) := by decide +kernel
theorem dX4_wipe_15 : decode cX4_wipe 15 = .ok (.iastore, 1) := by decide +kernel
theorem dX4_wipe_16 : decode cX4_wipe 16 = .ok (.iload_n 2, 1) := by decide +kernel
theorem dX4_wipe_17 : decode cX4_wipe 17 = .ok (.ireturn, 1) := by decide +kernel
theorem dX4_type_0 : decode cX4_type 0 = .ok (.iload_n 2, 1) := by decide +kernel
theorem dX4_type_1 : decode cX4_type 1 = .ok (.invokestatic 70, 3) := by decide +kernel
theorem dX4_type_4 : decode cX4_type 4 = .ok (.ifCond .ne 6, 3) := by decide +kernel
theorem dX4_type_7 : decode cX4_type 7 = .ok (.ldc 74, 2) := by decide +kernel
theorem dX4_type_9 : decode cX4_type 9 = .ok (.ireturn, 1) := by decide +kernel
theorem dX4_type_10 : decode cX4_type 10 = .ok (.aload_n 0, 1) := by decide +kernel
theorem dX4_type_11 : decode cX4_type 11 = .ok (.invokevirtual 75, 3) := by decide +kernel
theorem dX4_type_14 : decode cX4_type 14 = .ok (.aload_n 0, 1) := by decide +kernel
theorem dX4_type_15 : decode cX4_type 15 = .ok (.iload_n 1, 1) := by decide +kernel
theorem dX4_type_16 : decode cX4_type 16 = .ok (.iconst 0, 1) := by decide +kernel
theorem dX4_type_17 : decode cX4_type 17 = .ok (.aload_n 0, 1) := by decide +kernel
theorem dX4_type_18 : decode cX4_type 18 = .ok (.iload_n 1, 1) := by decide +kernel
theorem dX4_type_19 : decode cX4_type 19 = .ok (.invokevirtual 67, 3) := by decide +kernel
theorem dX4_type_22 : decode cX4_type 22 = .ok (.invokevirtual 78, 3) := by decide +kernel
theorem dX4_type_25 : decode cX4_type 25 = .ok (.aload_n 0, 1) := by decide +kernel
theorem dX4_type_26 : decode cX4_type 26 = .ok (.iload_n 2, 1) := by decide +kernel
theorem dX4_type_27 : decode cX4_type 27 = .ok (.invokevirtual 62, 3) := by decide +kernel
theorem dX4_type_30 : decode cX4_type 30 = .ok (.aload_n 0, 1) := by decide +kernel
theorem dX4_type_31 : decode cX4_type 31 = .ok (.iload_n 1, 1) := by decide +kernel
theorem dX4_type_32 : decode cX4_type 32 = .ok (.invokevirtual 82, 3) := by decide +kernel
theorem dX4_type_35 : decode cX4_type 35 = .ok (.ireturn, 1) := by decide +kernel
theorem dX4_feed_0 : decode cX4_feed 0 = .ok (.iload 4, 2) := by decide +kernel
theorem dX4_feed_2 : decode cX4_feed 2 = .ok (.iconst 1, 1) := by decide +kernel
theorem dX4_feed_3 : decode cX4_feed 3 = .ok (.bipush 8, 2) := by decide +kernel
theorem dX4_feed_5 : decode cX4_feed 5 = .ok (.invokestatic 46, 3) := by decide +kernel
theorem dX4_feed_8 : decode cX4_feed 8 = .ok (.ifCond .ne 6, 3) := by decide +kernel
theorem dX4_feed_11 : decode cX4_feed 11 = .ok (.ldc 74, 2) := by decide +kernel
theorem dX4_feed_13 : decode cX4_feed 13 = .ok (.ireturn, 1) := by decide +kernel
theorem dX4_feed_14 : decode cX4_feed 14 = .ok (.aload_n 0, 1) := by decide +kernel
theorem dX4_feed_15 : decode cX4_feed 15 = .ok (.invokevirtual 75, 3) := by decide +kernel
theorem dX4_feed_18 : decode cX4_feed 18 = .ok (.aload_n 0, 1) := by decide +kernel
theorem dX4_feed_19 : decode cX4_feed 19 = .ok (.iload_n 1, 1) := by decide +kernel
theorem dX4_feed_20 : decode cX4_feed 20 = .ok (.iconst 0, 1) := by decide +kernel
theorem dX4_feed_21 : decode cX4_feed 21 = .ok (.aload_n 0, 1) := by decide +kernel
theorem dX4_feed_22 : decode cX4_feed 22 = .ok (.iload_n 1, 1) := by decide +kernel
theorem dX4_feed_23 : decode cX4_feed 23 = .ok (.invokevirtual 67, 3) := by decide +kernel
theorem dX4_feed_26 : decode cX4_feed 26 = .ok (.invokevirtual 78, 3) := by decide +kernel
theorem dX4_feed_29 : decode cX4_feed 29 = .ok (.iconst 1, 1) := by decide +kernel
theorem dX4_feed_30 : decode cX4_feed 30 = .ok (.istore 5, 2) := by decide +kernel
theorem dX4_feed_32 : decode cX4_feed 32 = .ok (.iconst 0, 1) := by decide +kernel
theorem dX4_feed_33 : decode cX4_feed 33 = .ok (.istore 6, 2) := by decide +kernel
theorem dX4_feed_35 : decode cX4_feed 35 = .ok (.iload 6, 2) := by decide +kernel
theorem dX4_feed_37 : decode cX4_feed 37 = .ok (.iload 4, 2) := by decide +kernel
theorem dX4_feed_39 : decode cX4_feed 39 = .ok (.if_icmp .ge 49, 3) := by decide +kernel
theorem dX4_feed_42 : decode cX4_feed 42 = .ok (.lload_n 2, 1) := by decide +kernel
theorem dX4_feed_43 : decode cX4_feed 43 = .ok (.bipush 8, 2) := by decide +kernel
theorem dX4_feed_45 : decode cX4_feed 45 = .ok (.iload 6, 2) := by decide +kernel
theorem dX4_feed_47 : decode cX4_feed 47 = .ok (.imul, 1) := by decide +kernel
theorem dX4_feed_48 : decode cX4_feed 48 = .ok (.lshr, 1) := by decide +kernel
theorem dX4_feed_49 : decode cX4_feed 49 = .ok (.ldc2_w 85, 3) := by decide +kernel
theorem dX4_feed_52 : decode cX4_feed 52 = .ok (.land, 1) := by decide +kernel
theorem dX4_feed_53 : decode cX4_feed 53 = .ok (.l2i, 1) := by decide +kernel
theorem dX4_feed_54 : decode cX4_feed 54 = .ok (.istore 7, 2) := by decide +kernel
theorem dX4_feed_56 : decode cX4_feed 56 = .ok (.iload 5, 2) := by decide +kernel
theorem dX4_feed_58 : decode cX4_feed 58 = .ok (.ifCond .eq 15, 3) := by decide +kernel
theorem dX4_feed_61 : decode cX4_feed 61 = .ok (.iload 7, 2) := by decide +kernel
theorem dX4_feed_63 : decode cX4_feed 63 = .ok (.invokestatic 70, 3) := by decide +kernel
theorem dX4_feed_66 : decode cX4_feed 66 = .ok (.ifCond .eq 7, 3) := by decide +kernel
theorem dX4_feed_69 : decode cX4_feed 69 = .ok (.iconst 1, 1) := by decide +kernel
theorem dX4_feed_70 : decode cX4_feed 70 = .ok (.goto 4, 3) := by decide +kernel
theorem dX4_feed_73 : decode cX4_feed 73 = .ok (.iconst 0, 1) := by decide +kernel
theorem dX4_feed_74 : decode cX4_feed 74 = .ok (.istore 5, 2) := by decide +kernel
theorem dX4_feed_76 : decode cX4_feed 76 = .ok (.aload_n 0, 1) := by decide +kernel
theorem dX4_feed_77 : decode cX4_feed 77 = .ok (.iload 7, 2) := by decide +kernel
theorem dX4_feed_79 : decode cX4_feed 79 = .ok (.invokevirtual 62, 3) := by decide +kernel
theorem dX4_feed_82 : decode cX4_feed 82 = .ok (.iinc 6 1, 3) := by decide +kernel
theorem dX4_feed_85 : decode cX4_feed 85 = .ok (.goto (-50), 3) := by decide +kernel
theorem dX4_feed_88 : decode cX4_feed 88 = .ok (.iload 5, 2) := by decide +kernel
theorem dX4_feed_90 : decode cX4_feed 90 = .ok (.ifCond .eq 11, 3) := by decide +kernel
theorem dX4_feed_93 : decode cX4_feed 93 = .ok (.aload_n 0, 1) := by decide +kernel
theorem dX4_feed_94 : decode cX4_feed 94 = .ok (.iload_n 1, 1) := by decide +kernel
theorem dX4_feed_95 : decode cX4_feed 95 = .ok (.invokevirtual 82, 3) := by decide +kernel
theorem dX4_feed_98 : decode cX4_feed 98 = .ok (.goto 5, 3) := by decide +kernel
theorem dX4_feed_101 : decode cX4_feed 101 = .ok (.ldc 74, 2) := by decide +kernel
theorem dX4_feed_103 : decode cX4_feed 103 = .ok (.ireturn, 1) := by decide +kernel
theorem dX4_copy_0 : decode cX4_copy 0 = .ok (.aload_n 0, 1) := by decide +kernel
theorem dX4_copy_1 : decode cX4_copy 1 = .ok (.invokevirtual 75, 3) := by decide +kernel
theorem dX4_copy_4 : decode cX4_copy 4 = .ok (.aload_n 0, 1) := by decide +kernel
theorem dX4_copy_5 : decode cX4_copy 5 = .ok (.iload_n 1, 1) := by decide +kernel
theorem dX4_copy_6 : decode cX4_copy 6 = .ok (.iconst 0, 1) := by decide +kernel
theorem dX4_copy_7 : decode cX4_copy 7 = .ok (.aload_n 0, 1) := by decide +kernel
theorem dX4_copy_8 : decode cX4_copy 8 = .ok (.iload_n 1, 1) := by decide +kernel
theorem dX4_copy_9 : decode cX4_copy 9 = .ok (.invokevirtual 67, 3) := by decide +kernel
theorem dX4_copy_12 : decode cX4_copy 12 = .ok (.invokevirtual 78, 3) := by decide +kernel
theorem dX4_copy_15 : decode cX4_copy 15 = .ok (.aload_n 0, 1) := by decide +kernel
theorem dX4_copy_16 : decode cX4_copy 16 = .ok (.iload_n 2, 1) := by decide +kernel
theorem dX4_copy_17 : decode cX4_copy 17 = .ok (.invokevirtual 82, 3) := by decide +kernel
theorem dX4_copy_20 : decode cX4_copy 20 = .ok (.ireturn, 1) := by decide +kernel
theorem dX4_swap_0 : decode cX4_swap 0 = .ok (.iload_n 1, 1) := by decide +kernel
theorem dX4_swap_1 : decode cX4_swap 1 = .ok (.invokestatic 50, 3) := by decide +kernel
theorem dX4_swap_4 : decode cX4_swap 4 = .ok (.istore_n 3, 1) := by decide +kernel
theorem dX4_swap_5 : decode cX4_swap 5 = .ok (.iload_n 2, 1) := by decide +kernel
theorem dX4_swap_6 : decode cX4_swap 6 = .ok (.invokestatic 50, 3) := by decide +kernel
theorem dX4_swap_9 : decode cX4_swap 9 = .ok (.istore 4, 2) := by decide +kernel
theorem dX4_swap_11 : decode cX4_swap 11 = .ok (.iconst 0, 1) := by decide +kernel
theorem dX4_swap_12 : decode cX4_swap 12 = .ok (.istore 5, 2) := by decide +kernel
theorem dX4_swap_14 : decode cX4_swap 14 = .ok (.iload 5, 2) := by decide +kernel
theorem dX4_swap_16 : decode cX4_swap 16 = .ok (.sipush 300, 3) := by decide +kernel
theorem dX4_swap_19 : decode cX4_swap 19 = .ok (.if_icmp .ge 67, 3) := by decide +kernel
theorem dX4_swap_22 : decode cX4_swap 22 = .ok (.aload_n 0, 1) := by decide +kernel
theorem dX4_swap_23 : decode cX4_swap 23 = .ok (.getfield 7, 3) := by decide +kernel
theorem dX4_swap_26 : decode cX4_swap 26 = .ok (.sipush 300, 3) := by decide +kernel
theorem dX4_swap_29 : decode cX4_swap 29 = .ok (.iload_n 3, 1) := by decide +kernel
theorem dX4_swap_30 : decode cX4_swap 30 = .ok (.imul, 1) := by decide +kernel
theorem dX4_swap_31 : decode cX4_swap 31 = .ok (.iload 5, 2) := by decide +kernel
theorem dX4_swap_33 : decode cX4_swap 33 = .ok (.iadd, 1) := by decide +kernel
theorem dX4_swap_34 : decode cX4_swap 34 = .ok (.iaload, 1) := by decide +kernel
theorem dX4_swap_35 : decode cX4_swap 35 = .ok (.istore 6, 2) := by decide +kernel
theorem dX4_swap_37 : decode cX4_swap 37 = .ok (.aload_n 0, 1) := by decide +kernel
theorem dX4_swap_38 : decode cX4_swap 38 = .ok (.getfield 7, 3) := by decide +kernel
theorem dX4_swap_41 : decode cX4_swap 41 = .ok (.sipush 300, 3) := by decide +kernel
theorem dX4_swap_44 : decode cX4_swap 44 = .ok (.iload_n 3, 1) := by decide +kernel
theorem dX4_swap_45 : decode cX4_swap 45 = .ok (.imul, 1) := by decide +kernel
theorem dX4_swap_46 : decode cX4_swap 46 = .ok (.iload 5, 2) := by decide +kernel
theorem dX4_swap_48 : decode cX4_swap 48 = .ok (.iadd, 1) := by decide +kernel
theorem dX4_swap_49 : decode cX4_swap 49 = .ok (.aload_n 0, 1) := by decide +kernel
theorem dX4_swap_50 : decode cX4_swap 50 = .ok (.getfield 7, 3) := by decide +kernel
theorem dX4_swap_53 : decode cX4_swap 53 = .ok (.sipush 300, 3) := by decide +kernel
theorem dX4_swap_56 : decode cX4_swap 56 = .ok (.iload 4, 2) := by decide +kernel
theorem dX4_swap_58 : decode cX4_swap 58 = .ok (.imul, 1) := by decide +kernel
theorem dX4_swap_59 : decode cX4_swap 59 = .ok (.iload 5, 2) := by decide +kernel
theorem dX4_swap_61 : decode cX4_swap 61 = .ok (.iadd, 1) := by decide +kernel
theorem dX4_swap_62 : decode cX4_swap 62 = .ok (.iaload, 1) := by decide +kernel
theorem dX4_swap_63 : decode cX4_swap 63 = .ok (.iastore, 1) := by decide +kernel
theorem dX4_swap_64 : decode cX4_swap 64 = .ok (.aload_n 0, 1) := by decide +kernel
theorem dX4_swap_65 : decode cX4_swap 65 = .ok (.getfield 7, 3) := by decide +kernel
theorem dX4_swap_68 : decode cX4_swap 68 = .ok (.sipush 300, 3) := by decide +kernel
theorem dX4_swap_71 : decode cX4_swap 71 = .ok (.iload 4, 2) := by decide +kernel
theorem dX4_swap_73 : decode cX4_swap 73 = .ok (.imul, 1) := by decide +kernel
theorem dX4_swap_74 : decode cX4_swap 74 = .ok (.iload 5, 2) := by decide +kernel
theorem dX4_swap_76 : decode cX4_swap 76 = .ok (.iadd, 1) := by decide +kernel
theorem dX4_swap_77 : decode cX4_swap 77 = .ok (.iload 6, 2) := by decide +kernel
theorem dX4_swap_79 : decode cX4_swap 79 = .ok (.iastore, 1) := by decide +kernel
theorem dX4_swap_80 : decode cX4_swap 80 = .ok (.iinc 5 1, 3) := by decide +kernel
theorem dX4_swap_83 : decode cX4_swap 83 = .ok (.goto (-69), 3) := by decide +kernel
theorem dX4_swap_86 : decode cX4_swap 86 = .ok (.aload_n 0, 1) := by decide +kernel
theorem dX4_swap_87 : decode cX4_swap 87 = .ok (.getfield 13, 3) := by decide +kernel
theorem dX4_swap_90 : decode cX4_swap 90 = .ok (.iload_n 3, 1) := by decide +kernel
theorem dX4_swap_91 : decode cX4_swap 91 = .ok (.iaload, 1) := by decide +kernel
theorem dX4_swap_92 : decode cX4_swap 92 = .ok (.istore 5, 2) := by decide +kernel
theorem dX4_swap_94 : decode cX4_swap 94 = .ok (.aload_n 0, 1) := by decide +kernel
theorem dX4_swap_95 : decode cX4_swap 95 = .ok (.getfield 13, 3) := by decide +kernel
theorem dX4_swap_98 : decode cX4_swap 98 = .ok (.iload_n 3, 1) := by decide +kernel
theorem dX4_swap_99 : decode cX4_swap 99 = .ok (.aload_n 0, 1) := by decide +kernel
theorem dX4_swap_100 : decode cX4_swap 100 = .ok (.getfield 13, 3) := by decide +kernel
theorem dX4_swap_103 : decode cX4_swap 103 = .ok (.iload 4, 2) := by decide +kernel
theorem dX4_swap_105 : decode cX4_swap 105 = .ok (.iaload, 1) := by decide +kernel
theorem dX4_swap_106 : decode cX4_swap 106 = .ok (.iastore, 1) := by decide +kernel
theorem dX4_swap_107 : decode cX4_swap 107 = .ok (.aload_n 0, 1) := by decide +kernel
theorem dX4_swap_108 : decode cX4_swap 108 = .ok (.getfield 13, 3) := by decide +kernel
theorem dX4_swap_111 : decode cX4_swap 111 = .ok (.iload 4, 2) := by decide +kernel
theorem dX4_swap_113 : decode cX4_swap 113 = .ok (.iload 5, 2) := by decide +kernel
theorem dX4_swap_115 : decode cX4_swap 115 = .ok (.iastore, 1) := by decide +kernel
theorem dX4_swap_116 : decode cX4_swap 116 = .ok (.aload_n 0, 1) := by decide +kernel
theorem dX4_swap_117 : decode cX4_swap 117 = .ok (.getfield 13, 3) := by decide +kernel
theorem dX4_swap_120 : decode cX4_swap 120 = .ok (.iload_n 3, 1) := by decide +kernel
theorem dX4_swap_121 : decode cX4_swap 121 = .ok (.iaload, 1) := by decide +kernel
theorem dX4_swap_122 : decode cX4_swap 122 = .ok (.ireturn, 1) := by decide +kernel
theorem dX4_concat_0 : decode cX4_concat 0 = .ok (.aload_n 0, 1) := by decide +kernel
theorem dX4_concat_1 : decode cX4_concat 1 = .ok (.invokevirtual 75, 3) := by decide +kernel
theorem dX4_concat_4 : decode cX4_concat 4 = .ok (.aload_n 0, 1) := by decide +kernel
theorem dX4_concat_5 : decode cX4_concat 5 = .ok (.iload_n 1, 1) := by decide +kernel
theorem dX4_concat_6 : decode cX4_concat 6 = .ok (.iconst 0, 1) := by decide +kernel
theorem dX4_concat_7 : decode cX4_concat 7 = .ok (.aload_n 0, 1) := by decide +kernel
theorem dX4_concat_8 : decode cX4_concat 8 = .ok (.iload_n 1, 1) := by decide +kernel
theorem dX4_concat_9 : decode cX4_concat 9 = .ok (.invokevirtual 67, 3) := by decide +kernel
theorem dX4_concat_12 : decode cX4_concat 12 = .ok (.invokevirtual 78, 3) := by decide +kernel
theorem dX4_concat_15 : decode cX4_concat 15 = .ok (.aload_n 0, 1) := by decide +kernel
theorem dX4_concat_16 : decode cX4_concat 16 = .ok (.iload_n 2, 1) := by decide +kernel
theorem dX4_concat_17 : decode cX4_concat 17 = .ok (.iconst 0, 1) := by decide +kernel
theorem dX4_concat_18 : decode cX4_concat 18 = .ok (.aload_n 0, 1) := by decide +kernel
theorem dX4_concat_19 : decode cX4_concat 19 = .ok (.iload_n 2, 1) := by decide +kernel
theorem dX4_concat_20 : decode cX4_concat 20 = .ok (.invokevirtual 67, 3) := by decide +kernel
theorem dX4_concat_23 : decode cX4_concat 23 = .ok (.invokevirtual 78, 3) := by decide +kernel
theorem dX4_concat_26 : decode cX4_concat 26 = .ok (.aload_n 0, 1) := by decide +kernel
theorem dX4_concat_27 : decode cX4_concat 27 = .ok (.iload_n 3, 1) := by decide +kernel
theorem dX4_concat_28 : decode cX4_concat 28 = .ok (.invokevirtual 82, 3) := by decide +kernel
theorem dX4_concat_31 : decode cX4_concat 31 = .ok (.ireturn, 1) := by decide +kernel
theorem dX4_substring_0 : decode cX4_substring 0 = .ok (.iload_n 2, 1) := by decide +kernel
theorem dX4_substring_1 : decode cX4_substring 1 = .ok (.ifCond .lt 17, 3) := by decide +kernel
theorem dX4_substring_4 : decode cX4_substring 4 = .ok (.iload_n 3, 1) := by decide +kernel
theorem dX4_substring_5 : decode cX4_substring 5 = .ok (.aload_n 0, 1) := by decide +kernel
theorem dX4_substring_6 : decode cX4_substring 6 = .ok (.iload_n 1, 1) := by decide +kernel
theorem dX4_substring_7 : decode cX4_substring 7 = .ok (.invokevirtual 67, 3) := by decide +kernel
theorem dX4_substring_10 : decode cX4_substring 10 = .ok (.if_icmp .gt 8, 3) := by decide +kernel
theorem dX4_substring_13 : decode cX4_substring 13 = .ok (.iload_n 2, 1) := by decide +kernel
theorem dX4_substring_14 : decode cX4_substring 14 = .ok (.iload_n 3, 1) := by decide +kernel
theorem dX4_substring_15 : decode cX4_substring 15 = .ok (.if_icmp .le 6, 3) := by decide +kernel
theorem dX4_substring_18 : decode cX4_substring 18 = .ok (.ldc 87, 2) := by decide +kernel
theorem dX4_substring_20 : decode cX4_substring 20 = .ok (.ireturn, 1) := by decide +kernel
theorem dX4_substring_21 : decode cX4_substring 21 = .ok (.aload_n 0, 1) := by decide +kernel
theorem dX4_substring_22 : decode cX4_substring 22 = .ok (.invokevirtual 75, 3) := by decide +kernel
theorem dX4_substring_25 : decode cX4_substring 25 = .ok (.aload_n 0, 1) := by decide +kernel
theorem dX4_substring_26 : decode cX4_substring 26 = .ok (.iload_n 1, 1) := by decide +kernel
theorem dX4_substring_27 : decode cX4_substring 27 = .ok (.iload_n 2, 1) := by decide +kernel
theorem dX4_substring_28 : decode cX4_substring 28 = .ok (.iload_n 3, 1) := by decide +kernel
theorem dX4_substring_29 : decode cX4_substring 29 = .ok (.invokevirtual 78, 3) := by decide +kernel
theorem dX4_substring_32 : decode cX4_substring 32 = .ok (.aload_n 0, 1) := by decide +kernel
theorem dX4_substring_33 : decode cX4_substring 33 = .ok (.iload 4, 2) := by decide +kernel
theorem dX4_substring_35 : decode cX4_substring 35 = .ok (.invokevirtual 82, 3) := by decide +kernel
theorem dX4_substring_38 : decode cX4_substring 38 = .ok (.ireturn, 1) := by decide +kernel
theorem dX4_tail_0 : decode cX4_tail 0 = .ok (.aload_n 0, 1) := by decide +kernel
theorem dX4_tail_1 : decode cX4_tail 1 = .ok (.iload_n 1, 1) := by decide +kernel
theorem dX4_tail_2 : decode cX4_tail 2 = .ok (.iload_n 2, 1) := by decide +kernel
theorem dX4_tail_3 : decode cX4_tail 3 = .ok (.aload_n 0, 1) := by decide +kernel
theorem dX4_tail_4 : decode cX4_tail 4 = .ok (.iload_n 1, 1) := by decide +kernel
theorem dX4_tail_5 : decode cX4_tail 5 = .ok (.invokevirtual 67, 3) := by decide +kernel
theorem dX4_tail_8 : decode cX4_tail 8 = .ok (.iload_n 3, 1) := by decide +kernel
theorem dX4_tail_9 : decode cX4_tail 9 = .ok (.invokevirtual 88, 3) := by decide +kernel
theorem dX4_tail_12 : decode cX4_tail 12 = .ok (.ireturn, 1) := by decide +kernel
theorem dX4_number_0 : decode cX4_number 0 = .ok (.aload_n 0, 1) := by decide +kernel
theorem dX4_number_1 : decode cX4_number 1 = .ok (.iload_n 1, 1) := by decide +kernel
theorem dX4_number_2 : decode cX4_number 2 = .ok (.i2l, 1) := by decide +kernel
theorem dX4_number_3 : decode cX4_number 3 = .ok (.iload_n 2, 1) := by decide +kernel
theorem dX4_number_4 : decode cX4_number 4 = .ok (.invokevirtual 92, 3) := by decide +kernel
theorem dX4_number_7 : decode cX4_number 7 = .ok (.ireturn, 1) := by decide +kernel
theorem dX4_big_0 : decode cX4_big 0 = .ok (.iconst 1, 1) := by decide +kernel
theorem dX4_big_1 : decode cX4_big 1 = .ok (.istore 4, 2) := by decide +kernel
theorem dX4_big_3 : decode cX4_big 3 = .ok (.lload_n 1, 1) := by decide +kernel
theorem dX4_big_4 : decode cX4_big 4 = .ok (.ldc2_w 96, 3) := by decide +kernel
theorem dX4_big_7 : decode cX4_big 7 = .ok (.ldiv, 1) := by decide +kernel
theorem dX4_big_8 : decode cX4_big 8 = .ok (.lstore 5, 2) := by decide +kernel
theorem dX4_big_10 : decode cX4_big 10 = .ok (.lload 5, 2) := by decide +kernel
theorem dX4_big_12 : decode cX4_big 12 = .ok (.lconst 0, 1) := by decide +kernel
theorem dX4_big_13 : decode cX4_big 13 = .ok (.lcmp, 1) := by decide +kernel
theorem dX4_big_14 : decode cX4_big 14 = .ok (.ifCond .eq 17, 3) := by decide +kernel
theorem dX4_big_17 : decode cX4_big 17 = .ok (.iinc 4 1, 3) := by decide +kernel
theorem dX4_big_20 : decode cX4_big 20 = .ok (.lload 5, 2) := by decide +kernel
theorem dX4_big_22 : decode cX4_big 22 = .ok (.ldc2_w 96, 3) := by decide +kernel
theorem dX4_big_25 : decode cX4_big 25 = .ok (.ldiv, 1) := by decide +kernel
theorem dX4_big_26 : decode cX4_big 26 = .ok (.lstore 5, 2) := by decide +kernel
theorem dX4_big_28 : decode cX4_big 28 = .ok (.goto (-18), 3) := by decide +kernel
theorem dX4_big_31 : decode cX4_big 31 = .ok (.aload_n 0, 1) := by decide +kernel
theorem dX4_big_32 : decode cX4_big 32 = .ok (.invokevirtual 75, 3) := by decide +kernel
theorem dX4_big_35 : decode cX4_big 35 = .ok (.lload_n 1, 1) := by decide +kernel
theorem dX4_big_36 : decode cX4_big 36 = .ok (.lconst 0, 1) := by decide +kernel
theorem dX4_big_37 : decode cX4_big 37 = .ok (.lcmp, 1) := by decide +kernel
theorem dX4_big_38 : decode cX4_big 38 = .ok (.ifCond .ge 9, 3) := by decide +kernel
theorem dX4_big_41 : decode cX4_big 41 = .ok (.aload_n 0, 1) := by decide +kernel
theorem dX4_big_42 : decode cX4_big 42 = .ok (.bipush 45, 2) := by decide +kernel
theorem dX4_big_44 : decode cX4_big 44 = .ok (.invokevirtual 62, 3) := by decide +kernel
theorem dX4_big_47 : decode cX4_big 47 = .ok (.iload 4, 2) := by decide +kernel
theorem dX4_big_49 : decode cX4_big 49 = .ok (.iconst 1, 1) := by decide +kernel
theorem dX4_big_50 : decode cX4_big 50 = .ok (.isub, 1) := by decide +kernel
theorem dX4_big_51 : decode cX4_big 51 = .ok (.istore 5, 2) := by decide +kernel
theorem dX4_big_53 : decode cX4_big 53 = .ok (.iload 5, 2) := by decide +kernel
theorem dX4_big_55 : decode cX4_big 55 = .ok (.ifCond .lt 65, 3) := by decide +kernel
theorem dX4_big_58 : decode cX4_big 58 = .ok (.lload_n 1, 1) := by decide +kernel
theorem dX4_big_59 : decode cX4_big 59 = .ok (.lstore 6, 2) := by decide +kernel
theorem dX4_big_61 : decode cX4_big 61 = .ok (.iconst 0, 1) := by decide +kernel
theorem dX4_big_62 : decode cX4_big 62 = .ok (.istore 8, 2) := by decide +kernel
theorem dX4_big_64 : decode cX4_big 64 = .ok (.iload 8, 2) := by decide +kernel
theorem dX4_big_66 : decode cX4_big 66 = .ok (.iload 5, 2) := by decide +kernel
theorem dX4_big_68 : decode cX4_big 68 = .ok (.if_icmp .ge 17, 3) := by decide +kernel
theorem dX4_big_71 : decode cX4_big 71 = .ok (.lload 6, 2) := by decide +kernel
theorem dX4_big_73 : decode cX4_big 73 = .ok (.ldc2_w 96, 3) := by decide +kernel
theorem dX4_big_76 : decode cX4_big 76 = .ok (.ldiv, 1) := by decide +kernel
theorem dX4_big_77 : decode cX4_big 77 = .ok (.lstore 6, 2) := by decide +kernel
theorem dX4_big_79 : decode cX4_big 79 = .ok (.iinc 8 1, 3) := by decide +kernel
theorem dX4_big_82 : decode cX4_big 82 = .ok (.goto (-18), 3) := by decide +kernel
theorem dX4_big_85 : decode cX4_big 85 = .ok (.lload 6, 2) := by decide +kernel
theorem dX4_big_87 : decode cX4_big 87 = .ok (.ldc2_w 96, 3) := by decide +kernel
theorem dX4_big_90 : decode cX4_big 90 = .ok (.lrem, 1) := by decide +kernel
theorem dX4_big_91 : decode cX4_big 91 = .ok (.l2i, 1) := by decide +kernel
theorem dX4_big_92 : decode cX4_big 92 = .ok (.istore 8, 2) := by decide +kernel
theorem dX4_big_94 : decode cX4_big 94 = .ok (.aload_n 0, 1) := by decide +kernel
theorem dX4_big_95 : decode cX4_big 95 = .ok (.bipush 48, 2) := by decide +kernel
theorem dX4_big_97 : decode cX4_big 97 = .ok (.iload 8, 2) := by decide +kernel
theorem dX4_big_99 : decode cX4_big 99 = .ok (.ifCond .ge 9, 3) := by decide +kernel
theorem dX4_big_102 : decode cX4_big 102 = .ok (.iload 8, 2) := by decide +kernel
theorem dX4_big_104 : decode cX4_big 104 = .ok (.ineg, 1) := by decide +kernel
theorem dX4_big_105 : decode cX4_big 105 = .ok (.goto 5, 3) := by decide +kernel
theorem dX4_big_108 : decode cX4_big 108 = .ok (.iload 8, 2) := by decide +kernel
theorem dX4_big_110 : decode cX4_big 110 = .ok (.iadd, 1) := by decide +kernel
theorem dX4_big_111 : decode cX4_big 111 = .ok (.invokevirtual 62, 3) := by decide +kernel
theorem dX4_big_114 : decode cX4_big 114 = .ok (.iinc 5 (-1), 3) := by decide +kernel
theorem dX4_big_117 : decode cX4_big 117 = .ok (.goto (-64), 3) := by decide +kernel
theorem dX4_big_120 : decode cX4_big 120 = .ok (.aload_n 0, 1) := by decide +kernel
theorem dX4_big_121 : decode cX4_big 121 = .ok (.iload_n 3, 1) := by decide +kernel
theorem dX4_big_122 : decode cX4_big 122 = .ok (.invokevirtual 82, 3) := by decide +kernel
theorem dX4_big_125 : decode cX4_big 125 = .ok (.ireturn, 1) := by decide +kernel
theorem dX4_length_0 : decode cX4_length 0 = .ok (.aload_n 0, 1) := by decide +kernel
theorem dX4_length_1 : decode cX4_length 1 = .ok (.iload_n 1, 1) := by decide +kernel
theorem dX4_length_2 : decode cX4_length 2 = .ok (.invokevirtual 67, 3) := by decide +kernel
theorem dX4_length_5 : decode cX4_length 5 = .ok (.ireturn, 1) := by decide +kernel
theorem dX4_isEmpty_0 : decode cX4_isEmpty 0 = .ok (.aload_n 0, 1) := by decide +kernel
theorem dX4_isEmpty_1 : decode cX4_isEmpty 1 = .ok (.iload_n 1, 1) := by decide +kernel
theorem dX4_isEmpty_2 : decode cX4_isEmpty 2 = .ok (.invokevirtual 67, 3) := by decide +kernel
theorem dX4_isEmpty_5 : decode cX4_isEmpty 5 = .ok (.ifCond .ne 7, 3) := by decide +kernel
theorem dX4_isEmpty_8 : decode cX4_isEmpty 8 = .ok (.iconst 1, 1) := by decide +kernel
theorem dX4_isEmpty_9 : decode cX4_isEmpty 9 = .ok (.goto 4, 3) := by decide +kernel
theorem dX4_isEmpty_12 : decode cX4_isEmpty 12 = .ok (.iconst 0, 1) := by decide +kernel
theorem dX4_isEmpty_13 : decode cX4_isEmpty 13 = .ok (.ireturn, 1) := by decide +kernel
theorem dX4_isBlankSign_0 : decode cX4_isBlankSign 0 = .ok (.iload_n 0, 1) := by decide +kernel
theorem dX4_isBlankSign_1 : decode cX4_isBlankSign 1 = .ok (.bipush 9, 2) := by decide +kernel
theorem dX4_isBlankSign_3 : decode cX4_isBlankSign 3 = .ok (.bipush 13, 2) := by decide +kernel
theorem dX4_isBlankSign_5 : decode cX4_isBlankSign 5 = .ok (.invokestatic 46, 3) := by decide +kernel
theorem dX4_isBlankSign_8 : decode cX4_isBlankSign 8 = .ok (.ifCond .ne 14, 3) := by decide +kernel
theorem dX4_isBlankSign_11 : decode cX4_isBlankSign 11 = .ok (.iload_n 0, 1) := by decide +kernel
theorem dX4_isBlankSign_12 : decode cX4_isBlankSign 12 = .ok (.bipush 28, 2) := by decide +kernel
theorem dX4_isBlankSign_14 : decode cX4_isBlankSign 14 = .ok (.bipush 32, 2) := by decide +kernel
theorem dX4_isBlankSign_16 : decode cX4_isBlankSign 16 = .ok (.invokestatic 46, 3) := by decide +kernel
theorem dX4_isBlankSign_19 : decode cX4_isBlankSign 19 = .ok (.ifCond .eq 7, 3) := by decide +kernel
theorem dX4_isBlankSign_22 : decode cX4_isBlankSign 22 = .ok (.iconst 1, 1) := by decide +kernel
theorem dX4_isBlankSign_23 : decode cX4_isBlankSign 23 = .ok (.goto 4, 3) := by decide +kernel
theorem dX4_isBlankSign_26 : decode cX4_isBlankSign 26 = .ok (.iconst 0, 1) := by decide +kernel
theorem dX4_isBlankSign_27 : decode cX4_isBlankSign 27 = .ok (.ireturn, 1) := by decide +kernel
theorem dX4_isBlank_0 : decode cX4_isBlank 0 = .ok (.iconst 1, 1) := by decide +kernel
theorem dX4_isBlank_1 : decode cX4_isBlank 1 = .ok (.istore_n 2, 1) := by decide +kernel
theorem dX4_isBlank_2 : decode cX4_isBlank 2 = .ok (.iconst 0, 1) := by decide +kernel
theorem dX4_isBlank_3 : decode cX4_isBlank 3 = .ok (.istore_n 3, 1) := by decide +kernel
theorem dX4_isBlank_4 : decode cX4_isBlank 4 = .ok (.iload_n 3, 1) := by decide +kernel
theorem dX4_isBlank_5 : decode cX4_isBlank 5 = .ok (.aload_n 0, 1) := by decide +kernel
theorem dX4_isBlank_6 : decode cX4_isBlank 6 = .ok (.iload_n 1, 1) := by decide +kernel
theorem dX4_isBlank_7 : decode cX4_isBlank 7 = .ok (.invokevirtual 67, 3) := by decide +kernel
theorem dX4_isBlank_10 : decode cX4_isBlank 10 = .ok (.if_icmp .ge 31, 3) := by decide +kernel
theorem dX4_isBlank_13 : decode cX4_isBlank 13 = .ok (.iload_n 2, 1) := by decide +kernel
theorem dX4_isBlank_14 : decode cX4_isBlank 14 = .ok (.ifCond .eq 19, 3) := by decide +kernel
theorem dX4_isBlank_17 : decode cX4_isBlank 17 = .ok (.aload_n 0, 1) := by decide +kernel
theorem dX4_isBlank_18 : decode cX4_isBlank 18 = .ok (.iload_n 1, 1) := by decide +kernel
theorem dX4_isBlank_19 : decode cX4_isBlank 19 = .ok (.iload_n 3, 1) := by decide +kernel
theorem dX4_isBlank_20 : decode cX4_isBlank 20 = .ok (.invokevirtual 58, 3) := by decide +kernel
theorem dX4_isBlank_23 : decode cX4_isBlank 23 = .ok (.invokestatic 98, 3) := by decide +kernel
theorem dX4_isBlank_26 : decode cX4_isBlank 26 = .ok (.ifCond .eq 7, 3) := by decide +kernel
theorem dX4_isBlank_29 : decode cX4_isBlank 29 = .ok (.iconst 1, 1) := by decide +kernel
theorem dX4_isBlank_30 : decode cX4_isBlank 30 = .ok (.goto 4, 3) := by decide +kernel
theorem dX4_isBlank_33 : decode cX4_isBlank 33 = .ok (.iconst 0, 1) := by decide +kernel
theorem dX4_isBlank_34 : decode cX4_isBlank 34 = .ok (.istore_n 2, 1) := by decide +kernel
theorem dX4_isBlank_35 : decode cX4_isBlank 35 = .ok (.iinc 3 1, 3) := by decide +kernel
theorem dX4_isBlank_38 : decode cX4_isBlank 38 = .ok (.goto (-34), 3) := by decide +kernel
theorem dX4_isBlank_41 : decode cX4_isBlank 41 = .ok (.iload_n 2, 1) := by decide +kernel
theorem dX4_isBlank_42 : decode cX4_isBlank 42 = .ok (.ireturn, 1) := by decide +kernel
theorem dX4_charAt_0 : decode cX4_charAt 0 = .ok (.iload_n 2, 1) := by decide +kernel
theorem dX4_charAt_1 : decode cX4_charAt 1 = .ok (.iconst 0, 1) := by decide +kernel
theorem dX4_charAt_2 : decode cX4_charAt 2 = .ok (.aload_n 0, 1) := by decide +kernel
theorem dX4_charAt_3 : decode cX4_charAt 3 = .ok (.iload_n 1, 1) := by decide +kernel
theorem dX4_charAt_4 : decode cX4_charAt 4 = .ok (.invokevirtual 67, 3) := by decide +kernel
theorem dX4_charAt_7 : decode cX4_charAt 7 = .ok (.iconst 1, 1) := by decide +kernel
theorem dX4_charAt_8 : decode cX4_charAt 8 = .ok (.isub, 1) := by decide +kernel
theorem dX4_charAt_9 : decode cX4_charAt 9 = .ok (.invokestatic 46, 3) := by decide +kernel
theorem dX4_charAt_12 : decode cX4_charAt 12 = .ok (.ifCond .eq 12, 3) := by decide +kernel
theorem dX4_charAt_15 : decode cX4_charAt 15 = .ok (.aload_n 0, 1) := by decide +kernel
theorem dX4_charAt_16 : decode cX4_charAt 16 = .ok (.iload_n 1, 1) := by decide +kernel
theorem dX4_charAt_17 : decode cX4_charAt 17 = .ok (.iload_n 2, 1) := by decide +kernel
theorem dX4_charAt_18 : decode cX4_charAt 18 = .ok (.invokevirtual 58, 3) := by decide +kernel
theorem dX4_charAt_21 : decode cX4_charAt 21 = .ok (.goto 5, 3) := by decide +kernel
theorem dX4_charAt_24 : decode cX4_charAt 24 = .ok (.ldc 87, 2) := by decide +kernel
theorem dX4_charAt_26 : decode cX4_charAt 26 = .ok (.ireturn, 1) := by decide +kernel
theorem dX4_hash_0 : decode cX4_hash 0 = .ok (.iconst 0, 1) := by decide +kernel
theorem dX4_hash_1 : decode cX4_hash 1 = .ok (.istore_n 2, 1) := by decide +kernel
theorem dX4_hash_2 : decode cX4_hash 2 = .ok (.iconst 0, 1) := by decide +kernel
theorem dX4_hash_3 : decode cX4_hash 3 = .ok (.istore_n 3, 1) := by decide +kernel
theorem dX4_hash_4 : decode cX4_hash 4 = .ok (.iload_n 3, 1) := by decide +kernel
theorem dX4_hash_5 : decode cX4_hash 5 = .ok (.aload_n 0, 1) := by decide +kernel
theorem dX4_hash_6 : decode cX4_hash 6 = .ok (.iload_n 1, 1) := by decide +kernel
theorem dX4_hash_7 : decode cX4_hash 7 = .ok (.invokevirtual 67, 3) := by decide +kernel
theorem dX4_hash_10 : decode cX4_hash 10 = .ok (.if_icmp .ge 21, 3) := by decide +kernel
theorem dX4_hash_13 : decode cX4_hash 13 = .ok (.bipush 31, 2) := by decide +kernel
theorem dX4_hash_15 : decode cX4_hash 15 = .ok (.iload_n 2, 1) := by decide +kernel
theorem dX4_hash_16 : decode cX4_hash 16 = .ok (.imul, 1) := by decide +kernel
theorem dX4_hash_17 : decode cX4_hash 17 = .ok (.aload_n 0, 1) := by decide +kernel
theorem dX4_hash_18 : decode cX4_hash 18 = .ok (.iload_n 1, 1) := by decide +kernel
theorem dX4_hash_19 : decode cX4_hash 19 = .ok (.iload_n 3, 1) := by decide +kernel
theorem dX4_hash_20 : decode cX4_hash 20 = .ok (.invokevirtual 58, 3) := by decide +kernel
theorem dX4_hash_23 : decode cX4_hash 23 = .ok (.iadd, 1) := by decide +kernel
theorem dX4_hash_24 : decode cX4_hash 24 = .ok (.istore_n 2, 1) := by decide +kernel
theorem dX4_hash_25 : decode cX4_hash 25 = .ok (.iinc 3 1, 3) := by decide +kernel
theorem dX4_hash_28 : decode cX4_hash 28 = .ok (.goto (-24), 3) := by decide +kernel
theorem dX4_hash_31 : decode cX4_hash 31 = .ok (.iload_n 2, 1) := by decide +kernel
theorem dX4_hash_32 : decode cX4_hash 32 = .ok (.ireturn, 1) := by decide +kernel
theorem dX4_first_0 : decode cX4_first 0 = .ok (.aload_n 0, 1) := by decide +kernel
theorem dX4_first_1 : decode cX4_first 1 = .ok (.iload_n 1, 1) := by decide +kernel
theorem dX4_first_2 : decode cX4_first 2 = .ok (.iload_n 2, 1) := by decide +kernel
theorem dX4_first_3 : decode cX4_first 3 = .ok (.iconst 0, 1) := by decide +kernel
theorem dX4_first_4 : decode cX4_first 4 = .ok (.invokevirtual 101, 3) := by decide +kernel
theorem dX4_first_7 : decode cX4_first 7 = .ok (.ireturn, 1) := by decide +kernel
theorem dX4_firstFrom_0 : decode cX4_firstFrom 0 = .ok (.iconst (-1), 1) := by decide +kernel
theorem dX4_firstFrom_1 : decode cX4_firstFrom 1 = .ok (.istore 4, 2) := by decide +kernel
theorem dX4_firstFrom_3 : decode cX4_firstFrom 3 = .ok (.aload_n 0, 1) := by decide +kernel
theorem dX4_firstFrom_4 : decode cX4_firstFrom 4 = .ok (.iload_n 1, 1) := by decide +kernel
theorem dX4_firstFrom_5 : decode cX4_firstFrom 5 = .ok (.invokevirtual 67, 3) := by decide +kernel
theorem dX4_firstFrom_8 : decode cX4_firstFrom 8 = .ok (.iconst 1, 1) := by decide +kernel
theorem dX4_firstFrom_9 : decode cX4_firstFrom 9 = .ok (.isub, 1) := by decide +kernel
theorem dX4_firstFrom_10 : decode cX4_firstFrom 10 = .ok (.istore 5, 2) := by decide +kernel
theorem dX4_firstFrom_12 : decode cX4_firstFrom 12 = .ok (.iload 5, 2) := by decide +kernel
theorem dX4_firstFrom_14 : decode cX4_firstFrom 14 = .ok (.iload_n 3, 1) := by decide +kernel
theorem dX4_firstFrom_15 : decode cX4_firstFrom 15 = .ok (.if_icmp .lt 34, 3) := by decide +kernel
theorem dX4_firstFrom_18 : decode cX4_firstFrom 18 = .ok (.iload 5, 2) := by decide +kernel
theorem dX4_firstFrom_20 : decode cX4_firstFrom 20 = .ok (.ifCond .lt 29, 3) := by decide +kernel
theorem dX4_firstFrom_23 : decode cX4_firstFrom 23 = .ok (.aload_n 0, 1) := by decide +kernel
theorem dX4_firstFrom_24 : decode cX4_firstFrom 24 = .ok (.iload_n 1, 1) := by decide +kernel
theorem dX4_firstFrom_25 : decode cX4_firstFrom 25 = .ok (.iload 5, 2) := by decide +kernel
theorem dX4_firstFrom_27 : decode cX4_firstFrom 27 = .ok (.invokevirtual 58, 3) := by decide +kernel
theorem dX4_firstFrom_30 : decode cX4_firstFrom 30 = .ok (.iload_n 2, 1) := by decide +kernel
theorem dX4_firstFrom_31 : decode cX4_firstFrom 31 = .ok (.if_icmp .ne 8, 3) := by decide +kernel
theorem dX4_firstFrom_34 : decode cX4_firstFrom 34 = .ok (.iload 5, 2) := by decide +kernel
theorem dX4_firstFrom_36 : decode cX4_firstFrom 36 = .ok (.goto 5, 3) := by decide +kernel
theorem dX4_firstFrom_39 : decode cX4_firstFrom 39 = .ok (.iload 4, 2) := by decide +kernel
theorem dX4_firstFrom_41 : decode cX4_firstFrom 41 = .ok (.istore 4, 2) := by decide +kernel
theorem dX4_firstFrom_43 : decode cX4_firstFrom 43 = .ok (.iinc 5 (-1), 3) := by decide +kernel
theorem dX4_firstFrom_46 : decode cX4_firstFrom 46 = .ok (.goto (-34), 3) := by decide +kernel
theorem dX4_firstFrom_49 : decode cX4_firstFrom 49 = .ok (.iload 4, 2) := by decide +kernel
theorem dX4_firstFrom_51 : decode cX4_firstFrom 51 = .ok (.ireturn, 1) := by decide +kernel
theorem dX4_last_0 : decode cX4_last 0 = .ok (.aload_n 0, 1) := by decide +kernel
theorem dX4_last_1 : decode cX4_last 1 = .ok (.iload_n 1, 1) := by decide +kernel
theorem dX4_last_2 : decode cX4_last 2 = .ok (.iload_n 2, 1) := by decide +kernel
theorem dX4_last_3 : decode cX4_last 3 = .ok (.sipush 300, 3) := by decide +kernel
theorem dX4_last_6 : decode cX4_last 6 = .ok (.invokevirtual 105, 3) := by decide +kernel
theorem dX4_last_9 : decode cX4_last 9 = .ok (.ireturn, 1) := by decide +kernel
theorem dX4_lastFrom_0 : decode cX4_lastFrom 0 = .ok (.iconst (-1), 1) := by decide +kernel
theorem dX4_lastFrom_1 : decode cX4_lastFrom 1 = .ok (.istore 4, 2) := by decide +kernel
theorem dX4_lastFrom_3 : decode cX4_lastFrom 3 = .ok (.iconst 0, 1) := by decide +kernel
theorem dX4_lastFrom_4 : decode cX4_lastFrom 4 = .ok (.istore 5, 2) := by decide +kernel
theorem dX4_lastFrom_6 : decode cX4_lastFrom 6 = .ok (.iload 5, 2) := by decide +kernel
theorem dX4_lastFrom_8 : decode cX4_lastFrom 8 = .ok (.aload_n 0, 1) := by decide +kernel
theorem dX4_lastFrom_9 : decode cX4_lastFrom 9 = .ok (.iload_n 1, 1) := by decide +kernel
theorem dX4_lastFrom_10 : decode cX4_lastFrom 10 = .ok (.invokevirtual 67, 3) := by decide +kernel
theorem dX4_lastFrom_13 : decode cX4_lastFrom 13 = .ok (.if_icmp .ge 35, 3) := by decide +kernel
theorem dX4_lastFrom_16 : decode cX4_lastFrom 16 = .ok (.iload 5, 2) := by decide +kernel
theorem dX4_lastFrom_18 : decode cX4_lastFrom 18 = .ok (.iload_n 3, 1) := by decide +kernel
theorem dX4_lastFrom_19 : decode cX4_lastFrom 19 = .ok (.if_icmp .gt 29, 3) := by decide +kernel
theorem dX4_lastFrom_22 : decode cX4_lastFrom 22 = .ok (.aload_n 0, 1) := by decide +kernel
theorem dX4_lastFrom_23 : decode cX4_lastFrom 23 = .ok (.iload_n 1, 1) := by decide +kernel
theorem dX4_lastFrom_24 : decode cX4_lastFrom 24 = .ok (.iload 5, 2) := by decide +kernel
theorem dX4_lastFrom_26 : decode cX4_lastFrom 26 = .ok (.invokevirtual 58, 3) := by decide +kernel
theorem dX4_lastFrom_29 : decode cX4_lastFrom 29 = .ok (.iload_n 2, 1) := by decide +kernel
theorem dX4_lastFrom_30 : decode cX4_lastFrom 30 = .ok (.if_icmp .ne 8, 3) := by decide +kernel
theorem dX4_lastFrom_33 : decode cX4_lastFrom 33 = .ok (.iload 5, 2) := by decide +kernel
theorem dX4_lastFrom_35 : decode cX4_lastFrom 35 = .ok (.goto 5, 3) := by decide +kernel
theorem dX4_lastFrom_38 : decode cX4_lastFrom 38 = .ok (.iload 4, 2) := by decide +kernel
theorem dX4_lastFrom_40 : decode cX4_lastFrom 40 = .ok (.istore 4, 2) := by decide +kernel
theorem dX4_lastFrom_42 : decode cX4_lastFrom 42 = .ok (.iinc 5 1, 3) := by decide +kernel
theorem dX4_lastFrom_45 : decode cX4_lastFrom 45 = .ok (.goto (-39), 3) := by decide +kernel
theorem dX4_lastFrom_48 : decode cX4_lastFrom 48 = .ok (.iload 4, 2) := by decide +kernel
theorem dX4_lastFrom_50 : decode cX4_lastFrom 50 = .ok (.ireturn, 1) := by decide +kernel
theorem dX4_stands_0 : decode cX4_stands 0 = .ok (.aload_n 0, 1) := by decide +kernel
theorem dX4_stands_1 : decode cX4_stands 1 = .ok (.iload_n 2, 1) := by decide +kernel
theorem dX4_stands_2 : decode cX4_stands 2 = .ok (.invokevirtual 67, 3) := by decide +kernel
theorem dX4_stands_5 : decode cX4_stands 5 = .ok (.istore 4, 2) := by decide +kernel
theorem dX4_stands_7 : decode cX4_stands 7 = .ok (.iload_n 3, 1) := by decide +kernel
theorem dX4_stands_8 : decode cX4_stands 8 = .ok (.ifCond .lt 19, 3) := by decide +kernel
theorem dX4_stands_11 : decode cX4_stands 11 = .ok (.iload_n 3, 1) := by decide +kernel
theorem dX4_stands_12 : decode cX4_stands 12 = .ok (.aload_n 0, 1) := by decide +kernel
theorem dX4_stands_13 : decode cX4_stands 13 = .ok (.iload_n 1, 1) := by decide +kernel
theorem dX4_stands_14 : decode cX4_stands 14 = .ok (.invokevirtual 67, 3) := by decide +kernel
theorem dX4_stands_17 : decode cX4_stands 17 = .ok (.iload 4, 2) := by decide +kernel
theorem dX4_stands_19 : decode cX4_stands 19 = .ok (.isub, 1) := by decide +kernel
theorem dX4_stands_20 : decode cX4_stands 20 = .ok (.if_icmp .gt 7, 3) := by decide +kernel
theorem dX4_stands_23 : decode cX4_stands 23 = .ok (.iconst 1, 1) := by decide +kernel
theorem dX4_stands_24 : decode cX4_stands 24 = .ok (.goto 4, 3) := by decide +kernel
theorem dX4_stands_27 : decode cX4_stands 27 = .ok (.iconst 0, 1) := by decide +kernel
theorem dX4_stands_28 : decode cX4_stands 28 = .ok (.istore 5, 2) := by decide +kernel
theorem dX4_stands_30 : decode cX4_stands 30 = .ok (.iconst 0, 1) := by decide +kernel
theorem dX4_stands_31 : decode cX4_stands 31 = .ok (.istore 6, 2) := by decide +kernel
theorem dX4_stands_33 : decode cX4_stands 33 = .ok (.iload 6, 2) := by decide +kernel
theorem dX4_stands_35 : decode cX4_stands 35 = .ok (.iload 4, 2) := by decide +kernel
theorem dX4_stands_37 : decode cX4_stands 37 = .ok (.if_icmp .ge 40, 3) := by decide +kernel
theorem dX4_stands_40 : decode cX4_stands 40 = .ok (.iload 5, 2) := by decide +kernel
theorem dX4_stands_42 : decode cX4_stands 42 = .ok (.ifCond .eq 35, 3) := by decide +kernel
theorem dX4_stands_45 : decode cX4_stands 45 = .ok (.aload_n 0, 1) := by decide +kernel
theorem dX4_stands_46 : decode cX4_stands 46 = .ok (.iload_n 1, 1) := by decide +kernel
theorem dX4_stands_47 : decode cX4_stands 47 = .ok (.iload_n 3, 1) := by decide +kernel
theorem dX4_stands_48 : decode cX4_stands 48 = .ok (.iload 6, 2) := by decide +kernel
theorem dX4_stands_50 : decode cX4_stands 50 = .ok (.iadd, 1) := by decide +kernel
theorem dX4_stands_51 : decode cX4_stands 51 = .ok (.invokevirtual 58, 3) := by decide +kernel
theorem dX4_stands_54 : decode cX4_stands 54 = .ok (.aload_n 0, 1) := by decide +kernel
theorem dX4_stands_55 : decode cX4_stands 55 = .ok (.iload_n 2, 1) := by decide +kernel
theorem dX4_stands_56 : decode cX4_stands 56 = .ok (.iload 6, 2) := by decide +kernel
theorem dX4_stands_58 : decode cX4_stands 58 = .ok (.invokevirtual 58, 3) := by decide +kernel
theorem dX4_stands_61 : decode cX4_stands 61 = .ok (.if_icmp .ne 7, 3) := by decide +kernel
theorem dX4_stands_64 : decode cX4_stands 64 = .ok (.iconst 1, 1) := by decide +kernel
theorem dX4_stands_65 : decode cX4_stands 65 = .ok (.goto 4, 3) := by decide +kernel
theorem dX4_stands_68 : decode cX4_stands 68 = .ok (.iconst 0, 1) := by decide +kernel
theorem dX4_stands_69 : decode cX4_stands 69 = .ok (.istore 5, 2) := by decide +kernel
theorem dX4_stands_71 : decode cX4_stands 71 = .ok (.iinc 6 1, 3) := by decide +kernel
theorem dX4_stands_74 : decode cX4_stands 74 = .ok (.goto (-41), 3) := by decide +kernel
theorem dX4_stands_77 : decode cX4_stands 77 = .ok (.iload 5, 2) := by decide +kernel
theorem dX4_stands_79 : decode cX4_stands 79 = .ok (.ireturn, 1) := by decide +kernel
theorem dX4_find_0 : decode cX4_find 0 = .ok (.aload_n 0, 1) := by decide +kernel
theorem dX4_find_1 : decode cX4_find 1 = .ok (.iload_n 1, 1) := by decide +kernel
theorem dX4_find_2 : decode cX4_find 2 = .ok (.iload_n 2, 1) := by decide +kernel
theorem dX4_find_3 : decode cX4_find 3 = .ok (.iconst 0, 1) := by decide +kernel
theorem dX4_find_4 : decode cX4_find 4 = .ok (.invokevirtual 108, 3) := by decide +kernel
theorem dX4_find_7 : decode cX4_find 7 = .ok (.ireturn, 1) := by decide +kernel
theorem dX4_findFrom_0 : decode cX4_findFrom 0 = .ok (.aload_n 0, 1) := by decide +kernel
theorem dX4_findFrom_1 : decode cX4_findFrom 1 = .ok (.iload_n 1, 1) := by decide +kernel
theorem dX4_findFrom_2 : decode cX4_findFrom 2 = .ok (.invokevirtual 67, 3) := by decide +kernel
theorem dX4_findFrom_5 : decode cX4_findFrom 5 = .ok (.istore 4, 2) := by decide +kernel
theorem dX4_findFrom_7 : decode cX4_findFrom 7 = .ok (.iload_n 3, 1) := by decide +kernel
theorem dX4_findFrom_8 : decode cX4_findFrom 8 = .ok (.ifCond .ge 7, 3) := by decide +kernel
theorem dX4_findFrom_11 : decode cX4_findFrom 11 = .ok (.iconst 0, 1) := by decide +kernel
theorem dX4_findFrom_12 : decode cX4_findFrom 12 = .ok (.goto 15, 3) := by decide +kernel
theorem dX4_findFrom_15 : decode cX4_findFrom 15 = .ok (.iload_n 3, 1) := by decide +kernel
theorem dX4_findFrom_16 : decode cX4_findFrom 16 = .ok (.iload 4, 2) := by decide +kernel
theorem dX4_findFrom_18 : decode cX4_findFrom 18 = .ok (.if_icmp .le 8, 3) := by decide +kernel
theorem dX4_findFrom_21 : decode cX4_findFrom 21 = .ok (.iload 4, 2) := by decide +kernel
theorem dX4_findFrom_23 : decode cX4_findFrom 23 = .ok (.goto 4, 3) := by decide +kernel
theorem dX4_findFrom_26 : decode cX4_findFrom 26 = .ok (.iload_n 3, 1) := by decide +kernel
theorem dX4_findFrom_27 : decode cX4_findFrom 27 = .ok (.istore 5, 2) := by decide +kernel
theorem dX4_findFrom_29 : decode cX4_findFrom 29 = .ok (.iload 5, 2) := by decide +kernel
theorem dX4_findFrom_31 : decode cX4_findFrom 31 = .ok (.istore 6, 2) := by decide +kernel
theorem dX4_findFrom_33 : decode cX4_findFrom 33 = .ok (.iload 6, 2) := by decide +kernel
theorem dX4_findFrom_35 : decode cX4_findFrom 35 = .ok (.iload 4, 2) := by decide +kernel
theorem dX4_findFrom_37 : decode cX4_findFrom 37 = .ok (.if_icmp .gt 23, 3) := by decide +kernel
theorem dX4_findFrom_40 : decode cX4_findFrom 40 = .ok (.aload_n 0, 1) := by decide +kernel
theorem dX4_findFrom_41 : decode cX4_findFrom 41 = .ok (.iload_n 1, 1) := by decide +kernel
theorem dX4_findFrom_42 : decode cX4_findFrom 42 = .ok (.iload_n 2, 1) := by decide +kernel
theorem dX4_findFrom_43 : decode cX4_findFrom 43 = .ok (.iload 6, 2) := by decide +kernel
theorem dX4_findFrom_45 : decode cX4_findFrom 45 = .ok (.invokevirtual 111, 3) := by decide +kernel
theorem dX4_findFrom_48 : decode cX4_findFrom 48 = .ok (.ifCond .eq 6, 3) := by decide +kernel
theorem dX4_findFrom_51 : decode cX4_findFrom 51 = .ok (.iload 6, 2) := by decide +kernel
theorem dX4_findFrom_53 : decode cX4_findFrom 53 = .ok (.ireturn, 1) := by decide +kernel
theorem dX4_findFrom_54 : decode cX4_findFrom 54 = .ok (.iinc 6 1, 3) := by decide +kernel
theorem dX4_findFrom_57 : decode cX4_findFrom 57 = .ok (.goto (-24), 3) := by decide +kernel
theorem dX4_findFrom_60 : decode cX4_findFrom 60 = .ok (.iconst (-1), 1) := by decide +kernel
theorem dX4_findFrom_61 : decode cX4_findFrom 61 = .ok (.ireturn, 1) := by decide +kernel
theorem dX4_findLast_0 : decode cX4_findLast 0 = .ok (.aload_n 0, 1) := by decide +kernel
theorem dX4_findLast_1 : decode cX4_findLast 1 = .ok (.iload_n 1, 1) := by decide +kernel
theorem dX4_findLast_2 : decode cX4_findLast 2 = .ok (.iload_n 2, 1) := by decide +kernel
theorem dX4_findLast_3 : decode cX4_findLast 3 = .ok (.sipush 300, 3) := by decide +kernel
theorem dX4_findLast_6 : decode cX4_findLast 6 = .ok (.invokevirtual 114, 3) := by decide +kernel
theorem dX4_findLast_9 : decode cX4_findLast 9 = .ok (.ireturn, 1) := by decide +kernel
theorem dX4_findLastFrom_0 : decode cX4_findLastFrom 0 = .ok (.aload_n 0, 1) := by decide +kernel
theorem dX4_findLastFrom_1 : decode cX4_findLastFrom 1 = .ok (.iload_n 1, 1) := by decide +kernel
theorem dX4_findLastFrom_2 : decode cX4_findLastFrom 2 = .ok (.invokevirtual 67, 3) := by decide +kernel
theorem dX4_findLastFrom_5 : decode cX4_findLastFrom 5 = .ok (.istore 4, 2) := by decide +kernel
theorem dX4_findLastFrom_7 : decode cX4_findLastFrom 7 = .ok (.iload_n 3, 1) := by decide +kernel
theorem dX4_findLastFrom_8 : decode cX4_findLastFrom 8 = .ok (.iload 4, 2) := by decide +kernel
theorem dX4_findLastFrom_10 : decode cX4_findLastFrom 10 = .ok (.if_icmp .le 8, 3) := by decide +kernel
theorem dX4_findLastFrom_13 : decode cX4_findLastFrom 13 = .ok (.iload 4, 2) := by decide +kernel
theorem dX4_findLastFrom_15 : decode cX4_findLastFrom 15 = .ok (.goto 4, 3) := by decide +kernel
theorem dX4_findLastFrom_18 : decode cX4_findLastFrom 18 = .ok (.iload_n 3, 1) := by decide +kernel
theorem dX4_findLastFrom_19 : decode cX4_findLastFrom 19 = .ok (.istore 5, 2) := by decide +kernel
theorem dX4_findLastFrom_21 : decode cX4_findLastFrom 21 = .ok (.iload 5, 2) := by decide +kernel
theorem dX4_findLastFrom_23 : decode cX4_findLastFrom 23 = .ok (.ifCond .lt 23, 3) := by decide +kernel
theorem dX4_findLastFrom_26 : decode cX4_findLastFrom 26 = .ok (.aload_n 0, 1) := by decide +kernel
theorem dX4_findLastFrom_27 : decode cX4_findLastFrom 27 = .ok (.iload_n 1, 1) := by decide +kernel
theorem dX4_findLastFrom_28 : decode cX4_findLastFrom 28 = .ok (.iload_n 2, 1) := by decide +kernel
theorem dX4_findLastFrom_29 : decode cX4_findLastFrom 29 = .ok (.iload 5, 2) := by decide +kernel
theorem dX4_findLastFrom_31 : decode cX4_findLastFrom 31 = .ok (.invokevirtual 111, 3) := by decide +kernel
theorem dX4_findLastFrom_34 : decode cX4_findLastFrom 34 = .ok (.ifCond .eq 6, 3) := by decide +kernel
theorem dX4_findLastFrom_37 : decode cX4_findLastFrom 37 = .ok (.iload 5, 2) := by decide +kernel
theorem dX4_findLastFrom_39 : decode cX4_findLastFrom 39 = .ok (.ireturn, 1) := by decide +kernel
theorem dX4_findLastFrom_40 : decode cX4_findLastFrom 40 = .ok (.iinc 5 (-1), 3) := by decide +kernel
theorem dX4_findLastFrom_43 : decode cX4_findLastFrom 43 = .ok (.goto (-22), 3) := by decide +kernel
theorem dX4_findLastFrom_46 : decode cX4_findLastFrom 46 = .ok (.iconst (-1), 1) := by decide +kernel
theorem dX4_findLastFrom_47 : decode cX4_findLastFrom 47 = .ok (.ireturn, 1) := by decide +kernel
theorem dX4_contains_0 : decode cX4_contains 0 = .ok (.aload_n 0, 1) := by decide +kernel
theorem dX4_contains_1 : decode cX4_contains 1 = .ok (.iload_n 1, 1) := by decide +kernel
theorem dX4_contains_2 : decode cX4_contains 2 = .ok (.iload_n 2, 1) := by decide +kernel
theorem dX4_contains_3 : decode cX4_contains 3 = .ok (.invokevirtual 117, 3) := by decide +kernel
theorem dX4_contains_6 : decode cX4_contains 6 = .ok (.iconst (-1), 1) := by decide +kernel
theorem dX4_contains_7 : decode cX4_contains 7 = .ok (.if_icmp .eq 7, 3) := by decide +kernel
theorem dX4_contains_10 : decode cX4_contains 10 = .ok (.iconst 1, 1) := by decide +kernel
theorem dX4_contains_11 : decode cX4_contains 11 = .ok (.goto 4, 3) := by decide +kernel
theorem dX4_contains_14 : decode cX4_contains 14 = .ok (.iconst 0, 1) := by decide +kernel
theorem dX4_contains_15 : decode cX4_contains 15 = .ok (.ireturn, 1) := by decide +kernel
theorem dX4_starts_0 : decode cX4_starts 0 = .ok (.aload_n 0, 1) := by decide +kernel
theorem dX4_starts_1 : decode cX4_starts 1 = .ok (.iload_n 1, 1) := by decide +kernel
theorem dX4_starts_2 : decode cX4_starts 2 = .ok (.iload_n 2, 1) := by decide +kernel
theorem dX4_starts_3 : decode cX4_starts 3 = .ok (.iconst 0, 1) := by decide +kernel
theorem dX4_starts_4 : decode cX4_starts 4 = .ok (.invokevirtual 111, 3) := by decide +kernel
theorem dX4_starts_7 : decode cX4_starts 7 = .ok (.ireturn, 1) := by decide +kernel
theorem dX4_startsAt_0 : decode cX4_startsAt 0 = .ok (.aload_n 0, 1) := by decide +kernel
theorem dX4_startsAt_1 : decode cX4_startsAt 1 = .ok (.iload_n 1, 1) := by decide +kernel
theorem dX4_startsAt_2 : decode cX4_startsAt 2 = .ok (.iload_n 2, 1) := by decide +kernel
theorem dX4_startsAt_3 : decode cX4_startsAt 3 = .ok (.iload_n 3, 1) := by decide +kernel
theorem dX4_startsAt_4 : decode cX4_startsAt 4 = .ok (.invokevirtual 111, 3) := by decide +kernel
theorem dX4_startsAt_7 : decode cX4_startsAt 7 = .ok (.ireturn, 1) := by decide +kernel
theorem dX4_ends_0 : decode cX4_ends 0 = .ok (.aload_n 0, 1) := by decide +kernel
theorem dX4_ends_1 : decode cX4_ends 1 = .ok (.iload_n 1, 1) := by decide +kernel
theorem dX4_ends_2 : decode cX4_ends 2 = .ok (.iload_n 2, 1) := by decide +kernel
theorem dX4_ends_3 : decode cX4_ends 3 = .ok (.aload_n 0, 1) := by decide +kernel
theorem dX4_ends_4 : decode cX4_ends 4 = .ok (.iload_n 1, 1) := by decide +kernel
theorem dX4_ends_5 : decode cX4_ends 5 = .ok (.invokevirtual 67, 3) := by decide +kernel
theorem dX4_ends_8 : decode cX4_ends 8 = .ok (.aload_n 0, 1) := by decide +kernel
theorem dX4_ends_9 : decode cX4_ends 9 = .ok (.iload_n 2, 1) := by decide +kernel
theorem dX4_ends_10 : decode cX4_ends 10 = .ok (.invokevirtual 67, 3) := by decide +kernel
theorem dX4_ends_13 : decode cX4_ends 13 = .ok (.isub, 1) := by decide +kernel
theorem dX4_ends_14 : decode cX4_ends 14 = .ok (.invokevirtual 111, 3) := by decide +kernel
theorem dX4_ends_17 : decode cX4_ends 17 = .ok (.ireturn, 1) := by decide +kernel
theorem dX4_small_0 : decode cX4_small 0 = .ok (.iload_n 0, 1) := by decide +kernel
theorem dX4_small_1 : decode cX4_small 1 = .ok (.bipush 65, 2) := by decide +kernel
theorem dX4_small_3 : decode cX4_small 3 = .ok (.bipush 90, 2) := by decide +kernel
theorem dX4_small_5 : decode cX4_small 5 = .ok (.invokestatic 46, 3) := by decide +kernel
theorem dX4_small_8 : decode cX4_small 8 = .ok (.ifCond .eq 10, 3) := by decide +kernel
theorem dX4_small_11 : decode cX4_small 11 = .ok (.iload_n 0, 1) := by decide +kernel
theorem dX4_small_12 : decode cX4_small 12 = .ok (.bipush 32, 2) := by decide +kernel
theorem dX4_small_14 : decode cX4_small 14 = .ok (.iadd, 1) := by decide +kernel
theorem dX4_small_15 : decode cX4_small 15 = .ok (.goto 4, 3) := by decide +kernel
theorem dX4_small_18 : decode cX4_small 18 = .ok (.iload_n 0, 1) := by decide +kernel
theorem dX4_small_19 : decode cX4_small 19 = .ok (.ireturn, 1) := by decide +kernel
theorem dX4_isRegion_0 : decode cX4_isRegion 0 = .ok (.iload_n 2, 1) := by decide +kernel
theorem dX4_isRegion_1 : decode cX4_isRegion 1 = .ok (.ifCond .lt 41, 3) := by decide +kernel
theorem dX4_isRegion_4 : decode cX4_isRegion 4 = .ok (.iload 4, 2) := by decide +kernel
theorem dX4_isRegion_6 : decode cX4_isRegion 6 = .ok (.ifCond .lt 36, 3) := by decide +kernel
theorem dX4_isRegion_9 : decode cX4_isRegion 9 = .ok (.iload_n 2, 1) := by decide +kernel
theorem dX4_isRegion_10 : decode cX4_isRegion 10 = .ok (.i2l, 1) := by decide +kernel
theorem dX4_isRegion_11 : decode cX4_isRegion 11 = .ok (.iload 5, 2) := by decide +kernel
theorem dX4_isRegion_13 : decode cX4_isRegion 13 = .ok (.i2l, 1) := by decide +kernel
theorem dX4_isRegion_14 : decode cX4_isRegion 14 = .ok (.ladd, 1) := by decide +kernel
theorem dX4_isRegion_15 : decode cX4_isRegion 15 = .ok (.aload_n 0, 1) := by decide +kernel
theorem dX4_isRegion_16 : decode cX4_isRegion 16 = .ok (.iload_n 1, 1) := by decide +kernel
theorem dX4_isRegion_17 : decode cX4_isRegion 17 = .ok (.invokevirtual 67, 3) := by decide +kernel
theorem dX4_isRegion_20 : decode cX4_isRegion 20 = .ok (.i2l, 1) := by decide +kernel
theorem dX4_isRegion_21 : decode cX4_isRegion 21 = .ok (.lcmp, 1) := by decide +kernel
theorem dX4_isRegion_22 : decode cX4_isRegion 22 = .ok (.ifCond .gt 20, 3) := by decide +kernel
theorem dX4_isRegion_25 : decode cX4_isRegion 25 = .ok (.iload 4, 2) := by decide +kernel
theorem dX4_isRegion_27 : decode cX4_isRegion 27 = .ok (.i2l, 1) := by decide +kernel
theorem dX4_isRegion_28 : decode cX4_isRegion 28 = .ok (.iload 5, 2) := by decide +kernel
theorem dX4_isRegion_30 : decode cX4_isRegion 30 = .ok (.i2l, 1) := by decide +kernel
theorem dX4_isRegion_31 : decode cX4_isRegion 31 = .ok (.ladd, 1) := by decide +kernel
theorem dX4_isRegion_32 : decode cX4_isRegion 32 = .ok (.aload_n 0, 1) := by decide +kernel
theorem dX4_isRegion_33 : decode cX4_isRegion 33 = .ok (.iload_n 3, 1) := by decide +kernel
theorem dX4_isRegion_34 : decode cX4_isRegion 34 = .ok (.invokevirtual 67, 3) := by decide +kernel
theorem dX4_isRegion_37 : decode cX4_isRegion 37 = .ok (.i2l, 1) := by decide +kernel
theorem dX4_isRegion_38 : decode cX4_isRegion 38 = .ok (.lcmp, 1) := by decide +kernel
theorem dX4_isRegion_39 : decode cX4_isRegion 39 = .ok (.ifCond .le 5, 3) := by decide +kernel
theorem dX4_isRegion_42 : decode cX4_isRegion 42 = .ok (.iconst 0, 1) := by decide +kernel
theorem dX4_isRegion_43 : decode cX4_isRegion 43 = .ok (.ireturn, 1) := by decide +kernel
theorem dX4_isRegion_44 : decode cX4_isRegion 44 = .ok (.iconst 1, 1) := by decide +kernel
theorem dX4_isRegion_45 : decode cX4_isRegion 45 = .ok (.istore 7, 2) := by decide +kernel
theorem dX4_isRegion_47 : decode cX4_isRegion 47 = .ok (.iconst 0, 1) := by decide +kernel
theorem dX4_isRegion_48 : decode cX4_isRegion 48 = .ok (.istore 8, 2) := by decide +kernel
theorem dX4_isRegion_50 : decode cX4_isRegion 50 = .ok (.iload 8, 2) := by decide +kernel
theorem dX4_isRegion_52 : decode cX4_isRegion 52 = .ok (.iload 5, 2) := by decide +kernel
theorem dX4_isRegion_54 : decode cX4_isRegion 54 = .ok (.if_icmp .ge 77, 3) := by decide +kernel
theorem dX4_isRegion_57 : decode cX4_isRegion 57 = .ok (.iload 7, 2) := by decide +kernel
theorem dX4_isRegion_59 : decode cX4_isRegion 59 = .ok (.ifCond .eq 72, 3) := by decide +kernel
theorem dX4_isRegion_62 : decode cX4_isRegion 62 = .ok (.aload_n 0, 1) := by decide +kernel
theorem dX4_isRegion_63 : decode cX4_isRegion 63 = .ok (.iload_n 1, 1) := by decide +kernel
theorem dX4_isRegion_64 : decode cX4_isRegion 64 = .ok (.iload_n 2, 1) := by decide +kernel
theorem dX4_isRegion_65 : decode cX4_isRegion 65 = .ok (.iload 8, 2) := by decide +kernel
theorem dX4_isRegion_67 : decode cX4_isRegion 67 = .ok (.iadd, 1) := by decide +kernel
theorem dX4_isRegion_68 : decode cX4_isRegion 68 = .ok (.invokevirtual 58, 3) := by decide +kernel
theorem dX4_isRegion_71 : decode cX4_isRegion 71 = .ok (.istore 9, 2) := by decide +kernel
theorem dX4_isRegion_73 : decode cX4_isRegion 73 = .ok (.aload_n 0, 1) := by decide +kernel
theorem dX4_isRegion_74 : decode cX4_isRegion 74 = .ok (.iload_n 3, 1) := by decide +kernel
theorem dX4_isRegion_75 : decode cX4_isRegion 75 = .ok (.iload 4, 2) := by decide +kernel
theorem dX4_isRegion_77 : decode cX4_isRegion 77 = .ok (.iload 8, 2) := by decide +kernel
theorem dX4_isRegion_79 : decode cX4_isRegion 79 = .ok (.iadd, 1) := by decide +kernel
theorem dX4_isRegion_80 : decode cX4_isRegion 80 = .ok (.invokevirtual 58, 3) := by decide +kernel
theorem dX4_isRegion_83 : decode cX4_isRegion 83 = .ok (.istore 10, 2) := by decide +kernel
theorem dX4_isRegion_85 : decode cX4_isRegion 85 = .ok (.iload 6, 2) := by decide +kernel
theorem dX4_isRegion_87 : decode cX4_isRegion 87 = .ok (.ifCond .eq 24, 3) := by decide +kernel
theorem dX4_isRegion_90 : decode cX4_isRegion 90 = .ok (.iload 9, 2) := by decide +kernel
theorem dX4_isRegion_92 : decode cX4_isRegion 92 = .ok (.invokestatic 120, 3) := by decide +kernel
theorem dX4_isRegion_95 : decode cX4_isRegion 95 = .ok (.iload 10, 2) := by decide +kernel
theorem dX4_isRegion_97 : decode cX4_isRegion 97 = .ok (.invokestatic 120, 3) := by decide +kernel
theorem dX4_isRegion_100 : decode cX4_isRegion 100 = .ok (.if_icmp .ne 7, 3) := by decide +kernel
theorem dX4_isRegion_103 : decode cX4_isRegion 103 = .ok (.iconst 1, 1) := by decide +kernel
theorem dX4_isRegion_104 : decode cX4_isRegion 104 = .ok (.goto 19, 3) := by decide +kernel
theorem dX4_isRegion_107 : decode cX4_isRegion 107 = .ok (.iconst 0, 1) := by decide +kernel
theorem dX4_isRegion_108 : decode cX4_isRegion 108 = .ok (.goto 15, 3) := by decide +kernel
theorem dX4_isRegion_111 : decode cX4_isRegion 111 = .ok (.iload 9, 2) := by decide +kernel
theorem dX4_isRegion_113 : decode cX4_isRegion 113 = .ok (.iload 10, 2) := by decide +kernel
theorem dX4_isRegion_115 : decode cX4_isRegion 115 = .ok (.if_icmp .ne 7, 3) := by decide +kernel
theorem dX4_isRegion_118 : decode cX4_isRegion 118 = .ok (.iconst 1, 1) := by decide +kernel
theorem dX4_isRegion_119 : decode cX4_isRegion 119 = .ok (.goto 4, 3) := by decide +kernel
theorem dX4_isRegion_122 : decode cX4_isRegion 122 = .ok (.iconst 0, 1) := by decide +kernel
theorem dX4_isRegion_123 : decode cX4_isRegion 123 = .ok (.istore 7, 2) := by decide +kernel
theorem dX4_isRegion_125 : decode cX4_isRegion 125 = .ok (.iinc 8 1, 3) := by decide +kernel
theorem dX4_isRegion_128 : decode cX4_isRegion 128 = .ok (.goto (-78), 3) := by decide +kernel
theorem dX4_isRegion_131 : decode cX4_isRegion 131 = .ok (.iload 7, 2) := by decide +kernel
theorem dX4_isRegion_133 : decode cX4_isRegion 133 = .ok (.ireturn, 1) := by decide +kernel
theorem dX4_region_0 : decode cX4_region 0 = .ok (.aload_n 0, 1) := by decide +kernel
theorem dX4_region_1 : decode cX4_region 1 = .ok (.iload_n 1, 1) := by decide +kernel
theorem dX4_region_2 : decode cX4_region 2 = .ok (.iload_n 2, 1) := by decide +kernel
theorem dX4_region_3 : decode cX4_region 3 = .ok (.iload_n 3, 1) := by decide +kernel
theorem dX4_region_4 : decode cX4_region 4 = .ok (.iload 4, 2) := by decide +kernel
theorem dX4_region_6 : decode cX4_region 6 = .ok (.iload 5, 2) := by decide +kernel
theorem dX4_region_8 : decode cX4_region 8 = .ok (.iconst 0, 1) := by decide +kernel
theorem dX4_region_9 : decode cX4_region 9 = .ok (.invokevirtual 123, 3) := by decide +kernel
theorem dX4_region_12 : decode cX4_region 12 = .ok (.ireturn, 1) := by decide +kernel
theorem dX4_regionAlike_0 : decode cX4_regionAlike 0 = .ok (.aload_n 0, 1) := by decide +kernel
theorem dX4_regionAlike_1 : decode cX4_regionAlike 1 = .ok (.iload_n 1, 1) := by decide +kernel
theorem dX4_regionAlike_2 : decode cX4_regionAlike 2 = .ok (.iload_n 2, 1) := by decide +kernel
theorem dX4_regionAlike_3 : decode cX4_regionAlike 3 = .ok (.iload_n 3, 1) := by decide +kernel
theorem dX4_regionAlike_4 : decode cX4_regionAlike 4 = .ok (.iload 4, 2) := by decide +kernel
theorem dX4_regionAlike_6 : decode cX4_regionAlike 6 = .ok (.iload 5, 2) := by decide +kernel
theorem dX4_regionAlike_8 : decode cX4_regionAlike 8 = .ok (.iconst 1, 1) := by decide +kernel
theorem dX4_regionAlike_9 : decode cX4_regionAlike 9 = .ok (.invokevirtual 123, 3) := by decide +kernel
theorem dX4_regionAlike_12 : decode cX4_regionAlike 12 = .ok (.ireturn, 1) := by decide +kernel
theorem dX4_same_0 : decode cX4_same 0 = .ok (.aload_n 0, 1) := by decide +kernel
theorem dX4_same_1 : decode cX4_same 1 = .ok (.iload_n 1, 1) := by decide +kernel
theorem dX4_same_2 : decode cX4_same 2 = .ok (.invokevirtual 67, 3) := by decide +kernel
theorem dX4_same_5 : decode cX4_same 5 = .ok (.aload_n 0, 1) := by decide +kernel
theorem dX4_same_6 : decode cX4_same 6 = .ok (.iload_n 2, 1) := by decide +kernel
theorem dX4_same_7 : decode cX4_same 7 = .ok (.invokevirtual 67, 3) := by decide +kernel
theorem dX4_same_10 : decode cX4_same 10 = .ok (.if_icmp .ne 24, 3) := by decide +kernel
theorem dX4_same_13 : decode cX4_same 13 = .ok (.aload_n 0, 1) := by decide +kernel
theorem dX4_same_14 : decode cX4_same 14 = .ok (.iload_n 1, 1) := by decide +kernel
theorem dX4_same_15 : decode cX4_same 15 = .ok (.iconst 0, 1) := by decide +kernel
theorem dX4_same_16 : decode cX4_same 16 = .ok (.iload_n 2, 1) := by decide +kernel
theorem dX4_same_17 : decode cX4_same 17 = .ok (.iconst 0, 1) := by decide +kernel
theorem dX4_same_18 : decode cX4_same 18 = .ok (.aload_n 0, 1) := by decide +kernel
theorem dX4_same_19 : decode cX4_same 19 = .ok (.iload_n 1, 1) := by decide +kernel
theorem dX4_same_20 : decode cX4_same 20 = .ok (.invokevirtual 67, 3) := by decide +kernel
theorem dX4_same_23 : decode cX4_same 23 = .ok (.iconst 0, 1) := by decide +kernel
theorem dX4_same_24 : decode cX4_same 24 = .ok (.invokevirtual 123, 3) := by decide +kernel
theorem dX4_same_27 : decode cX4_same 27 = .ok (.ifCond .eq 7, 3) := by decide +kernel
theorem dX4_same_30 : decode cX4_same 30 = .ok (.iconst 1, 1) := by decide +kernel
theorem dX4_same_31 : decode cX4_same 31 = .ok (.goto 4, 3) := by decide +kernel
theorem dX4_same_34 : decode cX4_same 34 = .ok (.iconst 0, 1) := by decide +kernel
theorem dX4_same_35 : decode cX4_same 35 = .ok (.ireturn, 1) := by decide +kernel
theorem dX4_alike_0 : decode cX4_alike 0 = .ok (.aload_n 0, 1) := by decide +kernel
theorem dX4_alike_1 : decode cX4_alike 1 = .ok (.iload_n 1, 1) := by decide +kernel
theorem dX4_alike_2 : decode cX4_alike 2 = .ok (.invokevirtual 67, 3) := by decide +kernel
theorem dX4_alike_5 : decode cX4_alike 5 = .ok (.aload_n 0, 1) := by decide +kernel
theorem dX4_alike_6 : decode cX4_alike 6 = .ok (.iload_n 2, 1) := by decide +kernel
theorem dX4_alike_7 : decode cX4_alike 7 = .ok (.invokevirtual 67, 3) := by decide +kernel
theorem dX4_alike_10 : decode cX4_alike 10 = .ok (.if_icmp .ne 24, 3) := by decide +kernel
theorem dX4_alike_13 : decode cX4_alike 13 = .ok (.aload_n 0, 1) := by decide +kernel
theorem dX4_alike_14 : decode cX4_alike 14 = .ok (.iload_n 1, 1) := by decide +kernel
theorem dX4_alike_15 : decode cX4_alike 15 = .ok (.iconst 0, 1) := by decide +kernel
theorem dX4_alike_16 : decode cX4_alike 16 = .ok (.iload_n 2, 1) := by decide +kernel
theorem dX4_alike_17 : decode cX4_alike 17 = .ok (.iconst 0, 1) := by decide +kernel
theorem dX4_alike_18 : decode cX4_alike 18 = .ok (.aload_n 0, 1) := by decide +kernel
theorem dX4_alike_19 : decode cX4_alike 19 = .ok (.iload_n 1, 1) := by decide +kernel
theorem dX4_alike_20 : decode cX4_alike 20 = .ok (.invokevirtual 67, 3) := by decide +kernel
theorem dX4_alike_23 : decode cX4_alike 23 = .ok (.iconst 1, 1) := by decide +kernel
theorem dX4_alike_24 : decode cX4_alike 24 = .ok (.invokevirtual 123, 3) := by decide +kernel
theorem dX4_alike_27 : decode cX4_alike 27 = .ok (.ifCond .eq 7, 3) := by decide +kernel
theorem dX4_alike_30 : decode cX4_alike 30 = .ok (.iconst 1, 1) := by decide +kernel
theorem dX4_alike_31 : decode cX4_alike 31 = .ok (.goto 4, 3) := by decide +kernel
theorem dX4_alike_34 : decode cX4_alike 34 = .ok (.iconst 0, 1) := by decide +kernel
theorem dX4_alike_35 : decode cX4_alike 35 = .ok (.ireturn, 1) := by decide +kernel
theorem dX4_order_0 : decode cX4_order 0 = .ok (.iconst 0, 1) := by decide +kernel
theorem dX4_order_1 : decode cX4_order 1 = .ok (.istore 4, 2) := by decide +kernel
theorem dX4_order_3 : decode cX4_order 3 = .ok (.iload 4, 2) := by decide +kernel
theorem dX4_order_5 : decode cX4_order 5 = .ok (.aload_n 0, 1) := by decide +kernel
theorem dX4_order_6 : decode cX4_order 6 = .ok (.iload_n 1, 1) := by decide +kernel
theorem dX4_order_7 : decode cX4_order 7 = .ok (.invokevirtual 67, 3) := by decide +kernel
theorem dX4_order_10 : decode cX4_order 10 = .ok (.if_icmp .ge 84, 3) := by decide +kernel
theorem dX4_order_13 : decode cX4_order 13 = .ok (.iload 4, 2) := by decide +kernel
theorem dX4_order_15 : decode cX4_order 15 = .ok (.aload_n 0, 1) := by decide +kernel
theorem dX4_order_16 : decode cX4_order 16 = .ok (.iload_n 2, 1) := by decide +kernel
theorem dX4_order_17 : decode cX4_order 17 = .ok (.invokevirtual 67, 3) := by decide +kernel
theorem dX4_order_20 : decode cX4_order 20 = .ok (.if_icmp .ge 74, 3) := by decide +kernel
theorem dX4_order_23 : decode cX4_order 23 = .ok (.iload_n 3, 1) := by decide +kernel
theorem dX4_order_24 : decode cX4_order 24 = .ok (.ifCond .eq 16, 3) := by decide +kernel
theorem dX4_order_27 : decode cX4_order 27 = .ok (.aload_n 0, 1) := by decide +kernel
theorem dX4_order_28 : decode cX4_order 28 = .ok (.iload_n 1, 1) := by decide +kernel
theorem dX4_order_29 : decode cX4_order 29 = .ok (.iload 4, 2) := by decide +kernel
theorem dX4_order_31 : decode cX4_order 31 = .ok (.invokevirtual 58, 3) := by decide +kernel
theorem dX4_order_34 : decode cX4_order 34 = .ok (.invokestatic 120, 3) := by decide +kernel
theorem dX4_order_37 : decode cX4_order 37 = .ok (.goto 10, 3) := by decide +kernel
theorem dX4_order_40 : decode cX4_order 40 = .ok (.aload_n 0, 1) := by decide +kernel
theorem dX4_order_41 : decode cX4_order 41 = .ok (.iload_n 1, 1) := by decide +kernel
theorem dX4_order_42 : decode cX4_order 42 = .ok (.iload 4, 2) := by decide +kernel
theorem dX4_order_44 : decode cX4_order 44 = .ok (.invokevirtual 58, 3) := by decide +kernel
theorem dX4_order_47 : decode cX4_order 47 = .ok (.istore 5, 2) := by decide +kernel
theorem dX4_order_49 : decode cX4_order 49 = .ok (.iload_n 3, 1) := by decide +kernel
theorem dX4_order_50 : decode cX4_order 50 = .ok (.ifCond .eq 16, 3) := by decide +kernel
theorem dX4_order_53 : decode cX4_order 53 = .ok (.aload_n 0, 1) := by decide +kernel
theorem dX4_order_54 : decode cX4_order 54 = .ok (.iload_n 2, 1) := by decide +kernel
theorem dX4_order_55 : decode cX4_order 55 = .ok (.iload 4, 2) := by decide +kernel
theorem dX4_order_57 : decode cX4_order 57 = .ok (.invokevirtual 58, 3) := by decide +kernel
theorem dX4_order_60 : decode cX4_order 60 = .ok (.invokestatic 120, 3) := by decide +kernel
theorem dX4_order_63 : decode cX4_order 63 = .ok (.goto 10, 3) := by decide +kernel
theorem dX4_order_66 : decode cX4_order 66 = .ok (.aload_n 0, 1) := by decide +kernel
theorem dX4_order_67 : decode cX4_order 67 = .ok (.iload_n 2, 1) := by decide +kernel
theorem dX4_order_68 : decode cX4_order 68 = .ok (.iload 4, 2) := by decide +kernel
theorem dX4_order_70 : decode cX4_order 70 = .ok (.invokevirtual 58, 3) := by decide +kernel
theorem dX4_order_73 : decode cX4_order 73 = .ok (.istore 6, 2) := by decide +kernel
theorem dX4_order_75 : decode cX4_order 75 = .ok (.iload 5, 2) := by decide +kernel
theorem dX4_order_77 : decode cX4_order 77 = .ok (.iload 6, 2) := by decide +kernel
theorem dX4_order_79 : decode cX4_order 79 = .ok (.if_icmp .eq 9, 3) := by decide +kernel
theorem dX4_order_82 : decode cX4_order 82 = .ok (.iload 5, 2) := by decide +kernel
theorem dX4_order_84 : decode cX4_order 84 = .ok (.iload 6, 2) := by decide +kernel
theorem dX4_order_86 : decode cX4_order 86 = .ok (.isub, 1) := by decide +kernel
theorem dX4_order_87 : decode cX4_order 87 = .ok (.ireturn, 1) := by decide +kernel
theorem dX4_order_88 : decode cX4_order 88 = .ok (.iinc 4 1, 3) := by decide +kernel
theorem dX4_order_91 : decode cX4_order 91 = .ok (.goto (-88), 3) := by decide +kernel
theorem dX4_order_94 : decode cX4_order 94 = .ok (.aload_n 0, 1) := by decide +kernel
theorem dX4_order_95 : decode cX4_order 95 = .ok (.iload_n 1, 1) := by decide +kernel
theorem dX4_order_96 : decode cX4_order 96 = .ok (.invokevirtual 67, 3) := by decide +kernel
theorem dX4_order_99 : decode cX4_order 99 = .ok (.aload_n 0, 1) := by decide +kernel
theorem dX4_order_100 : decode cX4_order 100 = .ok (.iload_n 2, 1) := by decide +kernel
theorem dX4_order_101 : decode cX4_order 101 = .ok (.invokevirtual 67, 3) := by decide +kernel
theorem dX4_order_104 : decode cX4_order 104 = .ok (.isub, 1) := by decide +kernel
theorem dX4_order_105 : decode cX4_order 105 = .ok (.ireturn, 1) := by decide +kernel
theorem dX4_compare_0 : decode cX4_compare 0 = .ok (.aload_n 0, 1) := by decide +kernel
theorem dX4_compare_1 : decode cX4_compare 1 = .ok (.iload_n 1, 1) := by decide +kernel
theorem dX4_compare_2 : decode cX4_compare 2 = .ok (.iload_n 2, 1) := by decide +kernel
theorem dX4_compare_3 : decode cX4_compare 3 = .ok (.iconst 0, 1) := by decide +kernel
theorem dX4_compare_4 : decode cX4_compare 4 = .ok (.invokevirtual 127, 3) := by decide +kernel
theorem dX4_compare_7 : decode cX4_compare 7 = .ok (.ireturn, 1) := by decide +kernel
theorem dX4_compareAlike_0 : decode cX4_compareAlike 0 = .ok (.aload_n 0, 1) := by decide +kernel
theorem dX4_compareAlike_1 : decode cX4_compareAlike 1 = .ok (.iload_n 1, 1) := by decide +kernel
theorem dX4_compareAlike_2 : decode cX4_compareAlike 2 = .ok (.iload_n 2, 1) := by decide +kernel
theorem dX4_compareAlike_3 : decode cX4_compareAlike 3 = .ok (.iconst 1, 1) := by decide +kernel
theorem dX4_compareAlike_4 : decode cX4_compareAlike 4 = .ok (.invokevirtual 127, 3) := by decide +kernel
theorem dX4_compareAlike_7 : decode cX4_compareAlike 7 = .ok (.istore_n 3, 1) := by decide +kernel
theorem dX4_compareAlike_8 : decode cX4_compareAlike 8 = .ok (.iload_n 3, 1) := by decide +kernel
theorem dX4_compareAlike_9 : decode cX4_compareAlike 9 = .ok (.ifCond .ge 7, 3) := by decide +kernel
theorem dX4_compareAlike_12 : decode cX4_compareAlike 12 = .ok (.iconst (-1), 1) := by decide +kernel
theorem dX4_compareAlike_13 : decode cX4_compareAlike 13 = .ok (.goto 12, 3) := by decide +kernel
theorem dX4_compareAlike_16 : decode cX4_compareAlike 16 = .ok (.iload_n 3, 1) := by decide +kernel
theorem dX4_compareAlike_17 : decode cX4_compareAlike 17 = .ok (.ifCond .le 7, 3) := by decide +kernel
theorem dX4_compareAlike_20 : decode cX4_compareAlike 20 = .ok (.iconst 1, 1) := by decide +kernel
theorem dX4_compareAlike_21 : decode cX4_compareAlike 21 = .ok (.goto 4, 3) := by decide +kernel
theorem dX4_compareAlike_24 : decode cX4_compareAlike 24 = .ok (.iconst 0, 1) := by decide +kernel
theorem dX4_compareAlike_25 : decode cX4_compareAlike 25 = .ok (.ireturn, 1) := by decide +kernel
theorem dX4_replaceSign_0 : decode cX4_replaceSign 0 = .ok (.iload_n 2, 1) := by decide +kernel
theorem dX4_replaceSign_1 : decode cX4_replaceSign 1 = .ok (.invokestatic 70, 3) := by decide +kernel
theorem dX4_replaceSign_4 : decode cX4_replaceSign 4 = .ok (.ifCond .eq 10, 3) := by decide +kernel
theorem dX4_replaceSign_7 : decode cX4_replaceSign 7 = .ok (.iload_n 3, 1) := by decide +kernel
theorem dX4_replaceSign_8 : decode cX4_replaceSign 8 = .ok (.invokestatic 70, 3) := by decide +kernel
theorem dX4_replaceSign_11 : decode cX4_replaceSign 11 = .ok (.ifCond .ne 6, 3) := by decide +kernel
theorem dX4_replaceSign_14 : decode cX4_replaceSign 14 = .ok (.ldc 74, 2) := by decide +kernel
theorem dX4_replaceSign_16 : decode cX4_replaceSign 16 = .ok (.ireturn, 1) := by decide +kernel
theorem dX4_replaceSign_17 : decode cX4_replaceSign 17 = .ok (.aload_n 0, 1) := by decide +kernel
theorem dX4_replaceSign_18 : decode cX4_replaceSign 18 = .ok (.invokevirtual 75, 3) := by decide +kernel
theorem dX4_replaceSign_21 : decode cX4_replaceSign 21 = .ok (.iconst 0, 1) := by decide +kernel
theorem dX4_replaceSign_22 : decode cX4_replaceSign 22 = .ok (.istore 5, 2) := by decide +kernel
theorem dX4_replaceSign_24 : decode cX4_replaceSign 24 = .ok (.iload 5, 2) := by decide +kernel
theorem dX4_replaceSign_26 : decode cX4_replaceSign 26 = .ok (.aload_n 0, 1) := by decide +kernel
theorem dX4_replaceSign_27 : decode cX4_replaceSign 27 = .ok (.iload_n 1, 1) := by decide +kernel
theorem dX4_replaceSign_28 : decode cX4_replaceSign 28 = .ok (.invokevirtual 67, 3) := by decide +kernel
theorem dX4_replaceSign_31 : decode cX4_replaceSign 31 = .ok (.if_icmp .ge 35, 3) := by decide +kernel
theorem dX4_replaceSign_34 : decode cX4_replaceSign 34 = .ok (.aload_n 0, 1) := by decide +kernel
theorem dX4_replaceSign_35 : decode cX4_replaceSign 35 = .ok (.aload_n 0, 1) := by decide +kernel
theorem dX4_replaceSign_36 : decode cX4_replaceSign 36 = .ok (.iload_n 1, 1) := by decide +kernel
theorem dX4_replaceSign_37 : decode cX4_replaceSign 37 = .ok (.iload 5, 2) := by decide +kernel
theorem dX4_replaceSign_39 : decode cX4_replaceSign 39 = .ok (.invokevirtual 58, 3) := by decide +kernel
theorem dX4_replaceSign_42 : decode cX4_replaceSign 42 = .ok (.iload_n 2, 1) := by decide +kernel
theorem dX4_replaceSign_43 : decode cX4_replaceSign 43 = .ok (.if_icmp .ne 7, 3) := by decide +kernel
theorem dX4_replaceSign_46 : decode cX4_replaceSign 46 = .ok (.iload_n 3, 1) := by decide +kernel
theorem dX4_replaceSign_47 : decode cX4_replaceSign 47 = .ok (.goto 10, 3) := by decide +kernel
theorem dX4_replaceSign_50 : decode cX4_replaceSign 50 = .ok (.aload_n 0, 1) := by decide +kernel
theorem dX4_replaceSign_51 : decode cX4_replaceSign 51 = .ok (.iload_n 1, 1) := by decide +kernel
theorem dX4_replaceSign_52 : decode cX4_replaceSign 52 = .ok (.iload 5, 2) := by decide +kernel
theorem dX4_replaceSign_54 : decode cX4_replaceSign 54 = .ok (.invokevirtual 58, 3) := by decide +kernel
theorem dX4_replaceSign_57 : decode cX4_replaceSign 57 = .ok (.invokevirtual 62, 3) := by decide +kernel
theorem dX4_replaceSign_60 : decode cX4_replaceSign 60 = .ok (.iinc 5 1, 3) := by decide +kernel
theorem dX4_replaceSign_63 : decode cX4_replaceSign 63 = .ok (.goto (-39), 3) := by decide +kernel
theorem dX4_replaceSign_66 : decode cX4_replaceSign 66 = .ok (.aload_n 0, 1) := by decide +kernel
theorem dX4_replaceSign_67 : decode cX4_replaceSign 67 = .ok (.iload 4, 2) := by decide +kernel
theorem dX4_replaceSign_69 : decode cX4_replaceSign 69 = .ok (.invokevirtual 82, 3) := by decide +kernel
theorem dX4_replaceSign_72 : decode cX4_replaceSign 72 = .ok (.ireturn, 1) := by decide +kernel
theorem dX4_replaceText_0 : decode cX4_replaceText 0 = .ok (.aload_n 0, 1) := by decide +kernel
theorem dX4_replaceText_1 : decode cX4_replaceText 1 = .ok (.iload_n 2, 1) := by decide +kernel
theorem dX4_replaceText_2 : decode cX4_replaceText 2 = .ok (.invokevirtual 67, 3) := by decide +kernel
theorem dX4_replaceText_5 : decode cX4_replaceText 5 = .ok (.ifCond .ne 6, 3) := by decide +kernel
theorem dX4_replaceText_8 : decode cX4_replaceText 8 = .ok (.ldc 74, 2) := by decide +kernel
theorem dX4_replaceText_10 : decode cX4_replaceText 10 = .ok (.ireturn, 1) := by decide +kernel
theorem dX4_replaceText_11 : decode cX4_replaceText 11 = .ok (.aload_n 0, 1) := by decide +kernel
theorem dX4_replaceText_12 : decode cX4_replaceText 12 = .ok (.invokevirtual 75, 3) := by decide +kernel
theorem dX4_replaceText_15 : decode cX4_replaceText 15 = .ok (.iconst 0, 1) := by decide +kernel
theorem dX4_replaceText_16 : decode cX4_replaceText 16 = .ok (.istore 5, 2) := by decide +kernel
theorem dX4_replaceText_18 : decode cX4_replaceText 18 = .ok (.iload 5, 2) := by decide +kernel
theorem dX4_replaceText_20 : decode cX4_replaceText 20 = .ok (.aload_n 0, 1) := by decide +kernel
theorem dX4_replaceText_21 : decode cX4_replaceText 21 = .ok (.iload_n 1, 1) := by decide +kernel
theorem dX4_replaceText_22 : decode cX4_replaceText 22 = .ok (.invokevirtual 67, 3) := by decide +kernel
theorem dX4_replaceText_25 : decode cX4_replaceText 25 = .ok (.if_icmp .ge 55, 3) := by decide +kernel
theorem dX4_replaceText_28 : decode cX4_replaceText 28 = .ok (.aload_n 0, 1) := by decide +kernel
theorem dX4_replaceText_29 : decode cX4_replaceText 29 = .ok (.iload_n 1, 1) := by decide +kernel
theorem dX4_replaceText_30 : decode cX4_replaceText 30 = .ok (.iload_n 2, 1) := by decide +kernel
theorem dX4_replaceText_31 : decode cX4_replaceText 31 = .ok (.iload 5, 2) := by decide +kernel
theorem dX4_replaceText_33 : decode cX4_replaceText 33 = .ok (.invokevirtual 111, 3) := by decide +kernel
theorem dX4_replaceText_36 : decode cX4_replaceText 36 = .ok (.ifCond .eq 27, 3) := by decide +kernel
theorem dX4_replaceText_39 : decode cX4_replaceText 39 = .ok (.aload_n 0, 1) := by decide +kernel
theorem dX4_replaceText_40 : decode cX4_replaceText 40 = .ok (.iload_n 3, 1) := by decide +kernel
theorem dX4_replaceText_41 : decode cX4_replaceText 41 = .ok (.iconst 0, 1) := by decide +kernel
theorem dX4_replaceText_42 : decode cX4_replaceText 42 = .ok (.aload_n 0, 1) := by decide +kernel
theorem dX4_replaceText_43 : decode cX4_replaceText 43 = .ok (.iload_n 3, 1) := by decide +kernel
theorem dX4_replaceText_44 : decode cX4_replaceText 44 = .ok (.invokevirtual 67, 3) := by decide +kernel
theorem dX4_replaceText_47 : decode cX4_replaceText 47 = .ok (.invokevirtual 78, 3) := by decide +kernel
theorem dX4_replaceText_50 : decode cX4_replaceText 50 = .ok (.iload 5, 2) := by decide +kernel
theorem dX4_replaceText_52 : decode cX4_replaceText 52 = .ok (.aload_n 0, 1) := by decide +kernel
theorem dX4_replaceText_53 : decode cX4_replaceText 53 = .ok (.iload_n 2, 1) := by decide +kernel
theorem dX4_replaceText_54 : decode cX4_replaceText 54 = .ok (.invokevirtual 67, 3) := by decide +kernel
theorem dX4_replaceText_57 : decode cX4_replaceText 57 = .ok (.iadd, 1) := by decide +kernel
theorem dX4_replaceText_58 : decode cX4_replaceText 58 = .ok (.istore 5, 2) := by decide +kernel
theorem dX4_replaceText_60 : decode cX4_replaceText 60 = .ok (.goto (-42), 3) := by decide +kernel
theorem dX4_replaceText_63 : decode cX4_replaceText 63 = .ok (.aload_n 0, 1) := by decide +kernel
theorem dX4_replaceText_64 : decode cX4_replaceText 64 = .ok (.aload_n 0, 1) := by decide +kernel
theorem dX4_replaceText_65 : decode cX4_replaceText 65 = .ok (.iload_n 1, 1) := by decide +kernel
theorem dX4_replaceText_66 : decode cX4_replaceText 66 = .ok (.iload 5, 2) := by decide +kernel
theorem dX4_replaceText_68 : decode cX4_replaceText 68 = .ok (.invokevirtual 58, 3) := by decide +kernel
theorem dX4_replaceText_71 : decode cX4_replaceText 71 = .ok (.invokevirtual 62, 3) := by decide +kernel
theorem dX4_replaceText_74 : decode cX4_replaceText 74 = .ok (.iinc 5 1, 3) := by decide +kernel
theorem dX4_replaceText_77 : decode cX4_replaceText 77 = .ok (.goto (-59), 3) := by decide +kernel
theorem dX4_replaceText_80 : decode cX4_replaceText 80 = .ok (.aload_n 0, 1) := by decide +kernel
theorem dX4_replaceText_81 : decode cX4_replaceText 81 = .ok (.iload 4, 2) := by decide +kernel
theorem dX4_replaceText_83 : decode cX4_replaceText 83 = .ok (.invokevirtual 82, 3) := by decide +kernel
theorem dX4_replaceText_86 : decode cX4_replaceText 86 = .ok (.ireturn, 1) := by decide +kernel
theorem dX4_strips_0 : decode cX4_strips 0 = .ok (.iconst (-1), 1) := by decide +kernel
theorem dX4_strips_1 : decode cX4_strips 1 = .ok (.istore 4, 2) := by decide +kernel
theorem dX4_strips_3 : decode cX4_strips 3 = .ok (.iconst 0, 1) := by decide +kernel
theorem dX4_strips_4 : decode cX4_strips 4 = .ok (.istore 5, 2) := by decide +kernel
theorem dX4_strips_6 : decode cX4_strips 6 = .ok (.iconst 0, 1) := by decide +kernel
theorem dX4_strips_7 : decode cX4_strips 7 = .ok (.istore 6, 2) := by decide +kernel
theorem dX4_strips_9 : decode cX4_strips 9 = .ok (.iload 6, 2) := by decide +kernel
theorem dX4_strips_11 : decode cX4_strips 11 = .ok (.aload_n 0, 1) := by decide +kernel
theorem dX4_strips_12 : decode cX4_strips 12 = .ok (.iload_n 1, 1) := by decide +kernel
theorem dX4_strips_13 : decode cX4_strips 13 = .ok (.invokevirtual 67, 3) := by decide +kernel
theorem dX4_strips_16 : decode cX4_strips 16 = .ok (.if_icmp .ge 88, 3) := by decide +kernel
theorem dX4_strips_19 : decode cX4_strips 19 = .ok (.aload_n 0, 1) := by decide +kernel
theorem dX4_strips_20 : decode cX4_strips 20 = .ok (.iload_n 1, 1) := by decide +kernel
theorem dX4_strips_21 : decode cX4_strips 21 = .ok (.iload 6, 2) := by decide +kernel
theorem dX4_strips_23 : decode cX4_strips 23 = .ok (.invokevirtual 58, 3) := by decide +kernel
theorem dX4_strips_26 : decode cX4_strips 26 = .ok (.istore 7, 2) := by decide +kernel
theorem dX4_strips_28 : decode cX4_strips 28 = .ok (.iload_n 2, 1) := by decide +kernel
theorem dX4_strips_29 : decode cX4_strips 29 = .ok (.ifCond .eq 18, 3) := by decide +kernel
theorem dX4_strips_32 : decode cX4_strips 32 = .ok (.iload 7, 2) := by decide +kernel
theorem dX4_strips_34 : decode cX4_strips 34 = .ok (.bipush 32, 2) := by decide +kernel
theorem dX4_strips_36 : decode cX4_strips 36 = .ok (.if_icmp .le 7, 3) := by decide +kernel
theorem dX4_strips_39 : decode cX4_strips 39 = .ok (.iconst 1, 1) := by decide +kernel
theorem dX4_strips_40 : decode cX4_strips 40 = .ok (.goto 20, 3) := by decide +kernel
theorem dX4_strips_43 : decode cX4_strips 43 = .ok (.iconst 0, 1) := by decide +kernel
theorem dX4_strips_44 : decode cX4_strips 44 = .ok (.goto 16, 3) := by decide +kernel
theorem dX4_strips_47 : decode cX4_strips 47 = .ok (.iload 7, 2) := by decide +kernel
theorem dX4_strips_49 : decode cX4_strips 49 = .ok (.invokestatic 98, 3) := by decide +kernel
theorem dX4_strips_52 : decode cX4_strips 52 = .ok (.ifCond .ne 7, 3) := by decide +kernel
theorem dX4_strips_55 : decode cX4_strips 55 = .ok (.iconst 1, 1) := by decide +kernel
theorem dX4_strips_56 : decode cX4_strips 56 = .ok (.goto 4, 3) := by decide +kernel
theorem dX4_strips_59 : decode cX4_strips 59 = .ok (.iconst 0, 1) := by decide +kernel
theorem dX4_strips_60 : decode cX4_strips 60 = .ok (.istore 8, 2) := by decide +kernel
theorem dX4_strips_62 : decode cX4_strips 62 = .ok (.iload 8, 2) := by decide +kernel
theorem dX4_strips_64 : decode cX4_strips 64 = .ok (.ifCond .eq 14, 3) := by decide +kernel
theorem dX4_strips_67 : decode cX4_strips 67 = .ok (.iload 4, 2) := by decide +kernel
theorem dX4_strips_69 : decode cX4_strips 69 = .ok (.iconst (-1), 1) := by decide +kernel
theorem dX4_strips_70 : decode cX4_strips 70 = .ok (.if_icmp .ne 8, 3) := by decide +kernel
theorem dX4_strips_73 : decode cX4_strips 73 = .ok (.iload 6, 2) := by decide +kernel
theorem dX4_strips_75 : decode cX4_strips 75 = .ok (.goto 5, 3) := by decide +kernel
theorem dX4_strips_78 : decode cX4_strips 78 = .ok (.iload 4, 2) := by decide +kernel
theorem dX4_strips_80 : decode cX4_strips 80 = .ok (.istore 4, 2) := by decide +kernel
theorem dX4_strips_82 : decode cX4_strips 82 = .ok (.iload 8, 2) := by decide +kernel
theorem dX4_strips_84 : decode cX4_strips 84 = .ok (.ifCond .eq 10, 3) := by decide +kernel
theorem dX4_strips_87 : decode cX4_strips 87 = .ok (.iload 6, 2) := by decide +kernel
theorem dX4_strips_89 : decode cX4_strips 89 = .ok (.iconst 1, 1) := by decide +kernel
theorem dX4_strips_90 : decode cX4_strips 90 = .ok (.iadd, 1) := by decide +kernel
theorem dX4_strips_91 : decode cX4_strips 91 = .ok (.goto 5, 3) := by decide +kernel
theorem dX4_strips_94 : decode cX4_strips 94 = .ok (.iload 5, 2) := by decide +kernel
theorem dX4_strips_96 : decode cX4_strips 96 = .ok (.istore 5, 2) := by decide +kernel
theorem dX4_strips_98 : decode cX4_strips 98 = .ok (.iinc 6 1, 3) := by decide +kernel
theorem dX4_strips_101 : decode cX4_strips 101 = .ok (.goto (-92), 3) := by decide +kernel
theorem dX4_strips_104 : decode cX4_strips 104 = .ok (.aload_n 0, 1) := by decide +kernel
theorem dX4_strips_105 : decode cX4_strips 105 = .ok (.invokevirtual 75, 3) := by decide +kernel
theorem dX4_strips_108 : decode cX4_strips 108 = .ok (.aload_n 0, 1) := by decide +kernel
theorem dX4_strips_109 : decode cX4_strips 109 = .ok (.iload_n 1, 1) := by decide +kernel
theorem dX4_strips_110 : decode cX4_strips 110 = .ok (.iload 4, 2) := by decide +kernel
theorem dX4_strips_112 : decode cX4_strips 112 = .ok (.iconst (-1), 1) := by decide +kernel
theorem dX4_strips_113 : decode cX4_strips 113 = .ok (.if_icmp .ne 7, 3) := by decide +kernel
theorem dX4_strips_116 : decode cX4_strips 116 = .ok (.iconst 0, 1) := by decide +kernel
theorem dX4_strips_117 : decode cX4_strips 117 = .ok (.goto 5, 3) := by decide +kernel
theorem dX4_strips_120 : decode cX4_strips 120 = .ok (.iload 4, 2) := by decide +kernel
theorem dX4_strips_122 : decode cX4_strips 122 = .ok (.iload 5, 2) := by decide +kernel
theorem dX4_strips_124 : decode cX4_strips 124 = .ok (.invokevirtual 78, 3) := by decide +kernel
theorem dX4_strips_127 : decode cX4_strips 127 = .ok (.aload_n 0, 1) := by decide +kernel
theorem dX4_strips_128 : decode cX4_strips 128 = .ok (.iload_n 3, 1) := by decide +kernel
theorem dX4_strips_129 : decode cX4_strips 129 = .ok (.invokevirtual 82, 3) := by decide +kernel
theorem dX4_strips_132 : decode cX4_strips 132 = .ok (.ireturn, 1) := by decide +kernel
theorem dX4_trim_0 : decode cX4_trim 0 = .ok (.aload_n 0, 1) := by decide +kernel
theorem dX4_trim_1 : decode cX4_trim 1 = .ok (.iload_n 1, 1) := by decide +kernel
theorem dX4_trim_2 : decode cX4_trim 2 = .ok (.iconst 1, 1) := by decide +kernel
theorem dX4_trim_3 : decode cX4_trim 3 = .ok (.iload_n 2, 1) := by decide +kernel
theorem dX4_trim_4 : decode cX4_trim 4 = .ok (.invokevirtual 131, 3) := by decide +kernel
theorem dX4_trim_7 : decode cX4_trim 7 = .ok (.ireturn, 1) := by decide +kernel
theorem dX4_strip_0 : decode cX4_strip 0 = .ok (.aload_n 0, 1) := by decide +kernel
theorem dX4_strip_1 : decode cX4_strip 1 = .ok (.iload_n 1, 1) := by decide +kernel
theorem dX4_strip_2 : decode cX4_strip 2 = .ok (.iconst 0, 1) := by decide +kernel
theorem dX4_strip_3 : decode cX4_strip 3 = .ok (.iload_n 2, 1) := by decide +kernel
theorem dX4_strip_4 : decode cX4_strip 4 = .ok (.invokevirtual 131, 3) := by decide +kernel
theorem dX4_strip_7 : decode cX4_strip 7 = .ok (.ireturn, 1) := by decide +kernel
theorem dX4_repeat_0 : decode cX4_repeat 0 = .ok (.iload_n 2, 1) := by decide +kernel
theorem dX4_repeat_1 : decode cX4_repeat 1 = .ok (.ifCond .ge 6, 3) := by decide +kernel
theorem dX4_repeat_4 : decode cX4_repeat 4 = .ok (.ldc 135, 2) := by decide +kernel
theorem dX4_repeat_6 : decode cX4_repeat 6 = .ok (.ireturn, 1) := by decide +kernel
theorem dX4_repeat_7 : decode cX4_repeat 7 = .ok (.aload_n 0, 1) := by decide +kernel
theorem dX4_repeat_8 : decode cX4_repeat 8 = .ok (.iload_n 1, 1) := by decide +kernel
theorem dX4_repeat_9 : decode cX4_repeat 9 = .ok (.invokevirtual 67, 3) := by decide +kernel
theorem dX4_repeat_12 : decode cX4_repeat 12 = .ok (.i2l, 1) := by decide +kernel
theorem dX4_repeat_13 : decode cX4_repeat 13 = .ok (.iload_n 2, 1) := by decide +kernel
theorem dX4_repeat_14 : decode cX4_repeat 14 = .ok (.i2l, 1) := by decide +kernel
theorem dX4_repeat_15 : decode cX4_repeat 15 = .ok (.lmul, 1) := by decide +kernel
theorem dX4_repeat_16 : decode cX4_repeat 16 = .ok (.ldc2_w 136, 3) := by decide +kernel
theorem dX4_repeat_19 : decode cX4_repeat 19 = .ok (.lcmp, 1) := by decide +kernel
theorem dX4_repeat_20 : decode cX4_repeat 20 = .ok (.ifCond .le 6, 3) := by decide +kernel
theorem dX4_repeat_23 : decode cX4_repeat 23 = .ok (.ldc 66, 2) := by decide +kernel
theorem dX4_repeat_25 : decode cX4_repeat 25 = .ok (.ireturn, 1) := by decide +kernel
theorem dX4_repeat_26 : decode cX4_repeat 26 = .ok (.aload_n 0, 1) := by decide +kernel
theorem dX4_repeat_27 : decode cX4_repeat 27 = .ok (.invokevirtual 75, 3) := by decide +kernel
theorem dX4_repeat_30 : decode cX4_repeat 30 = .ok (.iconst 0, 1) := by decide +kernel
theorem dX4_repeat_31 : decode cX4_repeat 31 = .ok (.istore 4, 2) := by decide +kernel
theorem dX4_repeat_33 : decode cX4_repeat 33 = .ok (.iload 4, 2) := by decide +kernel
theorem dX4_repeat_35 : decode cX4_repeat 35 = .ok (.iload_n 2, 1) := by decide +kernel
theorem dX4_repeat_36 : decode cX4_repeat 36 = .ok (.if_icmp .ge 28, 3) := by decide +kernel
theorem dX4_repeat_39 : decode cX4_repeat 39 = .ok (.aload_n 0, 1) := by decide +kernel
theorem dX4_repeat_40 : decode cX4_repeat 40 = .ok (.iload_n 1, 1) := by decide +kernel
theorem dX4_repeat_41 : decode cX4_repeat 41 = .ok (.invokevirtual 67, 3) := by decide +kernel
theorem dX4_repeat_44 : decode cX4_repeat 44 = .ok (.ifCond .le 20, 3) := by decide +kernel
theorem dX4_repeat_47 : decode cX4_repeat 47 = .ok (.aload_n 0, 1) := by decide +kernel
theorem dX4_repeat_48 : decode cX4_repeat 48 = .ok (.iload_n 1, 1) := by decide +kernel
theorem dX4_repeat_49 : decode cX4_repeat 49 = .ok (.iconst 0, 1) := by decide +kernel
theorem dX4_repeat_50 : decode cX4_repeat 50 = .ok (.aload_n 0, 1) := by decide +kernel
theorem dX4_repeat_51 : decode cX4_repeat 51 = .ok (.iload_n 1, 1) := by decide +kernel
theorem dX4_repeat_52 : decode cX4_repeat 52 = .ok (.invokevirtual 67, 3) := by decide +kernel
theorem dX4_repeat_55 : decode cX4_repeat 55 = .ok (.invokevirtual 78, 3) := by decide +kernel
theorem dX4_repeat_58 : decode cX4_repeat 58 = .ok (.iinc 4 1, 3) := by decide +kernel
theorem dX4_repeat_61 : decode cX4_repeat 61 = .ok (.goto (-28), 3) := by decide +kernel
theorem dX4_repeat_64 : decode cX4_repeat 64 = .ok (.aload_n 0, 1) := by decide +kernel
theorem dX4_repeat_65 : decode cX4_repeat 65 = .ok (.iload_n 3, 1) := by decide +kernel
theorem dX4_repeat_66 : decode cX4_repeat 66 = .ok (.invokevirtual 82, 3) := by decide +kernel
theorem dX4_repeat_69 : decode cX4_repeat 69 = .ok (.ireturn, 1) := by decide +kernel
theorem dX4_turn_0 : decode cX4_turn 0 = .ok (.aload_n 0, 1) := by decide +kernel
theorem dX4_turn_1 : decode cX4_turn 1 = .ok (.invokevirtual 75, 3) := by decide +kernel
theorem dX4_turn_4 : decode cX4_turn 4 = .ok (.aload_n 0, 1) := by decide +kernel
theorem dX4_turn_5 : decode cX4_turn 5 = .ok (.iload_n 1, 1) := by decide +kernel
theorem dX4_turn_6 : decode cX4_turn 6 = .ok (.invokevirtual 67, 3) := by decide +kernel
theorem dX4_turn_9 : decode cX4_turn 9 = .ok (.iconst 1, 1) := by decide +kernel
theorem dX4_turn_10 : decode cX4_turn 10 = .ok (.isub, 1) := by decide +kernel
theorem dX4_turn_11 : decode cX4_turn 11 = .ok (.istore_n 3, 1) := by decide +kernel
theorem dX4_turn_12 : decode cX4_turn 12 = .ok (.iload_n 3, 1) := by decide +kernel
theorem dX4_turn_13 : decode cX4_turn 13 = .ok (.ifCond .lt 19, 3) := by decide +kernel
theorem dX4_turn_16 : decode cX4_turn 16 = .ok (.aload_n 0, 1) := by decide +kernel
theorem dX4_turn_17 : decode cX4_turn 17 = .ok (.aload_n 0, 1) := by decide +kernel
theorem dX4_turn_18 : decode cX4_turn 18 = .ok (.iload_n 1, 1) := by decide +kernel
theorem dX4_turn_19 : decode cX4_turn 19 = .ok (.iload_n 3, 1) := by decide +kernel
theorem dX4_turn_20 : decode cX4_turn 20 = .ok (.invokevirtual 58, 3) := by decide +kernel
theorem dX4_turn_23 : decode cX4_turn 23 = .ok (.invokevirtual 62, 3) := by decide +kernel
theorem dX4_turn_26 : decode cX4_turn 26 = .ok (.iinc 3 (-1), 3) := by decide +kernel
theorem dX4_turn_29 : decode cX4_turn 29 = .ok (.goto (-17), 3) := by decide +kernel
theorem dX4_turn_32 : decode cX4_turn 32 = .ok (.aload_n 0, 1) := by decide +kernel
theorem dX4_turn_33 : decode cX4_turn 33 = .ok (.iload_n 2, 1) := by decide +kernel
theorem dX4_turn_34 : decode cX4_turn 34 = .ok (.invokevirtual 82, 3) := by decide +kernel
theorem dX4_turn_37 : decode cX4_turn 37 = .ok (.ireturn, 1) := by decide +kernel
theorem dX4_isSpecial_0 : decode cX4_isSpecial 0 = .ok (.iload_n 0, 1) := by decide +kernel
theorem dX4_isSpecial_1 : decode cX4_isSpecial 1 = .ok (.bipush 46, 2) := by decide +kernel
theorem dX4_isSpecial_3 : decode cX4_isSpecial 3 = .ok (.if_icmp .eq 56, 3) := by decide +kernel
theorem dX4_isSpecial_6 : decode cX4_isSpecial 6 = .ok (.iload_n 0, 1) := by decide +kernel
theorem dX4_isSpecial_7 : decode cX4_isSpecial 7 = .ok (.bipush 36, 2) := by decide +kernel
theorem dX4_isSpecial_9 : decode cX4_isSpecial 9 = .ok (.if_icmp .eq 50, 3) := by decide +kernel
theorem dX4_isSpecial_12 : decode cX4_isSpecial 12 = .ok (.iload_n 0, 1) := by decide +kernel
theorem dX4_isSpecial_13 : decode cX4_isSpecial 13 = .ok (.bipush 124, 2) := by decide +kernel
theorem dX4_isSpecial_15 : decode cX4_isSpecial 15 = .ok (.if_icmp .eq 44, 3) := by decide +kernel
theorem dX4_isSpecial_18 : decode cX4_isSpecial 18 = .ok (.iload_n 0, 1) := by decide +kernel
theorem dX4_isSpecial_19 : decode cX4_isSpecial 19 = .ok (.bipush 40, 2) := by decide +kernel
theorem dX4_isSpecial_21 : decode cX4_isSpecial 21 = .ok (.bipush 43, 2) := by decide +kernel
theorem dX4_isSpecial_23 : decode cX4_isSpecial 23 = .ok (.invokestatic 46, 3) := by decide +kernel
theorem dX4_isSpecial_26 : decode cX4_isSpecial 26 = .ok (.ifCond .ne 33, 3) := by decide +kernel
theorem dX4_isSpecial_29 : decode cX4_isSpecial 29 = .ok (.iload_n 0, 1) := by decide +kernel
theorem dX4_isSpecial_30 : decode cX4_isSpecial 30 = .ok (.bipush 91, 2) := by decide +kernel
theorem dX4_isSpecial_32 : decode cX4_isSpecial 32 = .ok (.if_icmp .eq 27, 3) := by decide +kernel
theorem dX4_isSpecial_35 : decode cX4_isSpecial 35 = .ok (.iload_n 0, 1) := by decide +kernel
theorem dX4_isSpecial_36 : decode cX4_isSpecial 36 = .ok (.bipush 92, 2) := by decide +kernel
theorem dX4_isSpecial_38 : decode cX4_isSpecial 38 = .ok (.if_icmp .eq 21, 3) := by decide +kernel
theorem dX4_isSpecial_41 : decode cX4_isSpecial 41 = .ok (.iload_n 0, 1) := by decide +kernel
theorem dX4_isSpecial_42 : decode cX4_isSpecial 42 = .ok (.bipush 123, 2) := by decide +kernel
theorem dX4_isSpecial_44 : decode cX4_isSpecial 44 = .ok (.if_icmp .eq 15, 3) := by decide +kernel
theorem dX4_isSpecial_47 : decode cX4_isSpecial 47 = .ok (.iload_n 0, 1) := by decide +kernel
theorem dX4_isSpecial_48 : decode cX4_isSpecial 48 = .ok (.bipush 94, 2) := by decide +kernel
theorem dX4_isSpecial_50 : decode cX4_isSpecial 50 = .ok (.if_icmp .eq 9, 3) := by decide +kernel
theorem dX4_isSpecial_53 : decode cX4_isSpecial 53 = .ok (.iload_n 0, 1) := by decide +kernel
theorem dX4_isSpecial_54 : decode cX4_isSpecial 54 = .ok (.bipush 63, 2) := by decide +kernel
theorem dX4_isSpecial_56 : decode cX4_isSpecial 56 = .ok (.if_icmp .ne 7, 3) := by decide +kernel
theorem dX4_isSpecial_59 : decode cX4_isSpecial 59 = .ok (.iconst 1, 1) := by decide +kernel
theorem dX4_isSpecial_60 : decode cX4_isSpecial 60 = .ok (.goto 4, 3) := by decide +kernel
theorem dX4_isSpecial_63 : decode cX4_isSpecial 63 = .ok (.iconst 0, 1) := by decide +kernel
theorem dX4_isSpecial_64 : decode cX4_isSpecial 64 = .ok (.ireturn, 1) := by decide +kernel
theorem dX4_addPiece_0 : decode cX4_addPiece 0 = .ok (.aload_n 0, 1) := by decide +kernel
theorem dX4_addPiece_1 : decode cX4_addPiece 1 = .ok (.getfield 19, 3) := by decide +kernel
theorem dX4_addPiece_4 : decode cX4_addPiece 4 = .ok (.aload_n 0, 1) := by decide +kernel
theorem dX4_addPiece_5 : decode cX4_addPiece 5 = .ok (.getfield 138, 3) := by decide +kernel
theorem dX4_addPiece_8 : decode cX4_addPiece 8 = .ok (.iload_n 1, 1) := by decide +kernel
theorem dX4_addPiece_9 : decode cX4_addPiece 9 = .ok (.iastore, 1) := by decide +kernel
theorem dX4_addPiece_10 : decode cX4_addPiece 10 = .ok (.aload_n 0, 1) := by decide +kernel
theorem dX4_addPiece_11 : decode cX4_addPiece 11 = .ok (.getfield 22, 3) := by decide +kernel
theorem dX4_addPiece_14 : decode cX4_addPiece 14 = .ok (.aload_n 0, 1) := by decide +kernel
theorem dX4_addPiece_15 : decode cX4_addPiece 15 = .ok (.getfield 138, 3) := by decide +kernel
theorem dX4_addPiece_18 : decode cX4_addPiece 18 = .ok (.iload_n 2, 1) := by decide +kernel
theorem dX4_addPiece_19 : decode cX4_addPiece 19 = .ok (.iload_n 1, 1) := by decide +kernel
theorem dX4_addPiece_20 : decode cX4_addPiece 20 = .ok (.isub, 1) := by decide +kernel
theorem dX4_addPiece_21 : decode cX4_addPiece 21 = .ok (.iastore, 1) := by decide +kernel
theorem dX4_addPiece_22 : decode cX4_addPiece 22 = .ok (.aload_n 0, 1) := by decide +kernel
theorem dX4_addPiece_23 : decode cX4_addPiece 23 = .ok (.dup, 1) := by decide +kernel
theorem dX4_addPiece_24 : decode cX4_addPiece 24 = .ok (.getfield 138, 3) := by decide +kernel
theorem dX4_addPiece_27 : decode cX4_addPiece 27 = .ok (.iconst 1, 1) := by decide +kernel
theorem dX4_addPiece_28 : decode cX4_addPiece 28 = .ok (.iadd, 1) := by decide +kernel
theorem dX4_addPiece_29 : decode cX4_addPiece 29 = .ok (.putfield 138, 3) := by decide +kernel
theorem dX4_addPiece_32 : decode cX4_addPiece 32 = .ok (.return_, 1) := by decide +kernel
theorem dX4_part_0 : decode cX4_part 0 = .ok (.iload_n 2, 1) := by decide +kernel
theorem dX4_part_1 : decode cX4_part 1 = .ok (.invokestatic 70, 3) := by decide +kernel
theorem dX4_part_4 : decode cX4_part 4 = .ok (.ifCond .eq 10, 3) := by decide +kernel
theorem dX4_part_7 : decode cX4_part 7 = .ok (.iload_n 2, 1) := by decide +kernel
theorem dX4_part_8 : decode cX4_part 8 = .ok (.invokestatic 141, 3) := by decide +kernel
theorem dX4_part_11 : decode cX4_part 11 = .ok (.ifCond .eq 6, 3) := by decide +kernel
theorem dX4_part_14 : decode cX4_part 14 = .ok (.ldc 74, 2) := by decide +kernel
theorem dX4_part_16 : decode cX4_part 16 = .ok (.ireturn, 1) := by decide +kernel
theorem dX4_part_17 : decode cX4_part 17 = .ok (.aload_n 0, 1) := by decide +kernel
theorem dX4_part_18 : decode cX4_part 18 = .ok (.iconst 0, 1) := by decide +kernel
theorem dX4_part_19 : decode cX4_part 19 = .ok (.putfield 138, 3) := by decide +kernel
theorem dX4_part_22 : decode cX4_part 22 = .ok (.iconst 0, 1) := by decide +kernel
theorem dX4_part_23 : decode cX4_part 23 = .ok (.istore 4, 2) := by decide +kernel
theorem dX4_part_25 : decode cX4_part 25 = .ok (.iconst 0, 1) := by decide +kernel
theorem dX4_part_26 : decode cX4_part 26 = .ok (.istore 5, 2) := by decide +kernel
theorem dX4_part_28 : decode cX4_part 28 = .ok (.iload 5, 2) := by decide +kernel
theorem dX4_part_30 : decode cX4_part 30 = .ok (.aload_n 0, 1) := by decide +kernel
theorem dX4_part_31 : decode cX4_part 31 = .ok (.iload_n 1, 1) := by decide +kernel
theorem dX4_part_32 : decode cX4_part 32 = .ok (.invokevirtual 67, 3) := by decide +kernel
theorem dX4_part_35 : decode cX4_part 35 = .ok (.if_icmp .ge 62, 3) := by decide +kernel
theorem dX4_part_38 : decode cX4_part 38 = .ok (.aload_n 0, 1) := by decide +kernel
theorem dX4_part_39 : decode cX4_part 39 = .ok (.getfield 16, 3) := by decide +kernel
theorem dX4_part_42 : decode cX4_part 42 = .ok (.iload 5, 2) := by decide +kernel
theorem dX4_part_44 : decode cX4_part 44 = .ok (.aload_n 0, 1) := by decide +kernel
theorem dX4_part_45 : decode cX4_part 45 = .ok (.iload_n 1, 1) := by decide +kernel
theorem dX4_part_46 : decode cX4_part 46 = .ok (.iload 5, 2) := by decide +kernel
theorem dX4_part_48 : decode cX4_part 48 = .ok (.invokevirtual 58, 3) := by decide +kernel
theorem dX4_part_51 : decode cX4_part 51 = .ok (.iastore, 1) := by decide +kernel
theorem dX4_part_52 : decode cX4_part 52 = .ok (.aload_n 0, 1) := by decide +kernel
theorem dX4_part_53 : decode cX4_part 53 = .ok (.getfield 16, 3) := by decide +kernel
theorem dX4_part_56 : decode cX4_part 56 = .ok (.iload 5, 2) := by decide +kernel
theorem dX4_part_58 : decode cX4_part 58 = .ok (.iaload, 1) := by decide +kernel
theorem dX4_part_59 : decode cX4_part 59 = .ok (.iload_n 2, 1) := by decide +kernel
theorem dX4_part_60 : decode cX4_part 60 = .ok (.if_icmp .ne 31, 3) := by decide +kernel
theorem dX4_part_63 : decode cX4_part 63 = .ok (.iload_n 3, 1) := by decide +kernel
theorem dX4_part_64 : decode cX4_part 64 = .ok (.ifCond .le 13, 3) := by decide +kernel
theorem dX4_part_67 : decode cX4_part 67 = .ok (.aload_n 0, 1) := by decide +kernel
theorem dX4_part_68 : decode cX4_part 68 = .ok (.getfield 138, 3) := by decide +kernel
theorem dX4_part_71 : decode cX4_part 71 = .ok (.iload_n 3, 1) := by decide +kernel
theorem dX4_part_72 : decode cX4_part 72 = .ok (.iconst 1, 1) := by decide +kernel
theorem dX4_part_73 : decode cX4_part 73 = .ok (.isub, 1) := by decide +kernel
theorem dX4_part_74 : decode cX4_part 74 = .ok (.if_icmp .ge 17, 3) := by decide +kernel
theorem dX4_part_77 : decode cX4_part 77 = .ok (.aload_n 0, 1) := by decide +kernel
theorem dX4_part_78 : decode cX4_part 78 = .ok (.iload 4, 2) := by decide +kernel
theorem dX4_part_80 : decode cX4_part 80 = .ok (.iload 5, 2) := by decide +kernel
theorem dX4_part_82 : decode cX4_part 82 = .ok (.invokevirtual 144, 3) := by decide +kernel
theorem dX4_part_85 : decode cX4_part 85 = .ok (.iload 5, 2) := by decide +kernel
theorem dX4_part_87 : decode cX4_part 87 = .ok (.iconst 1, 1) := by decide +kernel
theorem dX4_part_88 : decode cX4_part 88 = .ok (.iadd, 1) := by decide +kernel
theorem dX4_part_89 : decode cX4_part 89 = .ok (.istore 4, 2) := by decide +kernel
theorem dX4_part_91 : decode cX4_part 91 = .ok (.iinc 5 1, 3) := by decide +kernel
theorem dX4_part_94 : decode cX4_part 94 = .ok (.goto (-66), 3) := by decide +kernel
theorem dX4_part_97 : decode cX4_part 97 = .ok (.aload_n 0, 1) := by decide +kernel
theorem dX4_part_98 : decode cX4_part 98 = .ok (.iload 4, 2) := by decide +kernel
theorem dX4_part_100 : decode cX4_part 100 = .ok (.aload_n 0, 1) := by decide +kernel
theorem dX4_part_101 : decode cX4_part 101 = .ok (.iload_n 1, 1) := by decide +kernel
theorem dX4_part_102 : decode cX4_part 102 = .ok (.invokevirtual 67, 3) := by decide +kernel
theorem dX4_part_105 : decode cX4_part 105 = .ok (.invokevirtual 144, 3) := by decide +kernel
theorem dX4_part_108 : decode cX4_part 108 = .ok (.aload_n 0, 1) := by decide +kernel
theorem dX4_part_109 : decode cX4_part 109 = .ok (.getfield 138, 3) := by decide +kernel
theorem dX4_part_112 : decode cX4_part 112 = .ok (.iconst 1, 1) := by decide +kernel
theorem dX4_part_113 : decode cX4_part 113 = .ok (.if_icmp .le 7, 3) := by decide +kernel
theorem dX4_part_116 : decode cX4_part 116 = .ok (.iconst 1, 1) := by decide +kernel
theorem dX4_part_117 : decode cX4_part 117 = .ok (.goto 4, 3) := by decide +kernel
theorem dX4_part_120 : decode cX4_part 120 = .ok (.iconst 0, 1) := by decide +kernel
theorem dX4_part_121 : decode cX4_part 121 = .ok (.istore 5, 2) := by decide +kernel
theorem dX4_part_123 : decode cX4_part 123 = .ok (.iload_n 3, 1) := by decide +kernel
theorem dX4_part_124 : decode cX4_part 124 = .ok (.ifCond .ne 42, 3) := by decide +kernel
theorem dX4_part_127 : decode cX4_part 127 = .ok (.iload 5, 2) := by decide +kernel
theorem dX4_part_129 : decode cX4_part 129 = .ok (.ifCond .eq 37, 3) := by decide +kernel
theorem dX4_part_132 : decode cX4_part 132 = .ok (.aload_n 0, 1) := by decide +kernel
theorem dX4_part_133 : decode cX4_part 133 = .ok (.getfield 138, 3) := by decide +kernel
theorem dX4_part_136 : decode cX4_part 136 = .ok (.ifCond .le 30, 3) := by decide +kernel
theorem dX4_part_139 : decode cX4_part 139 = .ok (.aload_n 0, 1) := by decide +kernel
theorem dX4_part_140 : decode cX4_part 140 = .ok (.getfield 22, 3) := by decide +kernel
theorem dX4_part_143 : decode cX4_part 143 = .ok (.aload_n 0, 1) := by decide +kernel
theorem dX4_part_144 : decode cX4_part 144 = .ok (.getfield 138, 3) := by decide +kernel
theorem dX4_part_147 : decode cX4_part 147 = .ok (.iconst 1, 1) := by decide +kernel
theorem dX4_part_148 : decode cX4_part 148 = .ok (.isub, 1) := by decide +kernel
theorem dX4_part_149 : decode cX4_part 149 = .ok (.iaload, 1) := by decide +kernel
theorem dX4_part_150 : decode cX4_part 150 = .ok (.ifCond .ne 16, 3) := by decide +kernel
theorem dX4_part_153 : decode cX4_part 153 = .ok (.aload_n 0, 1) := by decide +kernel
theorem dX4_part_154 : decode cX4_part 154 = .ok (.dup, 1) := by decide +kernel
theorem dX4_part_155 : decode cX4_part 155 = .ok (.getfield 138, 3) := by decide +kernel
theorem dX4_part_158 : decode cX4_part 158 = .ok (.iconst 1, 1) := by decide +kernel
theorem dX4_part_159 : decode cX4_part 159 = .ok (.isub, 1) := by decide +kernel
theorem dX4_part_160 : decode cX4_part 160 = .ok (.putfield 138, 3) := by decide +kernel
theorem dX4_part_163 : decode cX4_part 163 = .ok (.goto (-40), 3) := by decide +kernel
theorem dX4_part_166 : decode cX4_part 166 = .ok (.aload_n 0, 1) := by decide +kernel
theorem dX4_part_167 : decode cX4_part 167 = .ok (.getfield 138, 3) := by decide +kernel
theorem dX4_part_170 : decode cX4_part 170 = .ok (.ireturn, 1) := by decide +kernel
theorem dX4_pieces_0 : decode cX4_pieces 0 = .ok (.aload_n 0, 1) := by decide +kernel
theorem dX4_pieces_1 : decode cX4_pieces 1 = .ok (.getfield 138, 3) := by decide +kernel
theorem dX4_pieces_4 : decode cX4_pieces 4 = .ok (.ireturn, 1) := by decide +kernel
theorem dX4_putsPiece_0 : decode cX4_putsPiece 0 = .ok (.iconst 0, 1) := by decide +kernel
theorem dX4_putsPiece_1 : decode cX4_putsPiece 1 = .ok (.istore_n 2, 1) := by decide +kernel
theorem dX4_putsPiece_2 : decode cX4_putsPiece 2 = .ok (.iload_n 2, 1) := by decide +kernel
theorem dX4_putsPiece_3 : decode cX4_putsPiece 3 = .ok (.aload_n 0, 1) := by decide +kernel
theorem dX4_putsPiece_4 : decode cX4_putsPiece 4 = .ok (.getfield 22, 3) := by decide +kernel
theorem dX4_putsPiece_7 : decode cX4_putsPiece 7 = .ok (.iload_n 1, 1) := by decide +kernel
theorem dX4_putsPiece_8 : decode cX4_putsPiece 8 = .ok (.iaload, 1) := by decide +kernel
theorem dX4_putsPiece_9 : decode cX4_putsPiece 9 = .ok (.if_icmp .ge 26, 3) := by decide +kernel
theorem dX4_putsPiece_12 : decode cX4_putsPiece 12 = .ok (.aload_n 0, 1) := by decide +kernel
theorem dX4_putsPiece_13 : decode cX4_putsPiece 13 = .ok (.aload_n 0, 1) := by decide +kernel
theorem dX4_putsPiece_14 : decode cX4_putsPiece 14 = .ok (.getfield 16, 3) := by decide +kernel
theorem dX4_putsPiece_17 : decode cX4_putsPiece 17 = .ok (.aload_n 0, 1) := by decide +kernel
theorem dX4_putsPiece_18 : decode cX4_putsPiece 18 = .ok (.getfield 19, 3) := by decide +kernel
theorem dX4_putsPiece_21 : decode cX4_putsPiece 21 = .ok (.iload_n 1, 1) := by decide +kernel
theorem dX4_putsPiece_22 : decode cX4_putsPiece 22 = .ok (.iaload, 1) := by decide +kernel
theorem dX4_putsPiece_23 : decode cX4_putsPiece 23 = .ok (.iload_n 2, 1) := by decide +kernel
theorem dX4_putsPiece_24 : decode cX4_putsPiece 24 = .ok (.iadd, 1) := by decide +kernel
theorem dX4_putsPiece_25 : decode cX4_putsPiece 25 = .ok (.iaload, 1) := by decide +kernel
theorem dX4_putsPiece_26 : decode cX4_putsPiece 26 = .ok (.invokevirtual 62, 3) := by decide +kernel
theorem dX4_putsPiece_29 : decode cX4_putsPiece 29 = .ok (.iinc 2 1, 3) := by decide +kernel
theorem dX4_putsPiece_32 : decode cX4_putsPiece 32 = .ok (.goto (-30), 3) := by decide +kernel
theorem dX4_putsPiece_35 : decode cX4_putsPiece 35 = .ok (.return_, 1) := by decide +kernel
theorem dX4_piece_0 : decode cX4_piece 0 = .ok (.iload_n 1, 1) := by decide +kernel
theorem dX4_piece_1 : decode cX4_piece 1 = .ok (.iconst 0, 1) := by decide +kernel
theorem dX4_piece_2 : decode cX4_piece 2 = .ok (.aload_n 0, 1) := by decide +kernel
theorem dX4_piece_3 : decode cX4_piece 3 = .ok (.getfield 138, 3) := by decide +kernel
theorem dX4_piece_6 : decode cX4_piece 6 = .ok (.iconst 1, 1) := by decide +kernel
theorem dX4_piece_7 : decode cX4_piece 7 = .ok (.isub, 1) := by decide +kernel
theorem dX4_piece_8 : decode cX4_piece 8 = .ok (.invokestatic 46, 3) := by decide +kernel
theorem dX4_piece_11 : decode cX4_piece 11 = .ok (.ifCond .ne 6, 3) := by decide +kernel
theorem dX4_piece_14 : decode cX4_piece 14 = .ok (.ldc 87, 2) := by decide +kernel
theorem dX4_piece_16 : decode cX4_piece 16 = .ok (.ireturn, 1) := by decide +kernel
theorem dX4_piece_17 : decode cX4_piece 17 = .ok (.aload_n 0, 1) := by decide +kernel
theorem dX4_piece_18 : decode cX4_piece 18 = .ok (.invokevirtual 75, 3) := by decide +kernel
theorem dX4_piece_21 : decode cX4_piece 21 = .ok (.aload_n 0, 1) := by decide +kernel
theorem dX4_piece_22 : decode cX4_piece 22 = .ok (.iload_n 1, 1) := by decide +kernel
theorem dX4_piece_23 : decode cX4_piece 23 = .ok (.invokevirtual 148, 3) := by decide +kernel
theorem dX4_piece_26 : decode cX4_piece 26 = .ok (.aload_n 0, 1) := by decide +kernel
theorem dX4_piece_27 : decode cX4_piece 27 = .ok (.iload_n 2, 1) := by decide +kernel
theorem dX4_piece_28 : decode cX4_piece 28 = .ok (.invokevirtual 82, 3) := by decide +kernel
theorem dX4_piece_31 : decode cX4_piece 31 = .ok (.ireturn, 1) := by decide +kernel
theorem dX4_join_0 : decode cX4_join 0 = .ok (.iload_n 1, 1) := by decide +kernel
theorem dX4_join_1 : decode cX4_join 1 = .ok (.invokestatic 70, 3) := by decide +kernel
theorem dX4_join_4 : decode cX4_join 4 = .ok (.ifCond .ne 6, 3) := by decide +kernel
theorem dX4_join_7 : decode cX4_join 7 = .ok (.ldc 74, 2) := by decide +kernel
theorem dX4_join_9 : decode cX4_join 9 = .ok (.ireturn, 1) := by decide +kernel
theorem dX4_join_10 : decode cX4_join 10 = .ok (.aload_n 0, 1) := by decide +kernel
theorem dX4_join_11 : decode cX4_join 11 = .ok (.invokevirtual 75, 3) := by decide +kernel
theorem dX4_join_14 : decode cX4_join 14 = .ok (.iconst 0, 1) := by decide +kernel
theorem dX4_join_15 : decode cX4_join 15 = .ok (.istore_n 3, 1) := by decide +kernel
theorem dX4_join_16 : decode cX4_join 16 = .ok (.iload_n 3, 1) := by decide +kernel
theorem dX4_join_17 : decode cX4_join 17 = .ok (.aload_n 0, 1) := by decide +kernel
theorem dX4_join_18 : decode cX4_join 18 = .ok (.getfield 138, 3) := by decide +kernel
theorem dX4_join_21 : decode cX4_join 21 = .ok (.if_icmp .ge 23, 3) := by decide +kernel
theorem dX4_join_24 : decode cX4_join 24 = .ok (.iload_n 3, 1) := by decide +kernel
theorem dX4_join_25 : decode cX4_join 25 = .ok (.ifCond .le 8, 3) := by decide +kernel
theorem dX4_join_28 : decode cX4_join 28 = .ok (.aload_n 0, 1) := by decide +kernel
theorem dX4_join_29 : decode cX4_join 29 = .ok (.iload_n 1, 1) := by decide +kernel
theorem dX4_join_30 : decode cX4_join 30 = .ok (.invokevirtual 62, 3) := by decide +kernel
theorem dX4_join_33 : decode cX4_join 33 = .ok (.aload_n 0, 1) := by decide +kernel
theorem dX4_join_34 : decode cX4_join 34 = .ok (.iload_n 3, 1) := by decide +kernel
theorem dX4_join_35 : decode cX4_join 35 = .ok (.invokevirtual 148, 3) := by decide +kernel
theorem dX4_join_38 : decode cX4_join 38 = .ok (.iinc 3 1, 3) := by decide +kernel
theorem dX4_join_41 : decode cX4_join 41 = .ok (.goto (-25), 3) := by decide +kernel
theorem dX4_join_44 : decode cX4_join 44 = .ok (.aload_n 0, 1) := by decide +kernel
theorem dX4_join_45 : decode cX4_join 45 = .ok (.iload_n 2, 1) := by decide +kernel
theorem dX4_join_46 : decode cX4_join 46 = .ok (.invokevirtual 82, 3) := by decide +kernel
theorem dX4_join_49 : decode cX4_join 49 = .ok (.ireturn, 1) := by decide +kernel
theorem dX4_finds_0 : decode cX4_finds 0 = .ok (.iconst 0, 1) := by decide +kernel
theorem dX4_finds_1 : decode cX4_finds 1 = .ok (.istore_n 3, 1) := by decide +kernel
theorem dX4_finds_2 : decode cX4_finds 2 = .ok (.iconst 0, 1) := by decide +kernel
theorem dX4_finds_3 : decode cX4_finds 3 = .ok (.istore 4, 2) := by decide +kernel
theorem dX4_finds_5 : decode cX4_finds 5 = .ok (.iload 4, 2) := by decide +kernel
theorem dX4_finds_7 : decode cX4_finds 7 = .ok (.aload_n 0, 1) := by decide +kernel
theorem dX4_finds_8 : decode cX4_finds 8 = .ok (.iload_n 1, 1) := by decide +kernel
theorem dX4_finds_9 : decode cX4_finds 9 = .ok (.invokevirtual 67, 3) := by decide +kernel
theorem dX4_finds_12 : decode cX4_finds 12 = .ok (.if_icmp .ge 48, 3) := by decide +kernel
theorem dX4_finds_15 : decode cX4_finds 15 = .ok (.aload_n 0, 1) := by decide +kernel
theorem dX4_finds_16 : decode cX4_finds 16 = .ok (.iload_n 1, 1) := by decide +kernel
theorem dX4_finds_17 : decode cX4_finds 17 = .ok (.iload_n 2, 1) := by decide +kernel
theorem dX4_finds_18 : decode cX4_finds 18 = .ok (.iload 4, 2) := by decide +kernel
theorem dX4_finds_20 : decode cX4_finds 20 = .ok (.invokevirtual 111, 3) := by decide +kernel
theorem dX4_finds_23 : decode cX4_finds 23 = .ok (.istore 5, 2) := by decide +kernel
theorem dX4_finds_25 : decode cX4_finds 25 = .ok (.iload_n 3, 1) := by decide +kernel
theorem dX4_finds_26 : decode cX4_finds 26 = .ok (.iload 5, 2) := by decide +kernel
theorem dX4_finds_28 : decode cX4_finds 28 = .ok (.ifCond .eq 7, 3) := by decide +kernel
theorem dX4_finds_31 : decode cX4_finds 31 = .ok (.iconst 1, 1) := by decide +kernel
theorem dX4_finds_32 : decode cX4_finds 32 = .ok (.goto 4, 3) := by decide +kernel
theorem dX4_finds_35 : decode cX4_finds 35 = .ok (.iconst 0, 1) := by decide +kernel
theorem dX4_finds_36 : decode cX4_finds 36 = .ok (.iadd, 1) := by decide +kernel
theorem dX4_finds_37 : decode cX4_finds 37 = .ok (.istore_n 3, 1) := by decide +kernel
theorem dX4_finds_38 : decode cX4_finds 38 = .ok (.iload 4, 2) := by decide +kernel
theorem dX4_finds_40 : decode cX4_finds 40 = .ok (.iload 5, 2) := by decide +kernel
theorem dX4_finds_42 : decode cX4_finds 42 = .ok (.ifCond .eq 11, 3) := by decide +kernel
theorem dX4_finds_45 : decode cX4_finds 45 = .ok (.aload_n 0, 1) := by decide +kernel
theorem dX4_finds_46 : decode cX4_finds 46 = .ok (.iload_n 2, 1) := by decide +kernel
theorem dX4_finds_47 : decode cX4_finds 47 = .ok (.invokevirtual 67, 3) := by decide +kernel
theorem dX4_finds_50 : decode cX4_finds 50 = .ok (.goto 4, 3) := by decide +kernel
theorem dX4_finds_53 : decode cX4_finds 53 = .ok (.iconst 1, 1) := by decide +kernel
theorem dX4_finds_54 : decode cX4_finds 54 = .ok (.iadd, 1) := by decide +kernel
theorem dX4_finds_55 : decode cX4_finds 55 = .ok (.istore 4, 2) := by decide +kernel
theorem dX4_finds_57 : decode cX4_finds 57 = .ok (.goto (-52), 3) := by decide +kernel
theorem dX4_finds_60 : decode cX4_finds 60 = .ok (.iload_n 3, 1) := by decide +kernel
theorem dX4_finds_61 : decode cX4_finds 61 = .ok (.ireturn, 1) := by decide +kernel
theorem dX4_count_0 : decode cX4_count 0 = .ok (.aload_n 0, 1) := by decide +kernel
theorem dX4_count_1 : decode cX4_count 1 = .ok (.iload_n 2, 1) := by decide +kernel
theorem dX4_count_2 : decode cX4_count 2 = .ok (.invokevirtual 67, 3) := by decide +kernel
theorem dX4_count_5 : decode cX4_count 5 = .ok (.ifCond .ne 8, 3) := by decide +kernel
theorem dX4_count_8 : decode cX4_count 8 = .ok (.ldc 74, 2) := by decide +kernel
theorem dX4_count_10 : decode cX4_count 10 = .ok (.goto 9, 3) := by decide +kernel
theorem dX4_count_13 : decode cX4_count 13 = .ok (.aload_n 0, 1) := by decide +kernel
theorem dX4_count_14 : decode cX4_count 14 = .ok (.iload_n 1, 1) := by decide +kernel
theorem dX4_count_15 : decode cX4_count 15 = .ok (.iload_n 2, 1) := by decide +kernel
theorem dX4_count_16 : decode cX4_count 16 = .ok (.invokevirtual 151, 3) := by decide +kernel
theorem dX4_count_19 : decode cX4_count 19 = .ok (.ireturn, 1) := by decide +kernel
theorem dX4_head_0 : decode cX4_head 0 = .ok (.iconst 0, 1) := by decide +kernel
theorem dX4_head_1 : decode cX4_head 1 = .ok (.istore_n 3, 1) := by decide +kernel
theorem dX4_head_2 : decode cX4_head 2 = .ok (.iload_n 3, 1) := by decide +kernel
theorem dX4_head_3 : decode cX4_head 3 = .ok (.aload_n 0, 1) := by decide +kernel
theorem dX4_head_4 : decode cX4_head 4 = .ok (.iload_n 1, 1) := by decide +kernel
theorem dX4_head_5 : decode cX4_head 5 = .ok (.invokevirtual 67, 3) := by decide +kernel
theorem dX4_head_8 : decode cX4_head 8 = .ok (.if_icmp .ge 33, 3) := by decide +kernel
theorem dX4_head_11 : decode cX4_head 11 = .ok (.iload_n 3, 1) := by decide +kernel
theorem dX4_head_12 : decode cX4_head 12 = .ok (.aload_n 0, 1) := by decide +kernel
theorem dX4_head_13 : decode cX4_head 13 = .ok (.iload_n 2, 1) := by decide +kernel
theorem dX4_head_14 : decode cX4_head 14 = .ok (.invokevirtual 67, 3) := by decide +kernel
theorem dX4_head_17 : decode cX4_head 17 = .ok (.if_icmp .ge 24, 3) := by decide +kernel
theorem dX4_head_20 : decode cX4_head 20 = .ok (.aload_n 0, 1) := by decide +kernel
theorem dX4_head_21 : decode cX4_head 21 = .ok (.iload_n 1, 1) := by decide +kernel
theorem dX4_head_22 : decode cX4_head 22 = .ok (.iload_n 3, 1) := by decide +kernel
theorem dX4_head_23 : decode cX4_head 23 = .ok (.invokevirtual 58, 3) := by decide +kernel
theorem dX4_head_26 : decode cX4_head 26 = .ok (.aload_n 0, 1) := by decide +kernel
theorem dX4_head_27 : decode cX4_head 27 = .ok (.iload_n 2, 1) := by decide +kernel
theorem dX4_head_28 : decode cX4_head 28 = .ok (.iload_n 3, 1) := by decide +kernel
theorem dX4_head_29 : decode cX4_head 29 = .ok (.invokevirtual 58, 3) := by decide +kernel
theorem dX4_head_32 : decode cX4_head 32 = .ok (.if_icmp .ne 9, 3) := by decide +kernel
theorem dX4_head_35 : decode cX4_head 35 = .ok (.iinc 3 1, 3) := by decide +kernel
theorem dX4_head_38 : decode cX4_head 38 = .ok (.goto (-36), 3) := by decide +kernel
theorem dX4_head_41 : decode cX4_head 41 = .ok (.iload_n 3, 1) := by decide +kernel
theorem dX4_head_42 : decode cX4_head 42 = .ok (.ireturn, 1) := by decide +kernel
theorem dX4_foot_0 : decode cX4_foot 0 = .ok (.iconst 0, 1) := by decide +kernel
theorem dX4_foot_1 : decode cX4_foot 1 = .ok (.istore_n 3, 1) := by decide +kernel
theorem dX4_foot_2 : decode cX4_foot 2 = .ok (.iload_n 3, 1) := by decide +kernel
theorem dX4_foot_3 : decode cX4_foot 3 = .ok (.aload_n 0, 1) := by decide +kernel
theorem dX4_foot_4 : decode cX4_foot 4 = .ok (.iload_n 1, 1) := by decide +kernel
theorem dX4_foot_5 : decode cX4_foot 5 = .ok (.invokevirtual 67, 3) := by decide +kernel
theorem dX4_foot_8 : decode cX4_foot 8 = .ok (.if_icmp .ge 49, 3) := by decide +kernel
theorem dX4_foot_11 : decode cX4_foot 11 = .ok (.iload_n 3, 1) := by decide +kernel
theorem dX4_foot_12 : decode cX4_foot 12 = .ok (.aload_n 0, 1) := by decide +kernel
theorem dX4_foot_13 : decode cX4_foot 13 = .ok (.iload_n 2, 1) := by decide +kernel
theorem dX4_foot_14 : decode cX4_foot 14 = .ok (.invokevirtual 67, 3) := by decide +kernel
theorem dX4_foot_17 : decode cX4_foot 17 = .ok (.if_icmp .ge 40, 3) := by decide +kernel
theorem dX4_foot_20 : decode cX4_foot 20 = .ok (.aload_n 0, 1) := by decide +kernel
theorem dX4_foot_21 : decode cX4_foot 21 = .ok (.iload_n 1, 1) := by decide +kernel
theorem dX4_foot_22 : decode cX4_foot 22 = .ok (.aload_n 0, 1) := by decide +kernel
theorem dX4_foot_23 : decode cX4_foot 23 = .ok (.iload_n 1, 1) := by decide +kernel
theorem dX4_foot_24 : decode cX4_foot 24 = .ok (.invokevirtual 67, 3) := by decide +kernel
theorem dX4_foot_27 : decode cX4_foot 27 = .ok (.iconst 1, 1) := by decide +kernel
theorem dX4_foot_28 : decode cX4_foot 28 = .ok (.isub, 1) := by decide +kernel
theorem dX4_foot_29 : decode cX4_foot 29 = .ok (.iload_n 3, 1) := by decide +kernel
theorem dX4_foot_30 : decode cX4_foot 30 = .ok (.isub, 1) := by decide +kernel
theorem dX4_foot_31 : decode cX4_foot 31 = .ok (.invokevirtual 58, 3) := by decide +kernel
theorem dX4_foot_34 : decode cX4_foot 34 = .ok (.aload_n 0, 1) := by decide +kernel
theorem dX4_foot_35 : decode cX4_foot 35 = .ok (.iload_n 2, 1) := by decide +kernel
theorem dX4_foot_36 : decode cX4_foot 36 = .ok (.aload_n 0, 1) := by decide +kernel
theorem dX4_foot_37 : decode cX4_foot 37 = .ok (.iload_n 2, 1) := by decide +kernel
theorem dX4_foot_38 : decode cX4_foot 38 = .ok (.invokevirtual 67, 3) := by decide +kernel
theorem dX4_foot_41 : decode cX4_foot 41 = .ok (.iconst 1, 1) := by decide +kernel
theorem dX4_foot_42 : decode cX4_foot 42 = .ok (.isub, 1) := by decide +kernel
theorem dX4_foot_43 : decode cX4_foot 43 = .ok (.iload_n 3, 1) := by decide +kernel
theorem dX4_foot_44 : decode cX4_foot 44 = .ok (.isub, 1) := by decide +kernel
theorem dX4_foot_45 : decode cX4_foot 45 = .ok (.invokevirtual 58, 3) := by decide +kernel
theorem dX4_foot_48 : decode cX4_foot 48 = .ok (.if_icmp .ne 9, 3) := by decide +kernel
theorem dX4_foot_51 : decode cX4_foot 51 = .ok (.iinc 3 1, 3) := by decide +kernel
theorem dX4_foot_54 : decode cX4_foot 54 = .ok (.goto (-52), 3) := by decide +kernel
theorem dX4_foot_57 : decode cX4_foot 57 = .ok (.iload_n 3, 1) := by decide +kernel
theorem dX4_foot_58 : decode cX4_foot 58 = .ok (.ireturn, 1) := by decide +kernel
theorem dX4_arePlacesSo_0 : decode cX4_arePlacesSo 0 = .ok (.aload_n 0, 1) := by decide +kernel
theorem dX4_arePlacesSo_1 : decode cX4_arePlacesSo 1 = .ok (.iload_n 1, 1) := by decide +kernel
theorem dX4_arePlacesSo_2 : decode cX4_arePlacesSo 2 = .ok (.invokevirtual 67, 3) := by decide +kernel
theorem dX4_arePlacesSo_5 : decode cX4_arePlacesSo 5 = .ok (.istore 4, 2) := by decide +kernel
theorem dX4_arePlacesSo_7 : decode cX4_arePlacesSo 7 = .ok (.iload_n 3, 1) := by decide +kernel
theorem dX4_arePlacesSo_8 : decode cX4_arePlacesSo 8 = .ok (.ifCond .ge 7, 3) := by decide +kernel
theorem dX4_arePlacesSo_11 : decode cX4_arePlacesSo 11 = .ok (.iconst 0, 1) := by decide +kernel
theorem dX4_arePlacesSo_12 : decode cX4_arePlacesSo 12 = .ok (.goto 15, 3) := by decide +kernel
theorem dX4_arePlacesSo_15 : decode cX4_arePlacesSo 15 = .ok (.iload_n 3, 1) := by decide +kernel
theorem dX4_arePlacesSo_16 : decode cX4_arePlacesSo 16 = .ok (.iload 4, 2) := by decide +kernel
theorem dX4_arePlacesSo_18 : decode cX4_arePlacesSo 18 = .ok (.if_icmp .le 8, 3) := by decide +kernel
theorem dX4_arePlacesSo_21 : decode cX4_arePlacesSo 21 = .ok (.iload 4, 2) := by decide +kernel
theorem dX4_arePlacesSo_23 : decode cX4_arePlacesSo 23 = .ok (.goto 4, 3) := by decide +kernel
theorem dX4_arePlacesSo_26 : decode cX4_arePlacesSo 26 = .ok (.iload_n 3, 1) := by decide +kernel
theorem dX4_arePlacesSo_27 : decode cX4_arePlacesSo 27 = .ok (.istore 5, 2) := by decide +kernel
theorem dX4_arePlacesSo_29 : decode cX4_arePlacesSo 29 = .ok (.iconst (-1), 1) := by decide +kernel
theorem dX4_arePlacesSo_30 : decode cX4_arePlacesSo 30 = .ok (.istore 6, 2) := by decide +kernel
theorem dX4_arePlacesSo_32 : decode cX4_arePlacesSo 32 = .ok (.iconst (-1), 1) := by decide +kernel
theorem dX4_arePlacesSo_33 : decode cX4_arePlacesSo 33 = .ok (.istore 7, 2) := by decide +kernel
theorem dX4_arePlacesSo_35 : decode cX4_arePlacesSo 35 = .ok (.iconst 0, 1) := by decide +kernel
theorem dX4_arePlacesSo_36 : decode cX4_arePlacesSo 36 = .ok (.istore 8, 2) := by decide +kernel
theorem dX4_arePlacesSo_38 : decode cX4_arePlacesSo 38 = .ok (.iload 8, 2) := by decide +kernel
theorem dX4_arePlacesSo_40 : decode cX4_arePlacesSo 40 = .ok (.iload 4, 2) := by decide +kernel
theorem dX4_arePlacesSo_42 : decode cX4_arePlacesSo 42 = .ok (.if_icmp .gt 66, 3) := by decide +kernel
theorem dX4_arePlacesSo_45 : decode cX4_arePlacesSo 45 = .ok (.aload_n 0, 1) := by decide +kernel
theorem dX4_arePlacesSo_46 : decode cX4_arePlacesSo 46 = .ok (.iload_n 1, 1) := by decide +kernel
theorem dX4_arePlacesSo_47 : decode cX4_arePlacesSo 47 = .ok (.iload_n 2, 1) := by decide +kernel
theorem dX4_arePlacesSo_48 : decode cX4_arePlacesSo 48 = .ok (.iload 8, 2) := by decide +kernel
theorem dX4_arePlacesSo_50 : decode cX4_arePlacesSo 50 = .ok (.invokevirtual 111, 3) := by decide +kernel
theorem dX4_arePlacesSo_53 : decode cX4_arePlacesSo 53 = .ok (.istore 9, 2) := by decide +kernel
theorem dX4_arePlacesSo_55 : decode cX4_arePlacesSo 55 = .ok (.iload 9, 2) := by decide +kernel
theorem dX4_arePlacesSo_57 : decode cX4_arePlacesSo 57 = .ok (.ifCond .eq 21, 3) := by decide +kernel
theorem dX4_arePlacesSo_60 : decode cX4_arePlacesSo 60 = .ok (.iload 8, 2) := by decide +kernel
theorem dX4_arePlacesSo_62 : decode cX4_arePlacesSo 62 = .ok (.iload 5, 2) := by decide +kernel
theorem dX4_arePlacesSo_64 : decode cX4_arePlacesSo 64 = .ok (.if_icmp .lt 14, 3) := by decide +kernel
theorem dX4_arePlacesSo_67 : decode cX4_arePlacesSo 67 = .ok (.iload 6, 2) := by decide +kernel
theorem dX4_arePlacesSo_69 : decode cX4_arePlacesSo 69 = .ok (.iconst (-1), 1) := by decide +kernel
theorem dX4_arePlacesSo_70 : decode cX4_arePlacesSo 70 = .ok (.if_icmp .ne 8, 3) := by decide +kernel
theorem dX4_arePlacesSo_73 : decode cX4_arePlacesSo 73 = .ok (.iload 8, 2) := by decide +kernel
theorem dX4_arePlacesSo_75 : decode cX4_arePlacesSo 75 = .ok (.goto 5, 3) := by decide +kernel
theorem dX4_arePlacesSo_78 : decode cX4_arePlacesSo 78 = .ok (.iload 6, 2) := by decide +kernel
theorem dX4_arePlacesSo_80 : decode cX4_arePlacesSo 80 = .ok (.istore 6, 2) := by decide +kernel
theorem dX4_arePlacesSo_82 : decode cX4_arePlacesSo 82 = .ok (.iload 9, 2) := by decide +kernel
theorem dX4_arePlacesSo_84 : decode cX4_arePlacesSo 84 = .ok (.ifCond .eq 14, 3) := by decide +kernel
theorem dX4_arePlacesSo_87 : decode cX4_arePlacesSo 87 = .ok (.iload 8, 2) := by decide +kernel
theorem dX4_arePlacesSo_89 : decode cX4_arePlacesSo 89 = .ok (.iload_n 3, 1) := by decide +kernel
theorem dX4_arePlacesSo_90 : decode cX4_arePlacesSo 90 = .ok (.if_icmp .gt 8, 3) := by decide +kernel
theorem dX4_arePlacesSo_93 : decode cX4_arePlacesSo 93 = .ok (.iload 8, 2) := by decide +kernel
theorem dX4_arePlacesSo_95 : decode cX4_arePlacesSo 95 = .ok (.goto 5, 3) := by decide +kernel
theorem dX4_arePlacesSo_98 : decode cX4_arePlacesSo 98 = .ok (.iload 7, 2) := by decide +kernel
theorem dX4_arePlacesSo_100 : decode cX4_arePlacesSo 100 = .ok (.istore 7, 2) := by decide +kernel
theorem dX4_arePlacesSo_102 : decode cX4_arePlacesSo 102 = .ok (.iinc 8 1, 3) := by decide +kernel
theorem dX4_arePlacesSo_105 : decode cX4_arePlacesSo 105 = .ok (.goto (-67), 3) := by decide +kernel
theorem dX4_arePlacesSo_108 : decode cX4_arePlacesSo 108 = .ok (.aload_n 0, 1) := by decide +kernel
theorem dX4_arePlacesSo_109 : decode cX4_arePlacesSo 109 = .ok (.iload_n 1, 1) := by decide +kernel
theorem dX4_arePlacesSo_110 : decode cX4_arePlacesSo 110 = .ok (.iload_n 2, 1) := by decide +kernel
theorem dX4_arePlacesSo_111 : decode cX4_arePlacesSo 111 = .ok (.iload_n 3, 1) := by decide +kernel
theorem dX4_arePlacesSo_112 : decode cX4_arePlacesSo 112 = .ok (.invokevirtual 108, 3) := by decide +kernel
theorem dX4_arePlacesSo_115 : decode cX4_arePlacesSo 115 = .ok (.iload 6, 2) := by decide +kernel
theorem dX4_arePlacesSo_117 : decode cX4_arePlacesSo 117 = .ok (.if_icmp .ne 19, 3) := by decide +kernel
theorem dX4_arePlacesSo_120 : decode cX4_arePlacesSo 120 = .ok (.aload_n 0, 1) := by decide +kernel
theorem dX4_arePlacesSo_121 : decode cX4_arePlacesSo 121 = .ok (.iload_n 1, 1) := by decide +kernel
theorem dX4_arePlacesSo_122 : decode cX4_arePlacesSo 122 = .ok (.iload_n 2, 1) := by decide +kernel
theorem dX4_arePlacesSo_123 : decode cX4_arePlacesSo 123 = .ok (.iload_n 3, 1) := by decide +kernel
theorem dX4_arePlacesSo_124 : decode cX4_arePlacesSo 124 = .ok (.invokevirtual 114, 3) := by decide +kernel
theorem dX4_arePlacesSo_127 : decode cX4_arePlacesSo 127 = .ok (.iload 7, 2) := by decide +kernel
theorem dX4_arePlacesSo_129 : decode cX4_arePlacesSo 129 = .ok (.if_icmp .ne 7, 3) := by decide +kernel
theorem dX4_arePlacesSo_132 : decode cX4_arePlacesSo 132 = .ok (.iconst 1, 1) := by decide +kernel
theorem dX4_arePlacesSo_133 : decode cX4_arePlacesSo 133 = .ok (.goto 4, 3) := by decide +kernel
theorem dX4_arePlacesSo_136 : decode cX4_arePlacesSo 136 = .ok (.iconst 0, 1) := by decide +kernel
theorem dX4_arePlacesSo_137 : decode cX4_arePlacesSo 137 = .ok (.ireturn, 1) := by decide +kernel
theorem dX4_isOrderSo_0 : decode cX4_isOrderSo 0 = .ok (.aload_n 0, 1) := by decide +kernel
theorem dX4_isOrderSo_1 : decode cX4_isOrderSo 1 = .ok (.iload_n 1, 1) := by decide +kernel
theorem dX4_isOrderSo_2 : decode cX4_isOrderSo 2 = .ok (.iload_n 2, 1) := by decide +kernel
theorem dX4_isOrderSo_3 : decode cX4_isOrderSo 3 = .ok (.invokevirtual 154, 3) := by decide +kernel
theorem dX4_isOrderSo_6 : decode cX4_isOrderSo 6 = .ok (.istore_n 3, 1) := by decide +kernel
theorem dX4_isOrderSo_7 : decode cX4_isOrderSo 7 = .ok (.aload_n 0, 1) := by decide +kernel
theorem dX4_isOrderSo_8 : decode cX4_isOrderSo 8 = .ok (.iload_n 1, 1) := by decide +kernel
theorem dX4_isOrderSo_9 : decode cX4_isOrderSo 9 = .ok (.iload_n 2, 1) := by decide +kernel
theorem dX4_isOrderSo_10 : decode cX4_isOrderSo 10 = .ok (.invokevirtual 157, 3) := by decide +kernel
theorem dX4_isOrderSo_13 : decode cX4_isOrderSo 13 = .ok (.istore 4, 2) := by decide +kernel
theorem dX4_isOrderSo_15 : decode cX4_isOrderSo 15 = .ok (.iload 4, 2) := by decide +kernel
theorem dX4_isOrderSo_17 : decode cX4_isOrderSo 17 = .ok (.aload_n 0, 1) := by decide +kernel
theorem dX4_isOrderSo_18 : decode cX4_isOrderSo 18 = .ok (.iload_n 1, 1) := by decide +kernel
theorem dX4_isOrderSo_19 : decode cX4_isOrderSo 19 = .ok (.invokevirtual 67, 3) := by decide +kernel
theorem dX4_isOrderSo_22 : decode cX4_isOrderSo 22 = .ok (.if_icmp .eq 13, 3) := by decide +kernel
theorem dX4_isOrderSo_25 : decode cX4_isOrderSo 25 = .ok (.iload 4, 2) := by decide +kernel
theorem dX4_isOrderSo_27 : decode cX4_isOrderSo 27 = .ok (.aload_n 0, 1) := by decide +kernel
theorem dX4_isOrderSo_28 : decode cX4_isOrderSo 28 = .ok (.iload_n 2, 1) := by decide +kernel
theorem dX4_isOrderSo_29 : decode cX4_isOrderSo 29 = .ok (.invokevirtual 67, 3) := by decide +kernel
theorem dX4_isOrderSo_32 : decode cX4_isOrderSo 32 = .ok (.if_icmp .ne 7, 3) := by decide +kernel
theorem dX4_isOrderSo_35 : decode cX4_isOrderSo 35 = .ok (.iconst 1, 1) := by decide +kernel
theorem dX4_isOrderSo_36 : decode cX4_isOrderSo 36 = .ok (.goto 4, 3) := by decide +kernel
theorem dX4_isOrderSo_39 : decode cX4_isOrderSo 39 = .ok (.iconst 0, 1) := by decide +kernel
theorem dX4_isOrderSo_40 : decode cX4_isOrderSo 40 = .ok (.istore 5, 2) := by decide +kernel
theorem dX4_isOrderSo_42 : decode cX4_isOrderSo 42 = .ok (.iload 5, 2) := by decide +kernel
theorem dX4_isOrderSo_44 : decode cX4_isOrderSo 44 = .ok (.ifCond .eq 17, 3) := by decide +kernel
theorem dX4_isOrderSo_47 : decode cX4_isOrderSo 47 = .ok (.aload_n 0, 1) := by decide +kernel
theorem dX4_isOrderSo_48 : decode cX4_isOrderSo 48 = .ok (.iload_n 1, 1) := by decide +kernel
theorem dX4_isOrderSo_49 : decode cX4_isOrderSo 49 = .ok (.invokevirtual 67, 3) := by decide +kernel
theorem dX4_isOrderSo_52 : decode cX4_isOrderSo 52 = .ok (.aload_n 0, 1) := by decide +kernel
theorem dX4_isOrderSo_53 : decode cX4_isOrderSo 53 = .ok (.iload_n 2, 1) := by decide +kernel
theorem dX4_isOrderSo_54 : decode cX4_isOrderSo 54 = .ok (.invokevirtual 67, 3) := by decide +kernel
theorem dX4_isOrderSo_57 : decode cX4_isOrderSo 57 = .ok (.isub, 1) := by decide +kernel
theorem dX4_isOrderSo_58 : decode cX4_isOrderSo 58 = .ok (.goto 18, 3) := by decide +kernel
theorem dX4_isOrderSo_61 : decode cX4_isOrderSo 61 = .ok (.aload_n 0, 1) := by decide +kernel
theorem dX4_isOrderSo_62 : decode cX4_isOrderSo 62 = .ok (.iload_n 1, 1) := by decide +kernel
theorem dX4_isOrderSo_63 : decode cX4_isOrderSo 63 = .ok (.iload 4, 2) := by decide +kernel
theorem dX4_isOrderSo_65 : decode cX4_isOrderSo 65 = .ok (.invokevirtual 58, 3) := by decide +kernel
theorem dX4_isOrderSo_68 : decode cX4_isOrderSo 68 = .ok (.aload_n 0, 1) := by decide +kernel
theorem dX4_isOrderSo_69 : decode cX4_isOrderSo 69 = .ok (.iload_n 2, 1) := by decide +kernel
theorem dX4_isOrderSo_70 : decode cX4_isOrderSo 70 = .ok (.iload 4, 2) := by decide +kernel
theorem dX4_isOrderSo_72 : decode cX4_isOrderSo 72 = .ok (.invokevirtual 58, 3) := by decide +kernel
theorem dX4_isOrderSo_75 : decode cX4_isOrderSo 75 = .ok (.isub, 1) := by decide +kernel
theorem dX4_isOrderSo_76 : decode cX4_isOrderSo 76 = .ok (.istore 6, 2) := by decide +kernel
theorem dX4_isOrderSo_78 : decode cX4_isOrderSo 78 = .ok (.iload_n 3, 1) := by decide +kernel
theorem dX4_isOrderSo_79 : decode cX4_isOrderSo 79 = .ok (.iload 6, 2) := by decide +kernel
theorem dX4_isOrderSo_81 : decode cX4_isOrderSo 81 = .ok (.if_icmp .ne 36, 3) := by decide +kernel
theorem dX4_isOrderSo_84 : decode cX4_isOrderSo 84 = .ok (.aload_n 0, 1) := by decide +kernel
theorem dX4_isOrderSo_85 : decode cX4_isOrderSo 85 = .ok (.iload_n 2, 1) := by decide +kernel
theorem dX4_isOrderSo_86 : decode cX4_isOrderSo 86 = .ok (.iload_n 1, 1) := by decide +kernel
theorem dX4_isOrderSo_87 : decode cX4_isOrderSo 87 = .ok (.invokevirtual 154, 3) := by decide +kernel
theorem dX4_isOrderSo_90 : decode cX4_isOrderSo 90 = .ok (.iload_n 3, 1) := by decide +kernel
theorem dX4_isOrderSo_91 : decode cX4_isOrderSo 91 = .ok (.ineg, 1) := by decide +kernel
theorem dX4_isOrderSo_92 : decode cX4_isOrderSo 92 = .ok (.if_icmp .ne 25, 3) := by decide +kernel
theorem dX4_isOrderSo_95 : decode cX4_isOrderSo 95 = .ok (.iload_n 3, 1) := by decide +kernel
theorem dX4_isOrderSo_96 : decode cX4_isOrderSo 96 = .ok (.ifCond .ne 7, 3) := by decide +kernel
theorem dX4_isOrderSo_99 : decode cX4_isOrderSo 99 = .ok (.iconst 1, 1) := by decide +kernel
theorem dX4_isOrderSo_100 : decode cX4_isOrderSo 100 = .ok (.goto 4, 3) := by decide +kernel
theorem dX4_isOrderSo_103 : decode cX4_isOrderSo 103 = .ok (.iconst 0, 1) := by decide +kernel
theorem dX4_isOrderSo_104 : decode cX4_isOrderSo 104 = .ok (.aload_n 0, 1) := by decide +kernel
theorem dX4_isOrderSo_105 : decode cX4_isOrderSo 105 = .ok (.iload_n 1, 1) := by decide +kernel
theorem dX4_isOrderSo_106 : decode cX4_isOrderSo 106 = .ok (.iload_n 2, 1) := by decide +kernel
theorem dX4_isOrderSo_107 : decode cX4_isOrderSo 107 = .ok (.invokevirtual 160, 3) := by decide +kernel
theorem dX4_isOrderSo_110 : decode cX4_isOrderSo 110 = .ok (.if_icmp .ne 7, 3) := by decide +kernel
theorem dX4_isOrderSo_113 : decode cX4_isOrderSo 113 = .ok (.iconst 1, 1) := by decide +kernel
theorem dX4_isOrderSo_114 : decode cX4_isOrderSo 114 = .ok (.goto 4, 3) := by decide +kernel
theorem dX4_isOrderSo_117 : decode cX4_isOrderSo 117 = .ok (.iconst 0, 1) := by decide +kernel
theorem dX4_isOrderSo_118 : decode cX4_isOrderSo 118 = .ok (.ireturn, 1) := by decide +kernel
theorem dX4_areFindsSo_0 : decode cX4_areFindsSo 0 = .ok (.iconst 0, 1) := by decide +kernel
theorem dX4_areFindsSo_1 : decode cX4_areFindsSo 1 = .ok (.istore_n 3, 1) := by decide +kernel
theorem dX4_areFindsSo_2 : decode cX4_areFindsSo 2 = .ok (.iconst 0, 1) := by decide +kernel
theorem dX4_areFindsSo_3 : decode cX4_areFindsSo 3 = .ok (.istore 4, 2) := by decide +kernel
theorem dX4_areFindsSo_5 : decode cX4_areFindsSo 5 = .ok (.aload_n 0, 1) := by decide +kernel
theorem dX4_areFindsSo_6 : decode cX4_areFindsSo 6 = .ok (.iload_n 2, 1) := by decide +kernel
theorem dX4_areFindsSo_7 : decode cX4_areFindsSo 7 = .ok (.invokevirtual 67, 3) := by decide +kernel
theorem dX4_areFindsSo_10 : decode cX4_areFindsSo 10 = .ok (.ifCond .ne 7, 3) := by decide +kernel
theorem dX4_areFindsSo_13 : decode cX4_areFindsSo 13 = .ok (.iconst (-1), 1) := by decide +kernel
theorem dX4_areFindsSo_14 : decode cX4_areFindsSo 14 = .ok (.goto 9, 3) := by decide +kernel
theorem dX4_areFindsSo_17 : decode cX4_areFindsSo 17 = .ok (.aload_n 0, 1) := by decide +kernel
theorem dX4_areFindsSo_18 : decode cX4_areFindsSo 18 = .ok (.iload_n 1, 1) := by decide +kernel
theorem dX4_areFindsSo_19 : decode cX4_areFindsSo 19 = .ok (.iload_n 2, 1) := by decide +kernel
theorem dX4_areFindsSo_20 : decode cX4_areFindsSo 20 = .ok (.invokevirtual 117, 3) := by decide +kernel
theorem dX4_areFindsSo_23 : decode cX4_areFindsSo 23 = .ok (.istore 5, 2) := by decide +kernel
theorem dX4_areFindsSo_25 : decode cX4_areFindsSo 25 = .ok (.iload 5, 2) := by decide +kernel
theorem dX4_areFindsSo_27 : decode cX4_areFindsSo 27 = .ok (.iconst (-1), 1) := by decide +kernel
theorem dX4_areFindsSo_28 : decode cX4_areFindsSo 28 = .ok (.if_icmp .eq 40, 3) := by decide +kernel
theorem dX4_areFindsSo_31 : decode cX4_areFindsSo 31 = .ok (.iload_n 3, 1) := by decide +kernel
theorem dX4_areFindsSo_32 : decode cX4_areFindsSo 32 = .ok (.iload 5, 2) := by decide +kernel
theorem dX4_areFindsSo_34 : decode cX4_areFindsSo 34 = .ok (.iload 4, 2) := by decide +kernel
theorem dX4_areFindsSo_36 : decode cX4_areFindsSo 36 = .ok (.isub, 1) := by decide +kernel
theorem dX4_areFindsSo_37 : decode cX4_areFindsSo 37 = .ok (.aload_n 0, 1) := by decide +kernel
theorem dX4_areFindsSo_38 : decode cX4_areFindsSo 38 = .ok (.iload_n 2, 1) := by decide +kernel
theorem dX4_areFindsSo_39 : decode cX4_areFindsSo 39 = .ok (.invokevirtual 67, 3) := by decide +kernel
theorem dX4_areFindsSo_42 : decode cX4_areFindsSo 42 = .ok (.iadd, 1) := by decide +kernel
theorem dX4_areFindsSo_43 : decode cX4_areFindsSo 43 = .ok (.iadd, 1) := by decide +kernel
theorem dX4_areFindsSo_44 : decode cX4_areFindsSo 44 = .ok (.istore_n 3, 1) := by decide +kernel
theorem dX4_areFindsSo_45 : decode cX4_areFindsSo 45 = .ok (.iload 5, 2) := by decide +kernel
theorem dX4_areFindsSo_47 : decode cX4_areFindsSo 47 = .ok (.aload_n 0, 1) := by decide +kernel
theorem dX4_areFindsSo_48 : decode cX4_areFindsSo 48 = .ok (.iload_n 2, 1) := by decide +kernel
theorem dX4_areFindsSo_49 : decode cX4_areFindsSo 49 = .ok (.invokevirtual 67, 3) := by decide +kernel
theorem dX4_areFindsSo_52 : decode cX4_areFindsSo 52 = .ok (.iadd, 1) := by decide +kernel
theorem dX4_areFindsSo_53 : decode cX4_areFindsSo 53 = .ok (.istore 4, 2) := by decide +kernel
theorem dX4_areFindsSo_55 : decode cX4_areFindsSo 55 = .ok (.aload_n 0, 1) := by decide +kernel
theorem dX4_areFindsSo_56 : decode cX4_areFindsSo 56 = .ok (.iload_n 1, 1) := by decide +kernel
theorem dX4_areFindsSo_57 : decode cX4_areFindsSo 57 = .ok (.iload_n 2, 1) := by decide +kernel
theorem dX4_areFindsSo_58 : decode cX4_areFindsSo 58 = .ok (.iload 4, 2) := by decide +kernel
theorem dX4_areFindsSo_60 : decode cX4_areFindsSo 60 = .ok (.invokevirtual 108, 3) := by decide +kernel
theorem dX4_areFindsSo_63 : decode cX4_areFindsSo 63 = .ok (.istore 5, 2) := by decide +kernel
theorem dX4_areFindsSo_65 : decode cX4_areFindsSo 65 = .ok (.goto (-40), 3) := by decide +kernel
theorem dX4_areFindsSo_68 : decode cX4_areFindsSo 68 = .ok (.iload_n 3, 1) := by decide +kernel
theorem dX4_areFindsSo_69 : decode cX4_areFindsSo 69 = .ok (.aload_n 0, 1) := by decide +kernel
theorem dX4_areFindsSo_70 : decode cX4_areFindsSo 70 = .ok (.iload_n 1, 1) := by decide +kernel
theorem dX4_areFindsSo_71 : decode cX4_areFindsSo 71 = .ok (.invokevirtual 67, 3) := by decide +kernel
theorem dX4_areFindsSo_74 : decode cX4_areFindsSo 74 = .ok (.iload 4, 2) := by decide +kernel
theorem dX4_areFindsSo_76 : decode cX4_areFindsSo 76 = .ok (.isub, 1) := by decide +kernel
theorem dX4_areFindsSo_77 : decode cX4_areFindsSo 77 = .ok (.iadd, 1) := by decide +kernel
theorem dX4_areFindsSo_78 : decode cX4_areFindsSo 78 = .ok (.istore_n 3, 1) := by decide +kernel
theorem dX4_areFindsSo_79 : decode cX4_areFindsSo 79 = .ok (.iload_n 3, 1) := by decide +kernel
theorem dX4_areFindsSo_80 : decode cX4_areFindsSo 80 = .ok (.aload_n 0, 1) := by decide +kernel
theorem dX4_areFindsSo_81 : decode cX4_areFindsSo 81 = .ok (.iload_n 1, 1) := by decide +kernel
theorem dX4_areFindsSo_82 : decode cX4_areFindsSo 82 = .ok (.invokevirtual 67, 3) := by decide +kernel
theorem dX4_areFindsSo_85 : decode cX4_areFindsSo 85 = .ok (.if_icmp .ne 7, 3) := by decide +kernel
theorem dX4_areFindsSo_88 : decode cX4_areFindsSo 88 = .ok (.iconst 1, 1) := by decide +kernel
theorem dX4_areFindsSo_89 : decode cX4_areFindsSo 89 = .ok (.goto 4, 3) := by decide +kernel
theorem dX4_areFindsSo_92 : decode cX4_areFindsSo 92 = .ok (.iconst 0, 1) := by decide +kernel
theorem dX4_areFindsSo_93 : decode cX4_areFindsSo 93 = .ok (.ireturn, 1) := by decide +kernel
theorem dX4_arePiecesSo_0 : decode cX4_arePiecesSo 0 = .ok (.iconst 0, 1) := by decide +kernel
theorem dX4_arePiecesSo_1 : decode cX4_arePiecesSo 1 = .ok (.istore_n 2, 1) := by decide +kernel
theorem dX4_arePiecesSo_2 : decode cX4_arePiecesSo 2 = .ok (.iconst 0, 1) := by decide +kernel
theorem dX4_arePiecesSo_3 : decode cX4_arePiecesSo 3 = .ok (.istore_n 3, 1) := by decide +kernel
theorem dX4_arePiecesSo_4 : decode cX4_arePiecesSo 4 = .ok (.iconst 0, 1) := by decide +kernel
theorem dX4_arePiecesSo_5 : decode cX4_arePiecesSo 5 = .ok (.istore 4, 2) := by decide +kernel
theorem dX4_arePiecesSo_7 : decode cX4_arePiecesSo 7 = .ok (.iload 4, 2) := by decide +kernel
theorem dX4_arePiecesSo_9 : decode cX4_arePiecesSo 9 = .ok (.aload_n 0, 1) := by decide +kernel
theorem dX4_arePiecesSo_10 : decode cX4_arePiecesSo 10 = .ok (.iload_n 1, 1) := by decide +kernel
theorem dX4_arePiecesSo_11 : decode cX4_arePiecesSo 11 = .ok (.invokevirtual 67, 3) := by decide +kernel
theorem dX4_arePiecesSo_14 : decode cX4_arePiecesSo 14 = .ok (.if_icmp .ge 49, 3) := by decide +kernel
theorem dX4_arePiecesSo_17 : decode cX4_arePiecesSo 17 = .ok (.iload_n 2, 1) := by decide +kernel
theorem dX4_arePiecesSo_18 : decode cX4_arePiecesSo 18 = .ok (.aload_n 0, 1) := by decide +kernel
theorem dX4_arePiecesSo_19 : decode cX4_arePiecesSo 19 = .ok (.iload_n 1, 1) := by decide +kernel
theorem dX4_arePiecesSo_20 : decode cX4_arePiecesSo 20 = .ok (.iload 4, 2) := by decide +kernel
theorem dX4_arePiecesSo_22 : decode cX4_arePiecesSo 22 = .ok (.invokevirtual 58, 3) := by decide +kernel
theorem dX4_arePiecesSo_25 : decode cX4_arePiecesSo 25 = .ok (.bipush 44, 2) := by decide +kernel
theorem dX4_arePiecesSo_27 : decode cX4_arePiecesSo 27 = .ok (.if_icmp .ne 7, 3) := by decide +kernel
theorem dX4_arePiecesSo_30 : decode cX4_arePiecesSo 30 = .ok (.iconst 1, 1) := by decide +kernel
theorem dX4_arePiecesSo_31 : decode cX4_arePiecesSo 31 = .ok (.goto 4, 3) := by decide +kernel
theorem dX4_arePiecesSo_34 : decode cX4_arePiecesSo 34 = .ok (.iconst 0, 1) := by decide +kernel
theorem dX4_arePiecesSo_35 : decode cX4_arePiecesSo 35 = .ok (.iadd, 1) := by decide +kernel
theorem dX4_arePiecesSo_36 : decode cX4_arePiecesSo 36 = .ok (.istore_n 2, 1) := by decide +kernel
theorem dX4_arePiecesSo_37 : decode cX4_arePiecesSo 37 = .ok (.iload_n 3, 1) := by decide +kernel
theorem dX4_arePiecesSo_38 : decode cX4_arePiecesSo 38 = .ok (.aload_n 0, 1) := by decide +kernel
theorem dX4_arePiecesSo_39 : decode cX4_arePiecesSo 39 = .ok (.iload_n 1, 1) := by decide +kernel
theorem dX4_arePiecesSo_40 : decode cX4_arePiecesSo 40 = .ok (.iload 4, 2) := by decide +kernel
theorem dX4_arePiecesSo_42 : decode cX4_arePiecesSo 42 = .ok (.invokevirtual 58, 3) := by decide +kernel
theorem dX4_arePiecesSo_45 : decode cX4_arePiecesSo 45 = .ok (.bipush 44, 2) := by decide +kernel
theorem dX4_arePiecesSo_47 : decode cX4_arePiecesSo 47 = .ok (.if_icmp .ne 7, 3) := by decide +kernel
theorem dX4_arePiecesSo_50 : decode cX4_arePiecesSo 50 = .ok (.iconst 0, 1) := by decide +kernel
theorem dX4_arePiecesSo_51 : decode cX4_arePiecesSo 51 = .ok (.goto 4, 3) := by decide +kernel
theorem dX4_arePiecesSo_54 : decode cX4_arePiecesSo 54 = .ok (.iconst 1, 1) := by decide +kernel
theorem dX4_arePiecesSo_55 : decode cX4_arePiecesSo 55 = .ok (.iadd, 1) := by decide +kernel
theorem dX4_arePiecesSo_56 : decode cX4_arePiecesSo 56 = .ok (.istore_n 3, 1) := by decide +kernel
theorem dX4_arePiecesSo_57 : decode cX4_arePiecesSo 57 = .ok (.iinc 4 1, 3) := by decide +kernel
theorem dX4_arePiecesSo_60 : decode cX4_arePiecesSo 60 = .ok (.goto (-53), 3) := by decide +kernel
theorem dX4_arePiecesSo_63 : decode cX4_arePiecesSo 63 = .ok (.iload_n 2, 1) := by decide +kernel
theorem dX4_arePiecesSo_64 : decode cX4_arePiecesSo 64 = .ok (.iload_n 3, 1) := by decide +kernel
theorem dX4_arePiecesSo_65 : decode cX4_arePiecesSo 65 = .ok (.iadd, 1) := by decide +kernel
theorem dX4_arePiecesSo_66 : decode cX4_arePiecesSo 66 = .ok (.aload_n 0, 1) := by decide +kernel
theorem dX4_arePiecesSo_67 : decode cX4_arePiecesSo 67 = .ok (.iload_n 1, 1) := by decide +kernel
theorem dX4_arePiecesSo_68 : decode cX4_arePiecesSo 68 = .ok (.invokevirtual 67, 3) := by decide +kernel
theorem dX4_arePiecesSo_71 : decode cX4_arePiecesSo 71 = .ok (.if_icmp .ne 7, 3) := by decide +kernel
theorem dX4_arePiecesSo_74 : decode cX4_arePiecesSo 74 = .ok (.iconst 1, 1) := by decide +kernel
theorem dX4_arePiecesSo_75 : decode cX4_arePiecesSo 75 = .ok (.goto 4, 3) := by decide +kernel
theorem dX4_arePiecesSo_78 : decode cX4_arePiecesSo 78 = .ok (.iconst 0, 1) := by decide +kernel
theorem dX4_arePiecesSo_79 : decode cX4_arePiecesSo 79 = .ok (.ireturn, 1) := by decide +kernel
theorem dX4_holds_0 : decode cX4_holds 0 = .ok (.aload_n 0, 1) := by decide +kernel
theorem dX4_holds_1 : decode cX4_holds 1 = .ok (.iload_n 1, 1) := by decide +kernel
theorem dX4_holds_2 : decode cX4_holds 2 = .ok (.iload_n 2, 1) := by decide +kernel
theorem dX4_holds_3 : decode cX4_holds 3 = .ok (.iload_n 3, 1) := by decide +kernel
theorem dX4_holds_4 : decode cX4_holds 4 = .ok (.invokevirtual 164, 3) := by decide +kernel
theorem dX4_holds_7 : decode cX4_holds 7 = .ok (.ifCond .eq 33, 3) := by decide +kernel
theorem dX4_holds_10 : decode cX4_holds 10 = .ok (.aload_n 0, 1) := by decide +kernel
theorem dX4_holds_11 : decode cX4_holds 11 = .ok (.iload_n 1, 1) := by decide +kernel
theorem dX4_holds_12 : decode cX4_holds 12 = .ok (.iload_n 2, 1) := by decide +kernel
theorem dX4_holds_13 : decode cX4_holds 13 = .ok (.invokevirtual 167, 3) := by decide +kernel
theorem dX4_holds_16 : decode cX4_holds 16 = .ok (.ifCond .eq 24, 3) := by decide +kernel
theorem dX4_holds_19 : decode cX4_holds 19 = .ok (.aload_n 0, 1) := by decide +kernel
theorem dX4_holds_20 : decode cX4_holds 20 = .ok (.iload_n 1, 1) := by decide +kernel
theorem dX4_holds_21 : decode cX4_holds 21 = .ok (.iload_n 2, 1) := by decide +kernel
theorem dX4_holds_22 : decode cX4_holds 22 = .ok (.invokevirtual 170, 3) := by decide +kernel
theorem dX4_holds_25 : decode cX4_holds 25 = .ok (.ifCond .eq 15, 3) := by decide +kernel
theorem dX4_holds_28 : decode cX4_holds 28 = .ok (.aload_n 0, 1) := by decide +kernel
theorem dX4_holds_29 : decode cX4_holds 29 = .ok (.iload_n 1, 1) := by decide +kernel
theorem dX4_holds_30 : decode cX4_holds 30 = .ok (.invokevirtual 173, 3) := by decide +kernel
theorem dX4_holds_33 : decode cX4_holds 33 = .ok (.ifCond .eq 7, 3) := by decide +kernel
theorem dX4_holds_36 : decode cX4_holds 36 = .ok (.iconst 1, 1) := by decide +kernel
theorem dX4_holds_37 : decode cX4_holds 37 = .ok (.goto 4, 3) := by decide +kernel
theorem dX4_holds_40 : decode cX4_holds 40 = .ok (.iconst 0, 1) := by decide +kernel
theorem dX4_holds_41 : decode cX4_holds 41 = .ok (.ireturn, 1) := by decide +kernel
theorem dX4_allSigns_0 : decode cX4_allSigns 0 = .ok (.iconst 0, 1) := by decide +kernel
theorem dX4_allSigns_1 : decode cX4_allSigns 1 = .ok (.istore_n 1, 1) := by decide +kernel
theorem dX4_allSigns_2 : decode cX4_allSigns 2 = .ok (.iconst 0, 1) := by decide +kernel
theorem dX4_allSigns_3 : decode cX4_allSigns 3 = .ok (.istore_n 2, 1) := by decide +kernel
theorem dX4_allSigns_4 : decode cX4_allSigns 4 = .ok (.iload_n 2, 1) := by decide +kernel
theorem dX4_allSigns_5 : decode cX4_allSigns 5 = .ok (.bipush 8, 2) := by decide +kernel
theorem dX4_allSigns_7 : decode cX4_allSigns 7 = .ok (.if_icmp .ge 18, 3) := by decide +kernel
theorem dX4_allSigns_10 : decode cX4_allSigns 10 = .ok (.iload_n 1, 1) := by decide +kernel
theorem dX4_allSigns_11 : decode cX4_allSigns 11 = .ok (.aload_n 0, 1) := by decide +kernel
theorem dX4_allSigns_12 : decode cX4_allSigns 12 = .ok (.getfield 13, 3) := by decide +kernel
theorem dX4_allSigns_15 : decode cX4_allSigns 15 = .ok (.iload_n 2, 1) := by decide +kernel
theorem dX4_allSigns_16 : decode cX4_allSigns 16 = .ok (.iaload, 1) := by decide +kernel
theorem dX4_allSigns_17 : decode cX4_allSigns 17 = .ok (.iadd, 1) := by decide +kernel
theorem dX4_allSigns_18 : decode cX4_allSigns 18 = .ok (.istore_n 1, 1) := by decide +kernel
theorem dX4_allSigns_19 : decode cX4_allSigns 19 = .ok (.iinc 2 1, 3) := by decide +kernel
theorem dX4_allSigns_22 : decode cX4_allSigns 22 = .ok (.goto (-18), 3) := by decide +kernel
theorem dX4_allSigns_25 : decode cX4_allSigns 25 = .ok (.iload_n 1, 1) := by decide +kernel
theorem dX4_allSigns_26 : decode cX4_allSigns 26 = .ok (.ireturn, 1) := by decide +kernel
theorem dX4_moves_0 : decode cX4_moves 0 = .ok (.iconst 0, 1) := by decide +kernel
theorem dX4_moves_1 : decode cX4_moves 1 = .ok (.istore 5, 2) := by decide +kernel
theorem dX4_moves_3 : decode cX4_moves 3 = .ok (.iload 5, 2) := by decide +kernel
theorem dX4_moves_5 : decode cX4_moves 5 = .ok (.iload 4, 2) := by decide +kernel
theorem dX4_moves_7 : decode cX4_moves 7 = .ok (.if_icmp .ge 21, 3) := by decide +kernel
theorem dX4_moves_10 : decode cX4_moves 10 = .ok (.aload_n 2, 1) := by decide +kernel
theorem dX4_moves_11 : decode cX4_moves 11 = .ok (.iload_n 3, 1) := by decide +kernel
theorem dX4_moves_12 : decode cX4_moves 12 = .ok (.iload 5, 2) := by decide +kernel
theorem dX4_moves_14 : decode cX4_moves 14 = .ok (.iadd, 1) := by decide +kernel
theorem dX4_moves_15 : decode cX4_moves 15 = .ok (.aload_n 0, 1) := by decide +kernel
theorem dX4_moves_16 : decode cX4_moves 16 = .ok (.iload_n 1, 1) := by decide +kernel
theorem dX4_moves_17 : decode cX4_moves 17 = .ok (.iload 5, 2) := by decide +kernel
theorem dX4_moves_19 : decode cX4_moves 19 = .ok (.iadd, 1) := by decide +kernel
theorem dX4_moves_20 : decode cX4_moves 20 = .ok (.iaload, 1) := by decide +kernel
theorem dX4_moves_21 : decode cX4_moves 21 = .ok (.iastore, 1) := by decide +kernel
theorem dX4_moves_22 : decode cX4_moves 22 = .ok (.iinc 5 1, 3) := by decide +kernel
theorem dX4_moves_25 : decode cX4_moves 25 = .ok (.goto (-22), 3) := by decide +kernel
theorem dX4_moves_28 : decode cX4_moves 28 = .ok (.return_, 1) := by decide +kernel
theorem dX4_keep_0 : decode cX4_keep 0 = .ok (.iload_n 1, 1) := by decide +kernel
theorem dX4_keep_1 : decode cX4_keep 1 = .ok (.iconst 1, 1) := by decide +kernel
theorem dX4_keep_2 : decode cX4_keep 2 = .ok (.iand, 1) := by decide +kernel
theorem dX4_keep_3 : decode cX4_keep 3 = .ok (.istore_n 2, 1) := by decide +kernel
theorem dX4_keep_4 : decode cX4_keep 4 = .ok (.aload_n 0, 1) := by decide +kernel
theorem dX4_keep_5 : decode cX4_keep 5 = .ok (.getfield 7, 3) := by decide +kernel
theorem dX4_keep_8 : decode cX4_keep 8 = .ok (.iconst 0, 1) := by decide +kernel
theorem dX4_keep_9 : decode cX4_keep 9 = .ok (.aload_n 0, 1) := by decide +kernel
theorem dX4_keep_10 : decode cX4_keep 10 = .ok (.getfield 25, 3) := by decide +kernel
theorem dX4_keep_13 : decode cX4_keep 13 = .ok (.sipush 2400, 3) := by decide +kernel
theorem dX4_keep_16 : decode cX4_keep 16 = .ok (.iload_n 2, 1) := by decide +kernel
theorem dX4_keep_17 : decode cX4_keep 17 = .ok (.imul, 1) := by decide +kernel
theorem dX4_keep_18 : decode cX4_keep 18 = .ok (.sipush 2400, 3) := by decide +kernel
theorem dX4_keep_21 : decode cX4_keep 21 = .ok (.invokestatic 176, 3) := by decide +kernel
theorem dX4_keep_24 : decode cX4_keep 24 = .ok (.aload_n 0, 1) := by decide +kernel
theorem dX4_keep_25 : decode cX4_keep 25 = .ok (.getfield 13, 3) := by decide +kernel
theorem dX4_keep_28 : decode cX4_keep 28 = .ok (.iconst 0, 1) := by decide +kernel
theorem dX4_keep_29 : decode cX4_keep 29 = .ok (.aload_n 0, 1) := by decide +kernel
theorem dX4_keep_30 : decode cX4_keep 30 = .ok (.getfield 28, 3) := by decide +kernel
theorem dX4_keep_33 : decode cX4_keep 33 = .ok (.bipush 8, 2) := by decide +kernel
theorem dX4_keep_35 : decode cX4_keep 35 = .ok (.iload_n 2, 1) := by decide +kernel
theorem dX4_keep_36 : decode cX4_keep 36 = .ok (.imul, 1) := by decide +kernel
theorem dX4_keep_37 : decode cX4_keep 37 = .ok (.bipush 8, 2) := by decide +kernel
theorem dX4_keep_39 : decode cX4_keep 39 = .ok (.invokestatic 176, 3) := by decide +kernel
theorem dX4_keep_42 : decode cX4_keep 42 = .ok (.aload_n 0, 1) := by decide +kernel
theorem dX4_keep_43 : decode cX4_keep 43 = .ok (.getfield 31, 3) := by decide +kernel
theorem dX4_keep_46 : decode cX4_keep 46 = .ok (.iload_n 2, 1) := by decide +kernel
theorem dX4_keep_47 : decode cX4_keep 47 = .ok (.aload_n 0, 1) := by decide +kernel
theorem dX4_keep_48 : decode cX4_keep 48 = .ok (.getfield 138, 3) := by decide +kernel
theorem dX4_keep_51 : decode cX4_keep 51 = .ok (.iastore, 1) := by decide +kernel
theorem dX4_keep_52 : decode cX4_keep 52 = .ok (.aload_n 0, 1) := by decide +kernel
theorem dX4_keep_53 : decode cX4_keep 53 = .ok (.getfield 16, 3) := by decide +kernel
theorem dX4_keep_56 : decode cX4_keep 56 = .ok (.iconst 0, 1) := by decide +kernel
theorem dX4_keep_57 : decode cX4_keep 57 = .ok (.aload_n 0, 1) := by decide +kernel
theorem dX4_keep_58 : decode cX4_keep 58 = .ok (.getfield 34, 3) := by decide +kernel
theorem dX4_keep_61 : decode cX4_keep 61 = .ok (.sipush 300, 3) := by decide +kernel
theorem dX4_keep_64 : decode cX4_keep 64 = .ok (.iload_n 2, 1) := by decide +kernel
theorem dX4_keep_65 : decode cX4_keep 65 = .ok (.imul, 1) := by decide +kernel
theorem dX4_keep_66 : decode cX4_keep 66 = .ok (.sipush 300, 3) := by decide +kernel
theorem dX4_keep_69 : decode cX4_keep 69 = .ok (.invokestatic 176, 3) := by decide +kernel
theorem dX4_keep_72 : decode cX4_keep 72 = .ok (.aload_n 0, 1) := by decide +kernel
theorem dX4_keep_73 : decode cX4_keep 73 = .ok (.getfield 19, 3) := by decide +kernel
theorem dX4_keep_76 : decode cX4_keep 76 = .ok (.iconst 0, 1) := by decide +kernel
theorem dX4_keep_77 : decode cX4_keep 77 = .ok (.aload_n 0, 1) := by decide +kernel
theorem dX4_keep_78 : decode cX4_keep 78 = .ok (.getfield 37, 3) := by decide +kernel
theorem dX4_keep_81 : decode cX4_keep 81 = .ok (.sipush 301, 3) := by decide +kernel
theorem dX4_keep_84 : decode cX4_keep 84 = .ok (.iload_n 2, 1) := by decide +kernel
theorem dX4_keep_85 : decode cX4_keep 85 = .ok (.imul, 1) := by decide +kernel
theorem dX4_keep_86 : decode cX4_keep 86 = .ok (.sipush 301, 3) := by decide +kernel
theorem dX4_keep_89 : decode cX4_keep 89 = .ok (.invokestatic 176, 3) := by decide +kernel
theorem dX4_keep_92 : decode cX4_keep 92 = .ok (.aload_n 0, 1) := by decide +kernel
theorem dX4_keep_93 : decode cX4_keep 93 = .ok (.getfield 22, 3) := by decide +kernel
theorem dX4_keep_96 : decode cX4_keep 96 = .ok (.iconst 0, 1) := by decide +kernel
theorem dX4_keep_97 : decode cX4_keep 97 = .ok (.aload_n 0, 1) := by decide +kernel
theorem dX4_keep_98 : decode cX4_keep 98 = .ok (.getfield 40, 3) := by decide +kernel
theorem dX4_keep_101 : decode cX4_keep 101 = .ok (.sipush 301, 3) := by decide +kernel
theorem dX4_keep_104 : decode cX4_keep 104 = .ok (.iload_n 2, 1) := by decide +kernel
theorem dX4_keep_105 : decode cX4_keep 105 = .ok (.imul, 1) := by decide +kernel
theorem dX4_keep_106 : decode cX4_keep 106 = .ok (.sipush 301, 3) := by decide +kernel
theorem dX4_keep_109 : decode cX4_keep 109 = .ok (.invokestatic 176, 3) := by decide +kernel
theorem dX4_keep_112 : decode cX4_keep 112 = .ok (.aload_n 0, 1) := by decide +kernel
theorem dX4_keep_113 : decode cX4_keep 113 = .ok (.invokevirtual 180, 3) := by decide +kernel
theorem dX4_keep_116 : decode cX4_keep 116 = .ok (.ireturn, 1) := by decide +kernel
theorem dX4_back_0 : decode cX4_back 0 = .ok (.iload_n 1, 1) := by decide +kernel
theorem dX4_back_1 : decode cX4_back 1 = .ok (.iconst 1, 1) := by decide +kernel
theorem dX4_back_2 : decode cX4_back 2 = .ok (.iand, 1) := by decide +kernel
theorem dX4_back_3 : decode cX4_back 3 = .ok (.istore_n 2, 1) := by decide +kernel
theorem dX4_back_4 : decode cX4_back 4 = .ok (.aload_n 0, 1) := by decide +kernel
theorem dX4_back_5 : decode cX4_back 5 = .ok (.getfield 25, 3) := by decide +kernel
theorem dX4_back_8 : decode cX4_back 8 = .ok (.sipush 2400, 3) := by decide +kernel
theorem dX4_back_11 : decode cX4_back 11 = .ok (.iload_n 2, 1) := by decide +kernel
theorem dX4_back_12 : decode cX4_back 12 = .ok (.imul, 1) := by decide +kernel
theorem dX4_back_13 : decode cX4_back 13 = .ok (.aload_n 0, 1) := by decide +kernel
theorem dX4_back_14 : decode cX4_back 14 = .ok (.getfield 7, 3) := by decide +kernel
theorem dX4_back_17 : decode cX4_back 17 = .ok (.iconst 0, 1) := by decide +kernel
theorem dX4_back_18 : decode cX4_back 18 = .ok (.sipush 2400, 3) := by decide +kernel
theorem dX4_back_21 : decode cX4_back 21 = .ok (.invokestatic 176, 3) := by decide +kernel
theorem dX4_back_24 : decode cX4_back 24 = .ok (.aload_n 0, 1) := by decide +kernel
theorem dX4_back_25 : decode cX4_back 25 = .ok (.getfield 28, 3) := by decide +kernel
theorem dX4_back_28 : decode cX4_back 28 = .ok (.bipush 8, 2) := by decide +kernel
theorem dX4_back_30 : decode cX4_back 30 = .ok (.iload_n 2, 1) := by decide +kernel
theorem dX4_back_31 : decode cX4_back 31 = .ok (.imul, 1) := by decide +kernel
theorem dX4_back_32 : decode cX4_back 32 = .ok (.aload_n 0, 1) := by decide +kernel
theorem dX4_back_33 : decode cX4_back 33 = .ok (.getfield 13, 3) := by decide +kernel
theorem dX4_back_36 : decode cX4_back 36 = .ok (.iconst 0, 1) := by decide +kernel
theorem dX4_back_37 : decode cX4_back 37 = .ok (.bipush 8, 2) := by decide +kernel
theorem dX4_back_39 : decode cX4_back 39 = .ok (.invokestatic 176, 3) := by decide +kernel
theorem dX4_back_42 : decode cX4_back 42 = .ok (.aload_n 0, 1) := by decide +kernel
theorem dX4_back_43 : decode cX4_back 43 = .ok (.aload_n 0, 1) := by decide +kernel
theorem dX4_back_44 : decode cX4_back 44 = .ok (.getfield 31, 3) := by decide +kernel
theorem dX4_back_47 : decode cX4_back 47 = .ok (.iload_n 2, 1) := by decide +kernel
theorem dX4_back_48 : decode cX4_back 48 = .ok (.iaload, 1) := by decide +kernel
theorem dX4_back_49 : decode cX4_back 49 = .ok (.putfield 138, 3) := by decide +kernel
theorem dX4_back_52 : decode cX4_back 52 = .ok (.aload_n 0, 1) := by decide +kernel
theorem dX4_back_53 : decode cX4_back 53 = .ok (.getfield 34, 3) := by decide +kernel
theorem dX4_back_56 : decode cX4_back 56 = .ok (.sipush 300, 3) := by decide +kernel
theorem dX4_back_59 : decode cX4_back 59 = .ok (.iload_n 2, 1) := by decide +kernel
theorem dX4_back_60 : decode cX4_back 60 = .ok (.imul, 1) := by decide +kernel
theorem dX4_back_61 : decode cX4_back 61 = .ok (.aload_n 0, 1) := by decide +kernel
theorem dX4_back_62 : decode cX4_back 62 = .ok (.getfield 16, 3) := by decide +kernel
theorem dX4_back_65 : decode cX4_back 65 = .ok (.iconst 0, 1) := by decide +kernel
theorem dX4_back_66 : decode cX4_back 66 = .ok (.sipush 300, 3) := by decide +kernel
theorem dX4_back_69 : decode cX4_back 69 = .ok (.invokestatic 176, 3) := by decide +kernel
theorem dX4_back_72 : decode cX4_back 72 = .ok (.aload_n 0, 1) := by decide +kernel
theorem dX4_back_73 : decode cX4_back 73 = .ok (.getfield 37, 3) := by decide +kernel
theorem dX4_back_76 : decode cX4_back 76 = .ok (.sipush 301, 3) := by decide +kernel
theorem dX4_back_79 : decode cX4_back 79 = .ok (.iload_n 2, 1) := by decide +kernel
theorem dX4_back_80 : decode cX4_back 80 = .ok (.imul, 1) := by decide +kernel
theorem dX4_back_81 : decode cX4_back 81 = .ok (.aload_n 0, 1) := by decide +kernel
theorem dX4_back_82 : decode cX4_back 82 = .ok (.getfield 19, 3) := by decide +kernel
theorem dX4_back_85 : decode cX4_back 85 = .ok (.iconst 0, 1) := by decide +kernel
theorem dX4_back_86 : decode cX4_back 86 = .ok (.sipush 301, 3) := by decide +kernel
theorem dX4_back_89 : decode cX4_back 89 = .ok (.invokestatic 176, 3) := by decide +kernel
theorem dX4_back_92 : decode cX4_back 92 = .ok (.aload_n 0, 1) := by decide +kernel
theorem dX4_back_93 : decode cX4_back 93 = .ok (.getfield 40, 3) := by decide +kernel
theorem dX4_back_96 : decode cX4_back 96 = .ok (.sipush 301, 3) := by decide +kernel
theorem dX4_back_99 : decode cX4_back 99 = .ok (.iload_n 2, 1) := by decide +kernel
theorem dX4_back_100 : decode cX4_back 100 = .ok (.imul, 1) := by decide +kernel
theorem dX4_back_101 : decode cX4_back 101 = .ok (.aload_n 0, 1) := by decide +kernel
theorem dX4_back_102 : decode cX4_back 102 = .ok (.getfield 22, 3) := by decide +kernel
theorem dX4_back_105 : decode cX4_back 105 = .ok (.iconst 0, 1) := by decide +kernel
theorem dX4_back_106 : decode cX4_back 106 = .ok (.sipush 301, 3) := by decide +kernel
theorem dX4_back_109 : decode cX4_back 109 = .ok (.invokestatic 176, 3) := by decide +kernel
theorem dX4_back_112 : decode cX4_back 112 = .ok (.aload_n 0, 1) := by decide +kernel
theorem dX4_back_113 : decode cX4_back 113 = .ok (.invokevirtual 180, 3) := by decide +kernel
theorem dX4_back_116 : decode cX4_back 116 = .ok (.ireturn, 1) := by decide +kernel
theorem dX4_digest_0 : decode cX4_digest 0 = .ok (.ldc2_w 184, 3) := by decide +kernel
theorem dX4_digest_3 : decode cX4_digest 3 = .ok (.lstore_n 1, 1) := by decide +kernel
theorem dX4_digest_4 : decode cX4_digest 4 = .ok (.iconst 0, 1) := by decide +kernel
theorem dX4_digest_5 : decode cX4_digest 5 = .ok (.istore_n 3, 1) := by decide +kernel
theorem dX4_digest_6 : decode cX4_digest 6 = .ok (.iload_n 3, 1) := by decide +kernel
theorem dX4_digest_7 : decode cX4_digest 7 = .ok (.bipush 8, 2) := by decide +kernel
theorem dX4_digest_9 : decode cX4_digest 9 = .ok (.if_icmp .ge 64, 3) := by decide +kernel
theorem dX4_digest_12 : decode cX4_digest 12 = .ok (.ldc2_w 186, 3) := by decide +kernel
theorem dX4_digest_15 : decode cX4_digest 15 = .ok (.lload_n 1, 1) := by decide +kernel
theorem dX4_digest_16 : decode cX4_digest 16 = .ok (.lmul, 1) := by decide +kernel
theorem dX4_digest_17 : decode cX4_digest 17 = .ok (.aload_n 0, 1) := by decide +kernel
theorem dX4_digest_18 : decode cX4_digest 18 = .ok (.getfield 13, 3) := by decide +kernel
theorem dX4_digest_21 : decode cX4_digest 21 = .ok (.iload_n 3, 1) := by decide +kernel
theorem dX4_digest_22 : decode cX4_digest 22 = .ok (.iaload, 1) := by decide +kernel
theorem dX4_digest_23 : decode cX4_digest 23 = .ok (.i2l, 1) := by decide +kernel
theorem dX4_digest_24 : decode cX4_digest 24 = .ok (.ladd, 1) := by decide +kernel
theorem dX4_digest_25 : decode cX4_digest 25 = .ok (.lstore_n 1, 1) := by decide +kernel
theorem dX4_digest_26 : decode cX4_digest 26 = .ok (.iconst 0, 1) := by decide +kernel
theorem dX4_digest_27 : decode cX4_digest 27 = .ok (.istore 4, 2) := by decide +kernel
theorem dX4_digest_29 : decode cX4_digest 29 = .ok (.iload 4, 2) := by decide +kernel
theorem dX4_digest_31 : decode cX4_digest 31 = .ok (.aload_n 0, 1) := by decide +kernel
theorem dX4_digest_32 : decode cX4_digest 32 = .ok (.getfield 13, 3) := by decide +kernel
theorem dX4_digest_35 : decode cX4_digest 35 = .ok (.iload_n 3, 1) := by decide +kernel
theorem dX4_digest_36 : decode cX4_digest 36 = .ok (.iaload, 1) := by decide +kernel
theorem dX4_digest_37 : decode cX4_digest 37 = .ok (.if_icmp .ge 30, 3) := by decide +kernel
theorem dX4_digest_40 : decode cX4_digest 40 = .ok (.ldc2_w 186, 3) := by decide +kernel
theorem dX4_digest_43 : decode cX4_digest 43 = .ok (.lload_n 1, 1) := by decide +kernel
theorem dX4_digest_44 : decode cX4_digest 44 = .ok (.lmul, 1) := by decide +kernel
theorem dX4_digest_45 : decode cX4_digest 45 = .ok (.aload_n 0, 1) := by decide +kernel
theorem dX4_digest_46 : decode cX4_digest 46 = .ok (.getfield 7, 3) := by decide +kernel
theorem dX4_digest_49 : decode cX4_digest 49 = .ok (.sipush 300, 3) := by decide +kernel
theorem dX4_digest_52 : decode cX4_digest 52 = .ok (.iload_n 3, 1) := by decide +kernel
theorem dX4_digest_53 : decode cX4_digest 53 = .ok (.imul, 1) := by decide +kernel
theorem dX4_digest_54 : decode cX4_digest 54 = .ok (.iload 4, 2) := by decide +kernel
theorem dX4_digest_56 : decode cX4_digest 56 = .ok (.iadd, 1) := by decide +kernel
theorem dX4_digest_57 : decode cX4_digest 57 = .ok (.iaload, 1) := by decide +kernel
theorem dX4_digest_58 : decode cX4_digest 58 = .ok (.i2l, 1) := by decide +kernel
theorem dX4_digest_59 : decode cX4_digest 59 = .ok (.ladd, 1) := by decide +kernel
theorem dX4_digest_60 : decode cX4_digest 60 = .ok (.lstore_n 1, 1) := by decide +kernel
theorem dX4_digest_61 : decode cX4_digest 61 = .ok (.iinc 4 1, 3) := by decide +kernel
theorem dX4_digest_64 : decode cX4_digest 64 = .ok (.goto (-35), 3) := by decide +kernel
theorem dX4_digest_67 : decode cX4_digest 67 = .ok (.iinc 3 1, 3) := by decide +kernel
theorem dX4_digest_70 : decode cX4_digest 70 = .ok (.goto (-64), 3) := by decide +kernel
theorem dX4_digest_73 : decode cX4_digest 73 = .ok (.iconst 0, 1) := by decide +kernel
theorem dX4_digest_74 : decode cX4_digest 74 = .ok (.istore_n 3, 1) := by decide +kernel
theorem dX4_digest_75 : decode cX4_digest 75 = .ok (.iload_n 3, 1) := by decide +kernel
theorem dX4_digest_76 : decode cX4_digest 76 = .ok (.aload_n 0, 1) := by decide +kernel
theorem dX4_digest_77 : decode cX4_digest 77 = .ok (.getfield 138, 3) := by decide +kernel
theorem dX4_digest_80 : decode cX4_digest 80 = .ok (.if_icmp .ge 65, 3) := by decide +kernel
theorem dX4_digest_83 : decode cX4_digest 83 = .ok (.ldc2_w 186, 3) := by decide +kernel
theorem dX4_digest_86 : decode cX4_digest 86 = .ok (.lload_n 1, 1) := by decide +kernel
theorem dX4_digest_87 : decode cX4_digest 87 = .ok (.lmul, 1) := by decide +kernel
theorem dX4_digest_88 : decode cX4_digest 88 = .ok (.aload_n 0, 1) := by decide +kernel
theorem dX4_digest_89 : decode cX4_digest 89 = .ok (.getfield 22, 3) := by decide +kernel
theorem dX4_digest_92 : decode cX4_digest 92 = .ok (.iload_n 3, 1) := by decide +kernel
theorem dX4_digest_93 : decode cX4_digest 93 = .ok (.iaload, 1) := by decide +kernel
theorem dX4_digest_94 : decode cX4_digest 94 = .ok (.i2l, 1) := by decide +kernel
theorem dX4_digest_95 : decode cX4_digest 95 = .ok (.ladd, 1) := by decide +kernel
theorem dX4_digest_96 : decode cX4_digest 96 = .ok (.lstore_n 1, 1) := by decide +kernel
theorem dX4_digest_97 : decode cX4_digest 97 = .ok (.iconst 0, 1) := by decide +kernel
theorem dX4_digest_98 : decode cX4_digest 98 = .ok (.istore 4, 2) := by decide +kernel
theorem dX4_digest_100 : decode cX4_digest 100 = .ok (.iload 4, 2) := by decide +kernel
theorem dX4_digest_102 : decode cX4_digest 102 = .ok (.aload_n 0, 1) := by decide +kernel
theorem dX4_digest_103 : decode cX4_digest 103 = .ok (.getfield 22, 3) := by decide +kernel
theorem dX4_digest_106 : decode cX4_digest 106 = .ok (.iload_n 3, 1) := by decide +kernel
theorem dX4_digest_107 : decode cX4_digest 107 = .ok (.iaload, 1) := by decide +kernel
theorem dX4_digest_108 : decode cX4_digest 108 = .ok (.if_icmp .ge 31, 3) := by decide +kernel
theorem dX4_digest_111 : decode cX4_digest 111 = .ok (.ldc2_w 186, 3) := by decide +kernel
theorem dX4_digest_114 : decode cX4_digest 114 = .ok (.lload_n 1, 1) := by decide +kernel
theorem dX4_digest_115 : decode cX4_digest 115 = .ok (.lmul, 1) := by decide +kernel
theorem dX4_digest_116 : decode cX4_digest 116 = .ok (.aload_n 0, 1) := by decide +kernel
theorem dX4_digest_117 : decode cX4_digest 117 = .ok (.getfield 16, 3) := by decide +kernel
theorem dX4_digest_120 : decode cX4_digest 120 = .ok (.aload_n 0, 1) := by decide +kernel
theorem dX4_digest_121 : decode cX4_digest 121 = .ok (.getfield 19, 3) := by decide +kernel
theorem dX4_digest_124 : decode cX4_digest 124 = .ok (.iload_n 3, 1) := by decide +kernel
theorem dX4_digest_125 : decode cX4_digest 125 = .ok (.iaload, 1) := by decide +kernel
theorem dX4_digest_126 : decode cX4_digest 126 = .ok (.iload 4, 2) := by decide +kernel
theorem dX4_digest_128 : decode cX4_digest 128 = .ok (.iadd, 1) := by decide +kernel
theorem dX4_digest_129 : decode cX4_digest 129 = .ok (.iaload, 1) := by decide +kernel
theorem dX4_digest_130 : decode cX4_digest 130 = .ok (.i2l, 1) := by decide +kernel
theorem dX4_digest_131 : decode cX4_digest 131 = .ok (.ladd, 1) := by decide +kernel
theorem dX4_digest_132 : decode cX4_digest 132 = .ok (.lstore_n 1, 1) := by decide +kernel
theorem dX4_digest_133 : decode cX4_digest 133 = .ok (.iinc 4 1, 3) := by decide +kernel
theorem dX4_digest_136 : decode cX4_digest 136 = .ok (.goto (-36), 3) := by decide +kernel
theorem dX4_digest_139 : decode cX4_digest 139 = .ok (.iinc 3 1, 3) := by decide +kernel
theorem dX4_digest_142 : decode cX4_digest 142 = .ok (.goto (-67), 3) := by decide +kernel
theorem dX4_digest_145 : decode cX4_digest 145 = .ok (.lload_n 1, 1) := by decide +kernel
theorem dX4_digest_146 : decode cX4_digest 146 = .ok (.lreturn, 1) := by decide +kernel
theorem dJ11_isValidCodePoint_9a6ad_0 : decode cJ11_isValidCodePoint_9a6ad 0 = .ok (.iload_n 0, 1) := by decide +kernel
theorem dJ11_isValidCodePoint_9a6ad_1 : decode cJ11_isValidCodePoint_9a6ad 1 = .ok (.bipush 16, 2) := by decide +kernel
theorem dJ11_isValidCodePoint_9a6ad_3 : decode cJ11_isValidCodePoint_9a6ad 3 = .ok (.iushr, 1) := by decide +kernel
theorem dJ11_isValidCodePoint_9a6ad_4 : decode cJ11_isValidCodePoint_9a6ad 4 = .ok (.istore_n 1, 1) := by decide +kernel
theorem dJ11_isValidCodePoint_9a6ad_5 : decode cJ11_isValidCodePoint_9a6ad 5 = .ok (.iload_n 1, 1) := by decide +kernel
theorem dJ11_isValidCodePoint_9a6ad_6 : decode cJ11_isValidCodePoint_9a6ad 6 = .ok (.bipush 17, 2) := by decide +kernel
theorem dJ11_isValidCodePoint_9a6ad_8 : decode cJ11_isValidCodePoint_9a6ad 8 = .ok (.if_icmp .ge 7, 3) := by decide +kernel
theorem dJ11_isValidCodePoint_9a6ad_11 : decode cJ11_isValidCodePoint_9a6ad 11 = .ok (.iconst 1, 1) := by decide +kernel
theorem dJ11_isValidCodePoint_9a6ad_12 : decode cJ11_isValidCodePoint_9a6ad 12 = .ok (.goto 4, 3) := by decide +kernel
theorem dJ11_isValidCodePoint_9a6ad_15 : decode cJ11_isValidCodePoint_9a6ad 15 = .ok (.iconst 0, 1) := by decide +kernel
theorem dJ11_isValidCodePoint_9a6ad_16 : decode cJ11_isValidCodePoint_9a6ad 16 = .ok (.ireturn, 1) := by decide +kernel
theorem dJ11_highSurrogate_5068e_0 : decode cJ11_highSurrogate_5068e 0 = .ok (.iload_n 0, 1) := by decide +kernel
theorem dJ11_highSurrogate_5068e_1 : decode cJ11_highSurrogate_5068e 1 = .ok (.bipush 10, 2) := by decide +kernel
theorem dJ11_highSurrogate_5068e_3 : decode cJ11_highSurrogate_5068e 3 = .ok (.iushr, 1) := by decide +kernel
theorem dJ11_highSurrogate_5068e_4 : decode cJ11_highSurrogate_5068e 4 = .ok (.ldc 110, 2) := by decide +kernel
theorem dJ11_highSurrogate_5068e_6 : decode cJ11_highSurrogate_5068e 6 = .ok (.iadd, 1) := by decide +kernel
theorem dJ11_highSurrogate_5068e_7 : decode cJ11_highSurrogate_5068e 7 = .ok (.i2c, 1) := by decide +kernel
theorem dJ11_highSurrogate_5068e_8 : decode cJ11_highSurrogate_5068e 8 = .ok (.ireturn, 1) := by decide +kernel
theorem dJ11_lowSurrogate_5068e_0 : decode cJ11_lowSurrogate_5068e 0 = .ok (.iload_n 0, 1) := by decide +kernel
theorem dJ11_lowSurrogate_5068e_1 : decode cJ11_lowSurrogate_5068e 1 = .ok (.sipush 1023, 3) := by decide +kernel
theorem dJ11_lowSurrogate_5068e_4 : decode cJ11_lowSurrogate_5068e 4 = .ok (.iand, 1) := by decide +kernel
theorem dJ11_lowSurrogate_5068e_5 : decode cJ11_lowSurrogate_5068e 5 = .ok (.ldc 76, 2) := by decide +kernel
theorem dJ11_lowSurrogate_5068e_7 : decode cJ11_lowSurrogate_5068e 7 = .ok (.iadd, 1) := by decide +kernel
theorem dJ11_lowSurrogate_5068e_8 : decode cJ11_lowSurrogate_5068e 8 = .ok (.i2c, 1) := by decide +kernel
theorem dJ11_lowSurrogate_5068e_9 : decode cJ11_lowSurrogate_5068e 9 = .ok (.ireturn, 1) := by decide +kernel
theorem dJ6_compare_7cf53_0 : decode cJ6_compare_7cf53 0 = .ok (.iload_n 0, 1) := by decide +kernel
theorem dJ6_compare_7cf53_1 : decode cJ6_compare_7cf53 1 = .ok (.iload_n 1, 1) := by decide +kernel
theorem dJ6_compare_7cf53_2 : decode cJ6_compare_7cf53 2 = .ok (.if_icmp .ge 7, 3) := by decide +kernel
theorem dJ6_compare_7cf53_5 : decode cJ6_compare_7cf53 5 = .ok (.iconst (-1), 1) := by decide +kernel
theorem dJ6_compare_7cf53_6 : decode cJ6_compare_7cf53 6 = .ok (.goto 13, 3) := by decide +kernel
theorem dJ6_compare_7cf53_9 : decode cJ6_compare_7cf53 9 = .ok (.iload_n 0, 1) := by decide +kernel
theorem dJ6_compare_7cf53_10 : decode cJ6_compare_7cf53 10 = .ok (.iload_n 1, 1) := by decide +kernel
theorem dJ6_compare_7cf53_11 : decode cJ6_compare_7cf53 11 = .ok (.if_icmp .ne 7, 3) := by decide +kernel
theorem dJ6_compare_7cf53_14 : decode cJ6_compare_7cf53 14 = .ok (.iconst 0, 1) := by decide +kernel
theorem dJ6_compare_7cf53_15 : decode cJ6_compare_7cf53 15 = .ok (.goto 4, 3) := by decide +kernel
theorem dJ6_compare_7cf53_18 : decode cJ6_compare_7cf53 18 = .ok (.iconst 1, 1) := by decide +kernel
theorem dJ6_compare_7cf53_19 : decode cJ6_compare_7cf53 19 = .ok (.ireturn, 1) := by decide +kernel
theorem dJ9_floorMod_7cf53_0 : decode cJ9_floorMod_7cf53 0 = .ok (.iload_n 0, 1) := by decide +kernel
theorem dJ9_floorMod_7cf53_1 : decode cJ9_floorMod_7cf53 1 = .ok (.iload_n 1, 1) := by decide +kernel
theorem dJ9_floorMod_7cf53_2 : decode cJ9_floorMod_7cf53 2 = .ok (.irem, 1) := by decide +kernel
theorem dJ9_floorMod_7cf53_3 : decode cJ9_floorMod_7cf53 3 = .ok (.istore_n 2, 1) := by decide +kernel
theorem dJ9_floorMod_7cf53_4 : decode cJ9_floorMod_7cf53 4 = .ok (.iload_n 0, 1) := by decide +kernel
theorem dJ9_floorMod_7cf53_5 : decode cJ9_floorMod_7cf53 5 = .ok (.iload_n 1, 1) := by decide +kernel
theorem dJ9_floorMod_7cf53_6 : decode cJ9_floorMod_7cf53 6 = .ok (.ixor, 1) := by decide +kernel
theorem dJ9_floorMod_7cf53_7 : decode cJ9_floorMod_7cf53 7 = .ok (.ifCond .ge 11, 3) := by decide +kernel
theorem dJ9_floorMod_7cf53_10 : decode cJ9_floorMod_7cf53 10 = .ok (.iload_n 2, 1) := by decide +kernel
theorem dJ9_floorMod_7cf53_11 : decode cJ9_floorMod_7cf53 11 = .ok (.ifCond .eq 7, 3) := by decide +kernel
theorem dJ9_floorMod_7cf53_14 : decode cJ9_floorMod_7cf53 14 = .ok (.iload_n 2, 1) := by decide +kernel
theorem dJ9_floorMod_7cf53_15 : decode cJ9_floorMod_7cf53 15 = .ok (.iload_n 1, 1) := by decide +kernel
theorem dJ9_floorMod_7cf53_16 : decode cJ9_floorMod_7cf53 16 = .ok (.iadd, 1) := by decide +kernel
theorem dJ9_floorMod_7cf53_17 : decode cJ9_floorMod_7cf53 17 = .ok (.ireturn, 1) := by decide +kernel
theorem dJ9_floorMod_7cf53_18 : decode cJ9_floorMod_7cf53 18 = .ok (.iload_n 2, 1) := by decide +kernel
theorem dJ9_floorMod_7cf53_19 : decode cJ9_floorMod_7cf53 19 = .ok (.ireturn, 1) := by decide +kernel
theorem dJ9_abs_067f4_0 : decode cJ9_abs_067f4 0 = .ok (.lload_n 0, 1) := by decide +kernel
theorem dJ9_abs_067f4_1 : decode cJ9_abs_067f4 1 = .ok (.lconst 0, 1) := by decide +kernel
theorem dJ9_abs_067f4_2 : decode cJ9_abs_067f4 2 = .ok (.lcmp, 1) := by decide +kernel
theorem dJ9_abs_067f4_3 : decode cJ9_abs_067f4 3 = .ok (.ifCond .ge 8, 3) := by decide +kernel
theorem dJ9_abs_067f4_6 : decode cJ9_abs_067f4 6 = .ok (.lload_n 0, 1) := by decide +kernel
theorem dJ9_abs_067f4_7 : decode cJ9_abs_067f4 7 = .ok (.lneg, 1) := by decide +kernel
theorem dJ9_abs_067f4_8 : decode cJ9_abs_067f4 8 = .ok (.goto 4, 3) := by decide +kernel
theorem dJ9_abs_067f4_11 : decode cJ9_abs_067f4 11 = .ok (.lload_n 0, 1) := by decide +kernel
theorem dJ9_abs_067f4_12 : decode cJ9_abs_067f4 12 = .ok (.lreturn, 1) := by decide +kernel
theorem dJ9_max_7cf53_0 : decode cJ9_max_7cf53 0 = .ok (.iload_n 0, 1) := by decide +kernel
theorem dJ9_max_7cf53_1 : decode cJ9_max_7cf53 1 = .ok (.iload_n 1, 1) := by decide +kernel
theorem dJ9_max_7cf53_2 : decode cJ9_max_7cf53 2 = .ok (.if_icmp .lt 7, 3) := by decide +kernel
theorem dJ9_max_7cf53_5 : decode cJ9_max_7cf53 5 = .ok (.iload_n 0, 1) := by decide +kernel
theorem dJ9_max_7cf53_6 : decode cJ9_max_7cf53 6 = .ok (.goto 4, 3) := by decide +kernel
theorem dJ9_max_7cf53_9 : decode cJ9_max_7cf53 9 = .ok (.iload_n 1, 1) := by decide +kernel
theorem dJ9_max_7cf53_10 : decode cJ9_max_7cf53 10 = .ok (.ireturn, 1) := by decide +kernel
theorem dJ9_min_7cf53_0 : decode cJ9_min_7cf53 0 = .ok (.iload_n 0, 1) := by decide +kernel
theorem dJ9_min_7cf53_1 : decode cJ9_min_7cf53 1 = .ok (.iload_n 1, 1) := by decide +kernel
theorem dJ9_min_7cf53_2 : decode cJ9_min_7cf53 2 = .ok (.if_icmp .gt 7, 3) := by decide +kernel
theorem dJ9_min_7cf53_5 : decode cJ9_min_7cf53 5 = .ok (.iload_n 0, 1) := by decide +kernel
theorem dJ9_min_7cf53_6 : decode cJ9_min_7cf53 6 = .ok (.goto 4, 3) := by decide +kernel
theorem dJ9_min_7cf53_9 : decode cJ9_min_7cf53 9 = .ok (.iload_n 1, 1) := by decide +kernel
theorem dJ9_min_7cf53_10 : decode cJ9_min_7cf53 10 = .ok (.ireturn, 1) := by decide +kernel
theorem dJ0_length_8abf5_0 : decode cJ0_length_8abf5 0 = .ok (.aload_n 0, 1) := by decide +kernel
theorem dJ0_length_8abf5_1 : decode cJ0_length_8abf5 1 = .ok (.getfield 9, 3) := by decide +kernel
theorem dJ0_length_8abf5_4 : decode cJ0_length_8abf5 4 = .ok (.arraylength, 1) := by decide +kernel
theorem dJ0_length_8abf5_5 : decode cJ0_length_8abf5 5 = .ok (.aload_n 0, 1) := by decide +kernel
theorem dJ0_length_8abf5_6 : decode cJ0_length_8abf5 6 = .ok (.invokevirtual 335, 3) := by decide +kernel
theorem dJ0_length_8abf5_9 : decode cJ0_length_8abf5 9 = .ok (.ishr, 1) := by decide +kernel
theorem dJ0_length_8abf5_10 : decode cJ0_length_8abf5 10 = .ok (.ireturn, 1) := by decide +kernel
theorem dJ0_indexOf_0f7a4_0 : decode cJ0_indexOf_0f7a4 0 = .ok (.aload_n 0, 1) := by decide +kernel
theorem dJ0_indexOf_0f7a4_1 : decode cJ0_indexOf_0f7a4 1 = .ok (.iload_n 1, 1) := by decide +kernel
theorem dJ0_indexOf_0f7a4_2 : decode cJ0_indexOf_0f7a4 2 = .ok (.iconst 0, 1) := by decide +kernel
theorem dJ0_indexOf_0f7a4_3 : decode cJ0_indexOf_0f7a4 3 = .ok (.invokevirtual 633, 3) := by decide +kernel
theorem dJ0_indexOf_0f7a4_6 : decode cJ0_indexOf_0f7a4 6 = .ok (.ireturn, 1) := by decide +kernel
theorem dJ0_indexOf_7cf53_0 : decode cJ0_indexOf_7cf53 0 = .ok (.aload_n 0, 1) := by decide +kernel
theorem dJ0_indexOf_7cf53_1 : decode cJ0_indexOf_7cf53 1 = .ok (.invokevirtual 492, 3) := by decide +kernel
theorem dJ0_indexOf_7cf53_4 : decode cJ0_indexOf_7cf53 4 = .ok (.ifCond .eq 19, 3) := by decide +kernel
theorem dJ0_indexOf_7cf53_7 : decode cJ0_indexOf_7cf53 7 = .ok (.aload_n 0, 1) := by decide +kernel
theorem dJ0_indexOf_7cf53_8 : decode cJ0_indexOf_7cf53 8 = .ok (.getfield 9, 3) := by decide +kernel
theorem dJ0_indexOf_7cf53_11 : decode cJ0_indexOf_7cf53 11 = .ok (.iload_n 1, 1) := by decide +kernel
theorem dJ0_indexOf_7cf53_12 : decode cJ0_indexOf_7cf53 12 = .ok (.iload_n 2, 1) := by decide +kernel
theorem dJ0_indexOf_7cf53_13 : decode cJ0_indexOf_7cf53 13 = .ok (.aload_n 0, 1) := by decide +kernel
theorem dJ0_indexOf_7cf53_14 : decode cJ0_indexOf_7cf53 14 = .ok (.invokevirtual 505, 3) := by decide +kernel
theorem dJ0_indexOf_7cf53_17 : decode cJ0_indexOf_7cf53 17 = .ok (.invokestatic 637, 3) := by decide +kernel
theorem dJ0_indexOf_7cf53_20 : decode cJ0_indexOf_7cf53 20 = .ok (.goto 16, 3) := by decide +kernel
theorem dJ0_indexOf_7cf53_23 : decode cJ0_indexOf_7cf53 23 = .ok (.aload_n 0, 1) := by decide +kernel
theorem dJ0_indexOf_7cf53_24 : decode cJ0_indexOf_7cf53 24 = .ok (.getfield 9, 3) := by decide +kernel
theorem dJ0_indexOf_7cf53_27 : decode cJ0_indexOf_7cf53 27 = .ok (.iload_n 1, 1) := by decide +kernel
theorem dJ0_indexOf_7cf53_28 : decode cJ0_indexOf_7cf53 28 = .ok (.iload_n 2, 1) := by decide +kernel
theorem dJ0_indexOf_7cf53_29 : decode cJ0_indexOf_7cf53 29 = .ok (.aload_n 0, 1) := by decide +kernel
theorem dJ0_indexOf_7cf53_30 : decode cJ0_indexOf_7cf53 30 = .ok (.invokevirtual 505, 3) := by decide +kernel
theorem dJ0_indexOf_7cf53_33 : decode cJ0_indexOf_7cf53 33 = .ok (.invokestatic 640, 3) := by decide +kernel
theorem dJ0_indexOf_7cf53_36 : decode cJ0_indexOf_7cf53 36 = .ok (.ireturn, 1) := by decide +kernel
theorem dJ0_coder_7d493_0 : decode cJ0_coder_7d493 0 = .ok (.getstatic 38, 3) := by decide +kernel
theorem dJ0_coder_7d493_3 : decode cJ0_coder_7d493 3 = .ok (.ifCond .eq 10, 3) := by decide +kernel
theorem dJ0_coder_7d493_6 : decode cJ0_coder_7d493 6 = .ok (.aload_n 0, 1) := by decide +kernel
theorem dJ0_coder_7d493_7 : decode cJ0_coder_7d493 7 = .ok (.getfield 15, 3) := by decide +kernel
theorem dJ0_coder_7d493_10 : decode cJ0_coder_7d493 10 = .ok (.goto 4, 3) := by decide +kernel
theorem dJ0_coder_7d493_13 : decode cJ0_coder_7d493 13 = .ok (.iconst 1, 1) := by decide +kernel
theorem dJ0_coder_7d493_14 : decode cJ0_coder_7d493 14 = .ok (.ireturn, 1) := by decide +kernel
theorem dJ0_isLatin1_aae02_0 : decode cJ0_isLatin1_aae02 0 = .ok (.getstatic 38, 3) := by decide +kernel
theorem dJ0_isLatin1_aae02_3 : decode cJ0_isLatin1_aae02 3 = .ok (.ifCond .eq 14, 3) := by decide +kernel
theorem dJ0_isLatin1_aae02_6 : decode cJ0_isLatin1_aae02 6 = .ok (.aload_n 0, 1) := by decide +kernel
theorem dJ0_isLatin1_aae02_7 : decode cJ0_isLatin1_aae02 7 = .ok (.getfield 15, 3) := by decide +kernel
theorem dJ0_isLatin1_aae02_10 : decode cJ0_isLatin1_aae02 10 = .ok (.ifCond .ne 7, 3) := by decide +kernel
theorem dJ0_isLatin1_aae02_13 : decode cJ0_isLatin1_aae02 13 = .ok (.iconst 1, 1) := by decide +kernel
theorem dJ0_isLatin1_aae02_14 : decode cJ0_isLatin1_aae02 14 = .ok (.goto 4, 3) := by decide +kernel
theorem dJ0_isLatin1_aae02_17 : decode cJ0_isLatin1_aae02 17 = .ok (.iconst 0, 1) := by decide +kernel
theorem dJ0_isLatin1_aae02_18 : decode cJ0_isLatin1_aae02 18 = .ok (.ireturn, 1) := by decide +kernel
theorem dJ0_checkBoundsBeginEnd_23922_0 : decode cJ0_checkBoundsBeginEnd_23922 0 = .ok (.iload_n 0, 1) := by decide +kernel
theorem dJ0_checkBoundsBeginEnd_23922_1 : decode cJ0_checkBoundsBeginEnd_23922 1 = .ok (.iload_n 1, 1) := by decide +kernel
theorem dJ0_checkBoundsBeginEnd_23922_2 : decode cJ0_checkBoundsBeginEnd_23922 2 = .ok (.iload_n 2, 1) := by decide +kernel
theorem dJ0_checkBoundsBeginEnd_23922_3 : decode cJ0_checkBoundsBeginEnd_23922 3 = .ok (.getstatic 1053, 3) := by decide +kernel
theorem dJ0_checkBoundsBeginEnd_23922_6 : decode cJ0_checkBoundsBeginEnd_23922 6 = .ok (.invokestatic 1062, 3) := by decide +kernel
theorem dJ0_checkBoundsBeginEnd_23922_9 : decode cJ0_checkBoundsBeginEnd_23922 9 = .ok (.pop, 1) := by decide +kernel
theorem dJ0_checkBoundsBeginEnd_23922_10 : decode cJ0_checkBoundsBeginEnd_23922 10 = .ok (.return_, 1) := by decide +kernel
theorem dJ1_canEncode_9a6ad_0 : decode cJ1_canEncode_9a6ad 0 = .ok (.iload_n 0, 1) := by decide +kernel
theorem dJ1_canEncode_9a6ad_1 : decode cJ1_canEncode_9a6ad 1 = .ok (.ifCond .lt 14, 3) := by decide +kernel
theorem dJ1_canEncode_9a6ad_4 : decode cJ1_canEncode_9a6ad 4 = .ok (.iload_n 0, 1) := by decide +kernel
theorem dJ1_canEncode_9a6ad_5 : decode cJ1_canEncode_9a6ad 5 = .ok (.sipush 255, 3) := by decide +kernel
theorem dJ1_canEncode_9a6ad_8 : decode cJ1_canEncode_9a6ad 8 = .ok (.if_icmp .gt 7, 3) := by decide +kernel
theorem dJ1_canEncode_9a6ad_11 : decode cJ1_canEncode_9a6ad 11 = .ok (.iconst 1, 1) := by decide +kernel
theorem dJ1_canEncode_9a6ad_12 : decode cJ1_canEncode_9a6ad 12 = .ok (.goto 4, 3) := by decide +kernel
theorem dJ1_canEncode_9a6ad_15 : decode cJ1_canEncode_9a6ad 15 = .ok (.iconst 0, 1) := by decide +kernel
theorem dJ1_canEncode_9a6ad_16 : decode cJ1_canEncode_9a6ad 16 = .ok (.ireturn, 1) := by decide +kernel
theorem dJ1_indexOf_4cfef_0 : decode cJ1_indexOf_4cfef 0 = .ok (.iload_n 1, 1) := by decide +kernel
theorem dJ1_indexOf_4cfef_1 : decode cJ1_indexOf_4cfef 1 = .ok (.invokestatic 88, 3) := by decide +kernel
theorem dJ1_indexOf_4cfef_4 : decode cJ1_indexOf_4cfef 4 = .ok (.ifCond .ne 5, 3) := by decide +kernel
theorem dJ1_indexOf_4cfef_7 : decode cJ1_indexOf_4cfef 7 = .ok (.iconst (-1), 1) := by decide +kernel
theorem dJ1_indexOf_4cfef_8 : decode cJ1_indexOf_4cfef 8 = .ok (.ireturn, 1) := by decide +kernel
theorem dJ1_indexOf_4cfef_9 : decode cJ1_indexOf_4cfef 9 = .ok (.iload_n 2, 1) := by decide +kernel
theorem dJ1_indexOf_4cfef_10 : decode cJ1_indexOf_4cfef 10 = .ok (.iconst 0, 1) := by decide +kernel
theorem dJ1_indexOf_4cfef_11 : decode cJ1_indexOf_4cfef 11 = .ok (.invokestatic 92, 3) := by decide +kernel
theorem dJ1_indexOf_4cfef_14 : decode cJ1_indexOf_4cfef 14 = .ok (.istore_n 2, 1) := by decide +kernel
theorem dJ1_indexOf_4cfef_15 : decode cJ1_indexOf_4cfef 15 = .ok (.iload_n 3, 1) := by decide +kernel
theorem dJ1_indexOf_4cfef_16 : decode cJ1_indexOf_4cfef 16 = .ok (.aload_n 0, 1) := by decide +kernel
theorem dJ1_indexOf_4cfef_17 : decode cJ1_indexOf_4cfef 17 = .ok (.arraylength, 1) := by decide +kernel
theorem dJ1_indexOf_4cfef_18 : decode cJ1_indexOf_4cfef 18 = .ok (.invokestatic 38, 3) := by decide +kernel
theorem dJ1_indexOf_4cfef_21 : decode cJ1_indexOf_4cfef 21 = .ok (.istore_n 3, 1) := by decide +kernel
theorem dJ1_indexOf_4cfef_22 : decode cJ1_indexOf_4cfef 22 = .ok (.iload_n 2, 1) := by decide +kernel
theorem dJ1_indexOf_4cfef_23 : decode cJ1_indexOf_4cfef 23 = .ok (.iload_n 3, 1) := by decide +kernel
theorem dJ1_indexOf_4cfef_24 : decode cJ1_indexOf_4cfef 24 = .ok (.if_icmp .lt 5, 3) := by decide +kernel
theorem dJ1_indexOf_4cfef_27 : decode cJ1_indexOf_4cfef 27 = .ok (.iconst (-1), 1) := by decide +kernel
theorem dJ1_indexOf_4cfef_28 : decode cJ1_indexOf_4cfef 28 = .ok (.ireturn, 1) := by decide +kernel
theorem dJ1_indexOf_4cfef_29 : decode cJ1_indexOf_4cfef 29 = .ok (.aload_n 0, 1) := by decide +kernel
theorem dJ1_indexOf_4cfef_30 : decode cJ1_indexOf_4cfef 30 = .ok (.iload_n 1, 1) := by decide +kernel
theorem dJ1_indexOf_4cfef_31 : decode cJ1_indexOf_4cfef 31 = .ok (.iload_n 2, 1) := by decide +kernel
theorem dJ1_indexOf_4cfef_32 : decode cJ1_indexOf_4cfef 32 = .ok (.iload_n 3, 1) := by decide +kernel
theorem dJ1_indexOf_4cfef_33 : decode cJ1_indexOf_4cfef 33 = .ok (.invokestatic 95, 3) := by decide +kernel
theorem dJ1_indexOf_4cfef_36 : decode cJ1_indexOf_4cfef 36 = .ok (.ireturn, 1) := by decide +kernel
theorem dJ1_indexOfChar_4cfef_0 : decode cJ1_indexOfChar_4cfef 0 = .ok (.iload_n 1, 1) := by decide +kernel
theorem dJ1_indexOfChar_4cfef_1 : decode cJ1_indexOfChar_4cfef 1 = .ok (.i2b, 1) := by decide +kernel
theorem dJ1_indexOfChar_4cfef_2 : decode cJ1_indexOfChar_4cfef 2 = .ok (.istore 4, 2) := by decide +kernel
theorem dJ1_indexOfChar_4cfef_4 : decode cJ1_indexOfChar_4cfef 4 = .ok (.iload_n 2, 1) := by decide +kernel
theorem dJ1_indexOfChar_4cfef_5 : decode cJ1_indexOfChar_4cfef 5 = .ok (.istore 5, 2) := by decide +kernel
theorem dJ1_indexOfChar_4cfef_7 : decode cJ1_indexOfChar_4cfef 7 = .ok (.iload 5, 2) := by decide +kernel
theorem dJ1_indexOfChar_4cfef_9 : decode cJ1_indexOfChar_4cfef 9 = .ok (.iload_n 3, 1) := by decide +kernel
theorem dJ1_indexOfChar_4cfef_10 : decode cJ1_indexOfChar_4cfef 10 = .ok (.if_icmp .ge 21, 3) := by decide +kernel
theorem dJ1_indexOfChar_4cfef_13 : decode cJ1_indexOfChar_4cfef 13 = .ok (.aload_n 0, 1) := by decide +kernel
theorem dJ1_indexOfChar_4cfef_14 : decode cJ1_indexOfChar_4cfef 14 = .ok (.iload 5, 2) := by decide +kernel
theorem dJ1_indexOfChar_4cfef_16 : decode cJ1_indexOfChar_4cfef 16 = .ok (.baload, 1) := by decide +kernel
theorem dJ1_indexOfChar_4cfef_17 : decode cJ1_indexOfChar_4cfef 17 = .ok (.iload 4, 2) := by decide +kernel
theorem dJ1_indexOfChar_4cfef_19 : decode cJ1_indexOfChar_4cfef 19 = .ok (.if_icmp .ne 6, 3) := by decide +kernel
theorem dJ1_indexOfChar_4cfef_22 : decode cJ1_indexOfChar_4cfef 22 = .ok (.iload 5, 2) := by decide +kernel
theorem dJ1_indexOfChar_4cfef_24 : decode cJ1_indexOfChar_4cfef 24 = .ok (.ireturn, 1) := by decide +kernel
theorem dJ1_indexOfChar_4cfef_25 : decode cJ1_indexOfChar_4cfef 25 = .ok (.iinc 5 1, 3) := by decide +kernel
theorem dJ1_indexOfChar_4cfef_28 : decode cJ1_indexOfChar_4cfef 28 = .ok (.goto (-21), 3) := by decide +kernel
theorem dJ1_indexOfChar_4cfef_31 : decode cJ1_indexOfChar_4cfef 31 = .ok (.iconst (-1), 1) := by decide +kernel
theorem dJ1_indexOfChar_4cfef_32 : decode cJ1_indexOfChar_4cfef 32 = .ok (.ireturn, 1) := by decide +kernel
theorem dJ2_getChar_3b067_0 : decode cJ2_getChar_3b067 0 = .ok (.getstatic 44, 3) := by decide +kernel
theorem dJ2_getChar_3b067_3 : decode cJ2_getChar_3b067 3 = .ok (.ifCond .ne 25, 3) := by decide +kernel
theorem dJ2_getChar_3b067_6 : decode cJ2_getChar_3b067 6 = .ok (.iload_n 1, 1) := by decide +kernel
theorem dJ2_getChar_3b067_7 : decode cJ2_getChar_3b067 7 = .ok (.ifCond .lt 11, 3) := by decide +kernel
theorem dJ2_getChar_3b067_10 : decode cJ2_getChar_3b067 10 = .ok (.iload_n 1, 1) := by decide +kernel
theorem dJ2_getChar_3b067_11 : decode cJ2_getChar_3b067 11 = .ok (.aload_n 0, 1) := by decide +kernel
theorem dJ2_getChar_3b067_12 : decode cJ2_getChar_3b067 12 = .ok (.invokestatic 48, 3) := by decide +kernel
theorem dJ2_getChar_3b067_15 : decode cJ2_getChar_3b067 15 = .ok (.if_icmp .lt 13, 3) := by decide +kernel
theorem dJ2_getChar_3b067_18 : decode cJ2_getChar_3b067 18 = .ok (.new 52, 3) := by decide +kernel
theorem dJ2_getChar_3b067_21 : decode cJ2_getChar_3b067 21 = .ok (.dup, 1) := by decide +kernel
theorem dJ2_getChar_3b067_22 : decode cJ2_getChar_3b067 22 = .ok (.ldc 54, 2) := by decide +kernel
theorem dJ2_getChar_3b067_24 : decode cJ2_getChar_3b067 24 = .ok (.invokespecial 56, 3) := by decide +kernel
theorem dJ2_getChar_3b067_27 : decode cJ2_getChar_3b067 27 = .ok (.athrow, 1) := by decide +kernel
theorem dJ2_getChar_3b067_28 : decode cJ2_getChar_3b067 28 = .ok (.iload_n 1, 1) := by decide +kernel
theorem dJ2_getChar_3b067_29 : decode cJ2_getChar_3b067 29 = .ok (.iconst 1, 1) := by decide +kernel
theorem dJ2_getChar_3b067_30 : decode cJ2_getChar_3b067 30 = .ok (.ishl, 1) := by decide +kernel
theorem dJ2_getChar_3b067_31 : decode cJ2_getChar_3b067 31 = .ok (.istore_n 1, 1) := by decide +kernel
theorem dJ2_getChar_3b067_32 : decode cJ2_getChar_3b067 32 = .ok (.aload_n 0, 1) := by decide +kernel
theorem dJ2_getChar_3b067_33 : decode cJ2_getChar_3b067 33 = .ok (.iload_n 1, 1) := by decide +kernel
theorem dJ2_getChar_3b067_34 : decode cJ2_getChar_3b067 34 = .ok (.iinc 1 1, 3) := by decide +kernel
theorem dJ2_getChar_3b067_37 : decode cJ2_getChar_3b067 37 = .ok (.baload, 1) := by decide +kernel
theorem dJ2_getChar_3b067_38 : decode cJ2_getChar_3b067 38 = .ok (.sipush 255, 3) := by decide +kernel
theorem dJ2_getChar_3b067_41 : decode cJ2_getChar_3b067 41 = .ok (.iand, 1) := by decide +kernel
theorem dJ2_getChar_3b067_42 : decode cJ2_getChar_3b067 42 = .ok (.getstatic 59, 3) := by decide +kernel
theorem dJ2_getChar_3b067_45 : decode cJ2_getChar_3b067 45 = .ok (.ishl, 1) := by decide +kernel
theorem dJ2_getChar_3b067_46 : decode cJ2_getChar_3b067 46 = .ok (.aload_n 0, 1) := by decide +kernel
theorem dJ2_getChar_3b067_47 : decode cJ2_getChar_3b067 47 = .ok (.iload_n 1, 1) := by decide +kernel
theorem dJ2_getChar_3b067_48 : decode cJ2_getChar_3b067 48 = .ok (.baload, 1) := by decide +kernel
theorem dJ2_getChar_3b067_49 : decode cJ2_getChar_3b067 49 = .ok (.sipush 255, 3) := by decide +kernel
theorem dJ2_getChar_3b067_52 : decode cJ2_getChar_3b067 52 = .ok (.iand, 1) := by decide +kernel
theorem dJ2_getChar_3b067_53 : decode cJ2_getChar_3b067 53 = .ok (.getstatic 63, 3) := by decide +kernel
theorem dJ2_getChar_3b067_56 : decode cJ2_getChar_3b067 56 = .ok (.ishl, 1) := by decide +kernel
theorem dJ2_getChar_3b067_57 : decode cJ2_getChar_3b067 57 = .ok (.ior, 1) := by decide +kernel
theorem dJ2_getChar_3b067_58 : decode cJ2_getChar_3b067 58 = .ok (.i2c, 1) := by decide +kernel
theorem dJ2_getChar_3b067_59 : decode cJ2_getChar_3b067 59 = .ok (.ireturn, 1) := by decide +kernel
theorem dJ2_length_9d52b_0 : decode cJ2_length_9d52b 0 = .ok (.aload_n 0, 1) := by decide +kernel
theorem dJ2_length_9d52b_1 : decode cJ2_length_9d52b 1 = .ok (.arraylength, 1) := by decide +kernel
theorem dJ2_length_9d52b_2 : decode cJ2_length_9d52b 2 = .ok (.iconst 1, 1) := by decide +kernel
theorem dJ2_length_9d52b_3 : decode cJ2_length_9d52b 3 = .ok (.ishr, 1) := by decide +kernel
theorem dJ2_length_9d52b_4 : decode cJ2_length_9d52b 4 = .ok (.ireturn, 1) := by decide +kernel
theorem dJ2_indexOf_4cfef_0 : decode cJ2_indexOf_4cfef 0 = .ok (.iload_n 2, 1) := by decide +kernel
theorem dJ2_indexOf_4cfef_1 : decode cJ2_indexOf_4cfef 1 = .ok (.iconst 0, 1) := by decide +kernel
theorem dJ2_indexOf_4cfef_2 : decode cJ2_indexOf_4cfef 2 = .ok (.invokestatic 224, 3) := by decide +kernel
theorem dJ2_indexOf_4cfef_5 : decode cJ2_indexOf_4cfef 5 = .ok (.istore_n 2, 1) := by decide +kernel
theorem dJ2_indexOf_4cfef_6 : decode cJ2_indexOf_4cfef 6 = .ok (.iload_n 3, 1) := by decide +kernel
theorem dJ2_indexOf_4cfef_7 : decode cJ2_indexOf_4cfef 7 = .ok (.aload_n 0, 1) := by decide +kernel
theorem dJ2_indexOf_4cfef_8 : decode cJ2_indexOf_4cfef 8 = .ok (.arraylength, 1) := by decide +kernel
theorem dJ2_indexOf_4cfef_9 : decode cJ2_indexOf_4cfef 9 = .ok (.iconst 1, 1) := by decide +kernel
theorem dJ2_indexOf_4cfef_10 : decode cJ2_indexOf_4cfef 10 = .ok (.ishr, 1) := by decide +kernel
theorem dJ2_indexOf_4cfef_11 : decode cJ2_indexOf_4cfef 11 = .ok (.invokestatic 183, 3) := by decide +kernel
theorem dJ2_indexOf_4cfef_14 : decode cJ2_indexOf_4cfef 14 = .ok (.istore_n 3, 1) := by decide +kernel
theorem dJ2_indexOf_4cfef_15 : decode cJ2_indexOf_4cfef 15 = .ok (.iload_n 2, 1) := by decide +kernel
theorem dJ2_indexOf_4cfef_16 : decode cJ2_indexOf_4cfef 16 = .ok (.iload_n 3, 1) := by decide +kernel
theorem dJ2_indexOf_4cfef_17 : decode cJ2_indexOf_4cfef 17 = .ok (.if_icmp .lt 5, 3) := by decide +kernel
theorem dJ2_indexOf_4cfef_20 : decode cJ2_indexOf_4cfef 20 = .ok (.iconst (-1), 1) := by decide +kernel
theorem dJ2_indexOf_4cfef_21 : decode cJ2_indexOf_4cfef 21 = .ok (.ireturn, 1) := by decide +kernel
theorem dJ2_indexOf_4cfef_22 : decode cJ2_indexOf_4cfef 22 = .ok (.iload_n 1, 1) := by decide +kernel
theorem dJ2_indexOf_4cfef_23 : decode cJ2_indexOf_4cfef 23 = .ok (.ldc 227, 2) := by decide +kernel
theorem dJ2_indexOf_4cfef_25 : decode cJ2_indexOf_4cfef 25 = .ok (.if_icmp .ge 11, 3) := by decide +kernel
theorem dJ2_indexOf_4cfef_28 : decode cJ2_indexOf_4cfef 28 = .ok (.aload_n 0, 1) := by decide +kernel
theorem dJ2_indexOf_4cfef_29 : decode cJ2_indexOf_4cfef 29 = .ok (.iload_n 1, 1) := by decide +kernel
theorem dJ2_indexOf_4cfef_30 : decode cJ2_indexOf_4cfef 30 = .ok (.iload_n 2, 1) := by decide +kernel
theorem dJ2_indexOf_4cfef_31 : decode cJ2_indexOf_4cfef 31 = .ok (.iload_n 3, 1) := by decide +kernel
theorem dJ2_indexOf_4cfef_32 : decode cJ2_indexOf_4cfef 32 = .ok (.invokestatic 228, 3) := by decide +kernel
theorem dJ2_indexOf_4cfef_35 : decode cJ2_indexOf_4cfef 35 = .ok (.ireturn, 1) := by decide +kernel
theorem dJ2_indexOf_4cfef_36 : decode cJ2_indexOf_4cfef 36 = .ok (.aload_n 0, 1) := by decide +kernel
theorem dJ2_indexOf_4cfef_37 : decode cJ2_indexOf_4cfef 37 = .ok (.iload_n 1, 1) := by decide +kernel
theorem dJ2_indexOf_4cfef_38 : decode cJ2_indexOf_4cfef 38 = .ok (.iload_n 2, 1) := by decide +kernel
theorem dJ2_indexOf_4cfef_39 : decode cJ2_indexOf_4cfef 39 = .ok (.iload_n 3, 1) := by decide +kernel
theorem dJ2_indexOf_4cfef_40 : decode cJ2_indexOf_4cfef 40 = .ok (.invokestatic 232, 3) := by decide +kernel
theorem dJ2_indexOf_4cfef_43 : decode cJ2_indexOf_4cfef 43 = .ok (.ireturn, 1) := by decide +kernel
theorem dJ2_indexOfChar_4cfef_0 : decode cJ2_indexOfChar_4cfef 0 = .ok (.iload_n 2, 1) := by decide +kernel
theorem dJ2_indexOfChar_4cfef_1 : decode cJ2_indexOfChar_4cfef 1 = .ok (.iload_n 3, 1) := by decide +kernel
theorem dJ2_indexOfChar_4cfef_2 : decode cJ2_indexOfChar_4cfef 2 = .ok (.aload_n 0, 1) := by decide +kernel
theorem dJ2_indexOfChar_4cfef_3 : decode cJ2_indexOfChar_4cfef 3 = .ok (.invokestatic 96, 3) := by decide +kernel
theorem dJ2_indexOfChar_4cfef_6 : decode cJ2_indexOfChar_4cfef 6 = .ok (.aload_n 0, 1) := by decide +kernel
theorem dJ2_indexOfChar_4cfef_7 : decode cJ2_indexOfChar_4cfef 7 = .ok (.iload_n 1, 1) := by decide +kernel
theorem dJ2_indexOfChar_4cfef_8 : decode cJ2_indexOfChar_4cfef 8 = .ok (.iload_n 2, 1) := by decide +kernel
theorem dJ2_indexOfChar_4cfef_9 : decode cJ2_indexOfChar_4cfef 9 = .ok (.iload_n 3, 1) := by decide +kernel
theorem dJ2_indexOfChar_4cfef_10 : decode cJ2_indexOfChar_4cfef 10 = .ok (.invokestatic 244, 3) := by decide +kernel
theorem dJ2_indexOfChar_4cfef_13 : decode cJ2_indexOfChar_4cfef 13 = .ok (.ireturn, 1) := by decide +kernel
theorem dJ2_indexOfCharUnsafe_4cfef_0 : decode cJ2_indexOfCharUnsafe_4cfef 0 = .ok (.iload_n 2, 1) := by decide +kernel
theorem dJ2_indexOfCharUnsafe_4cfef_1 : decode cJ2_indexOfCharUnsafe_4cfef 1 = .ok (.istore 4, 2) := by decide +kernel
theorem dJ2_indexOfCharUnsafe_4cfef_3 : decode cJ2_indexOfCharUnsafe_4cfef 3 = .ok (.iload 4, 2) := by decide +kernel
theorem dJ2_indexOfCharUnsafe_4cfef_5 : decode cJ2_indexOfCharUnsafe_4cfef 5 = .ok (.iload_n 3, 1) := by decide +kernel
theorem dJ2_indexOfCharUnsafe_4cfef_6 : decode cJ2_indexOfCharUnsafe_4cfef 6 = .ok (.if_icmp .ge 22, 3) := by decide +kernel
theorem dJ2_indexOfCharUnsafe_4cfef_9 : decode cJ2_indexOfCharUnsafe_4cfef 9 = .ok (.aload_n 0, 1) := by decide +kernel
theorem dJ2_indexOfCharUnsafe_4cfef_10 : decode cJ2_indexOfCharUnsafe_4cfef 10 = .ok (.iload 4, 2) := by decide +kernel
theorem dJ2_indexOfCharUnsafe_4cfef_12 : decode cJ2_indexOfCharUnsafe_4cfef 12 = .ok (.invokestatic 71, 3) := by decide +kernel
theorem dJ2_indexOfCharUnsafe_4cfef_15 : decode cJ2_indexOfCharUnsafe_4cfef 15 = .ok (.iload_n 1, 1) := by decide +kernel
theorem dJ2_indexOfCharUnsafe_4cfef_16 : decode cJ2_indexOfCharUnsafe_4cfef 16 = .ok (.if_icmp .ne 6, 3) := by decide +kernel
theorem dJ2_indexOfCharUnsafe_4cfef_19 : decode cJ2_indexOfCharUnsafe_4cfef 19 = .ok (.iload 4, 2) := by decide +kernel
theorem dJ2_indexOfCharUnsafe_4cfef_21 : decode cJ2_indexOfCharUnsafe_4cfef 21 = .ok (.ireturn, 1) := by decide +kernel
theorem dJ2_indexOfCharUnsafe_4cfef_22 : decode cJ2_indexOfCharUnsafe_4cfef 22 = .ok (.iinc 4 1, 3) := by decide +kernel
theorem dJ2_indexOfCharUnsafe_4cfef_25 : decode cJ2_indexOfCharUnsafe_4cfef 25 = .ok (.goto (-22), 3) := by decide +kernel
theorem dJ2_indexOfCharUnsafe_4cfef_28 : decode cJ2_indexOfCharUnsafe_4cfef 28 = .ok (.iconst (-1), 1) := by decide +kernel
theorem dJ2_indexOfCharUnsafe_4cfef_29 : decode cJ2_indexOfCharUnsafe_4cfef 29 = .ok (.ireturn, 1) := by decide +kernel
theorem dJ2_indexOfSupplementary_4cfef_0 : decode cJ2_indexOfSupplementary_4cfef 0 = .ok (.iload_n 1, 1) := by decide +kernel
theorem dJ2_indexOfSupplementary_4cfef_1 : decode cJ2_indexOfSupplementary_4cfef 1 = .ok (.invokestatic 164, 3) := by decide +kernel
theorem dJ2_indexOfSupplementary_4cfef_4 : decode cJ2_indexOfSupplementary_4cfef 4 = .ok (.ifCond .eq 65, 3) := by decide +kernel
theorem dJ2_indexOfSupplementary_4cfef_7 : decode cJ2_indexOfSupplementary_4cfef 7 = .ok (.iload_n 1, 1) := by decide +kernel
theorem dJ2_indexOfSupplementary_4cfef_8 : decode cJ2_indexOfSupplementary_4cfef 8 = .ok (.invokestatic 157, 3) := by decide +kernel
theorem dJ2_indexOfSupplementary_4cfef_11 : decode cJ2_indexOfSupplementary_4cfef 11 = .ok (.istore 4, 2) := by decide +kernel
theorem dJ2_indexOfSupplementary_4cfef_13 : decode cJ2_indexOfSupplementary_4cfef 13 = .ok (.iload_n 1, 1) := by decide +kernel
theorem dJ2_indexOfSupplementary_4cfef_14 : decode cJ2_indexOfSupplementary_4cfef 14 = .ok (.invokestatic 161, 3) := by decide +kernel
theorem dJ2_indexOfSupplementary_4cfef_17 : decode cJ2_indexOfSupplementary_4cfef 17 = .ok (.istore 5, 2) := by decide +kernel
theorem dJ2_indexOfSupplementary_4cfef_19 : decode cJ2_indexOfSupplementary_4cfef 19 = .ok (.iload_n 2, 1) := by decide +kernel
theorem dJ2_indexOfSupplementary_4cfef_20 : decode cJ2_indexOfSupplementary_4cfef 20 = .ok (.iload_n 3, 1) := by decide +kernel
theorem dJ2_indexOfSupplementary_4cfef_21 : decode cJ2_indexOfSupplementary_4cfef 21 = .ok (.aload_n 0, 1) := by decide +kernel
theorem dJ2_indexOfSupplementary_4cfef_22 : decode cJ2_indexOfSupplementary_4cfef 22 = .ok (.invokestatic 96, 3) := by decide +kernel
theorem dJ2_indexOfSupplementary_4cfef_25 : decode cJ2_indexOfSupplementary_4cfef 25 = .ok (.iload_n 2, 1) := by decide +kernel
theorem dJ2_indexOfSupplementary_4cfef_26 : decode cJ2_indexOfSupplementary_4cfef 26 = .ok (.istore 6, 2) := by decide +kernel
theorem dJ2_indexOfSupplementary_4cfef_28 : decode cJ2_indexOfSupplementary_4cfef 28 = .ok (.iload 6, 2) := by decide +kernel
theorem dJ2_indexOfSupplementary_4cfef_30 : decode cJ2_indexOfSupplementary_4cfef 30 = .ok (.iload_n 3, 1) := by decide +kernel
theorem dJ2_indexOfSupplementary_4cfef_31 : decode cJ2_indexOfSupplementary_4cfef 31 = .ok (.iconst 1, 1) := by decide +kernel
theorem dJ2_indexOfSupplementary_4cfef_32 : decode cJ2_indexOfSupplementary_4cfef 32 = .ok (.isub, 1) := by decide +kernel
theorem dJ2_indexOfSupplementary_4cfef_33 : decode cJ2_indexOfSupplementary_4cfef 33 = .ok (.if_icmp .ge 36, 3) := by decide +kernel
theorem dJ2_indexOfSupplementary_4cfef_36 : decode cJ2_indexOfSupplementary_4cfef 36 = .ok (.aload_n 0, 1) := by decide +kernel
theorem dJ2_indexOfSupplementary_4cfef_37 : decode cJ2_indexOfSupplementary_4cfef 37 = .ok (.iload 6, 2) := by decide +kernel
theorem dJ2_indexOfSupplementary_4cfef_39 : decode cJ2_indexOfSupplementary_4cfef 39 = .ok (.invokestatic 71, 3) := by decide +kernel
theorem dJ2_indexOfSupplementary_4cfef_42 : decode cJ2_indexOfSupplementary_4cfef 42 = .ok (.iload 4, 2) := by decide +kernel
theorem dJ2_indexOfSupplementary_4cfef_44 : decode cJ2_indexOfSupplementary_4cfef 44 = .ok (.if_icmp .ne 19, 3) := by decide +kernel
theorem dJ2_indexOfSupplementary_4cfef_47 : decode cJ2_indexOfSupplementary_4cfef 47 = .ok (.aload_n 0, 1) := by decide +kernel
theorem dJ2_indexOfSupplementary_4cfef_48 : decode cJ2_indexOfSupplementary_4cfef 48 = .ok (.iload 6, 2) := by decide +kernel
theorem dJ2_indexOfSupplementary_4cfef_50 : decode cJ2_indexOfSupplementary_4cfef 50 = .ok (.iconst 1, 1) := by decide +kernel
theorem dJ2_indexOfSupplementary_4cfef_51 : decode cJ2_indexOfSupplementary_4cfef 51 = .ok (.iadd, 1) := by decide +kernel
theorem dJ2_indexOfSupplementary_4cfef_52 : decode cJ2_indexOfSupplementary_4cfef 52 = .ok (.invokestatic 71, 3) := by decide +kernel
theorem dJ2_indexOfSupplementary_4cfef_55 : decode cJ2_indexOfSupplementary_4cfef 55 = .ok (.iload 5, 2) := by decide +kernel
theorem dJ2_indexOfSupplementary_4cfef_57 : decode cJ2_indexOfSupplementary_4cfef 57 = .ok (.if_icmp .ne 6, 3) := by decide +kernel
theorem dJ2_indexOfSupplementary_4cfef_60 : decode cJ2_indexOfSupplementary_4cfef 60 = .ok (.iload 6, 2) := by decide +kernel
theorem dJ2_indexOfSupplementary_4cfef_62 : decode cJ2_indexOfSupplementary_4cfef 62 = .ok (.ireturn, 1) := by decide +kernel
theorem dJ2_indexOfSupplementary_4cfef_63 : decode cJ2_indexOfSupplementary_4cfef 63 = .ok (.iinc 6 1, 3) := by decide +kernel
theorem dJ2_indexOfSupplementary_4cfef_66 : decode cJ2_indexOfSupplementary_4cfef 66 = .ok (.goto (-38), 3) := by decide +kernel
theorem dJ2_indexOfSupplementary_4cfef_69 : decode cJ2_indexOfSupplementary_4cfef 69 = .ok (.iconst (-1), 1) := by decide +kernel
theorem dJ2_indexOfSupplementary_4cfef_70 : decode cJ2_indexOfSupplementary_4cfef 70 = .ok (.ireturn, 1) := by decide +kernel
theorem dJ2_checkBoundsBeginEnd_d044e_0 : decode cJ2_checkBoundsBeginEnd_d044e 0 = .ok (.iload_n 0, 1) := by decide +kernel
theorem dJ2_checkBoundsBeginEnd_d044e_1 : decode cJ2_checkBoundsBeginEnd_d044e 1 = .ok (.iload_n 1, 1) := by decide +kernel
theorem dJ2_checkBoundsBeginEnd_d044e_2 : decode cJ2_checkBoundsBeginEnd_d044e 2 = .ok (.aload_n 2, 1) := by decide +kernel
theorem dJ2_checkBoundsBeginEnd_d044e_3 : decode cJ2_checkBoundsBeginEnd_d044e 3 = .ok (.invokestatic 48, 3) := by decide +kernel
theorem dJ2_checkBoundsBeginEnd_d044e_6 : decode cJ2_checkBoundsBeginEnd_d044e 6 = .ok (.invokestatic 241, 3) := by decide +kernel
theorem dJ2_checkBoundsBeginEnd_d044e_9 : decode cJ2_checkBoundsBeginEnd_d044e 9 = .ok (.return_, 1) := by decide +kernel
theorem dJ3_checkFromToIndex_8c36e_0 : decode cJ3_checkFromToIndex_8c36e 0 = .ok (.iload_n 0, 1) := by decide +kernel
theorem dJ3_checkFromToIndex_8c36e_1 : decode cJ3_checkFromToIndex_8c36e 1 = .ok (.ifCond .lt 13, 3) := by decide +kernel
theorem dJ3_checkFromToIndex_8c36e_4 : decode cJ3_checkFromToIndex_8c36e 4 = .ok (.iload_n 0, 1) := by decide +kernel
theorem dJ3_checkFromToIndex_8c36e_5 : decode cJ3_checkFromToIndex_8c36e 5 = .ok (.iload_n 1, 1) := by decide +kernel
theorem dJ3_checkFromToIndex_8c36e_6 : decode cJ3_checkFromToIndex_8c36e 6 = .ok (.if_icmp .gt 8, 3) := by decide +kernel
theorem dJ3_checkFromToIndex_8c36e_9 : decode cJ3_checkFromToIndex_8c36e 9 = .ok (.iload_n 1, 1) := by decide +kernel
theorem dJ3_checkFromToIndex_8c36e_10 : decode cJ3_checkFromToIndex_8c36e 10 = .ok (.iload_n 2, 1) := by decide +kernel
theorem dJ3_checkFromToIndex_8c36e_11 : decode cJ3_checkFromToIndex_8c36e 11 = .ok (.if_icmp .le 11, 3) := by decide +kernel
theorem dJ3_checkFromToIndex_8c36e_14 : decode cJ3_checkFromToIndex_8c36e 14 = .ok (.aload_n 3, 1) := by decide +kernel
theorem dJ3_checkFromToIndex_8c36e_15 : decode cJ3_checkFromToIndex_8c36e 15 = .ok (.iload_n 0, 1) := by decide +kernel
theorem dJ3_checkFromToIndex_8c36e_16 : decode cJ3_checkFromToIndex_8c36e 16 = .ok (.iload_n 1, 1) := by decide +kernel
theorem dJ3_checkFromToIndex_8c36e_17 : decode cJ3_checkFromToIndex_8c36e 17 = .ok (.iload_n 2, 1) := by decide +kernel
theorem dJ3_checkFromToIndex_8c36e_18 : decode cJ3_checkFromToIndex_8c36e 18 = .ok (.invokestatic 99, 3) := by decide +kernel
theorem dJ3_checkFromToIndex_8c36e_21 : decode cJ3_checkFromToIndex_8c36e 21 = .ok (.athrow, 1) := by decide +kernel
theorem dJ3_checkFromToIndex_8c36e_22 : decode cJ3_checkFromToIndex_8c36e 22 = .ok (.iload_n 0, 1) := by decide +kernel
theorem dJ3_checkFromToIndex_8c36e_23 : decode cJ3_checkFromToIndex_8c36e 23 = .ok (.ireturn, 1) := by decide +kernel
end
section
/-! numbers: an int and a long told by a whole number -/
def iI (z : Int) : Int32 := Int32.ofInt z
def lI (z : Int) : Int64 := Int64.ofInt z
def okI (z : Int) : Prop := -2147483648 ≤ z ∧ z < 2147483648
def okL (z : Int) : Prop := -9223372036854775808 ≤ z ∧ z < 9223372036854775808
theorem iI_toInt {z : Int} (h : okI z) : (iI z).toInt = z := Int32.toInt_ofInt_of_le h.1 h.2
theorem iI_of (x : Int32) : iI x.toInt = x := Int32.ofInt_toInt x
theorem okI_of (x : Int32) : okI x.toInt := ⟨x.le_toInt, x.toInt_lt⟩
theorem iI_add (a b : Int) : iI a + iI b = iI (a + b) := (Int32.ofInt_add a b).symm
theorem iI_sub (a b : Int) : iI a - iI b = iI (a - b) := (Int32.ofInt_sub a b).symm
theorem iI_mul (a b : Int) : iI a * iI b = iI (a * b) := (Int32.ofInt_mul a b).symm
theorem iI_neg (a : Int) : -iI a = iI (-a) := (Int32.ofInt_neg a).symm
theorem iI_inj {a b : Int} (ha : okI a) (hb : okI b) : iI a = iI b ↔ a = b := ⟨fun h => by rw [← iI_toInt ha, ← iI_toInt hb, h], fun h => by rw [h]⟩
theorem iI_le {a b : Int} (ha : okI a) (hb : okI b) : iI a ≤ iI b ↔ a ≤ b := by rw [Int32.le_iff_toInt_le, iI_toInt ha, iI_toInt hb]
theorem iI_lt {a b : Int} (ha : okI a) (hb : okI b) : iI a < iI b ↔ a < b := by rw [Int32.lt_iff_toInt_lt, iI_toInt ha, iI_toInt hb]
def bI (b : Bool) : Int := if b then 1 else 0
theorem okI_b (b : Bool) : okI (bI b) := by cases b <;> exact ⟨by decide, by decide⟩
theorem iI_clamp {z : Int} (h0 : 0 ≤ z) (h : z < 2147483648) : (iI z).toNatClampNeg = z.toNat := by
  show (iI z).toInt.toNat = z.toNat
  rw [iI_toInt ⟨by omega, h⟩]
theorem iI_in {z : Int} {n : Nat} (h0 : 0 ≤ z) (h : z < n) (hn : z < 2147483648) : vp_in (iI z) n := by
  rw [vp_in_iff, iI_toInt ⟨by omega, hn⟩]
  exact ⟨h0, h⟩
theorem iI_nat (n : Nat) : Int32.ofNat n = iI n := by
  show Int32.ofNat n = Int32.ofInt n
  rw [Int32.ofInt_eq_ofNat]
theorem lI_toInt {z : Int} (h : okL z) : (lI z).toInt = z := Int64.toInt_ofInt_of_le h.1 h.2
theorem lI_of (x : Int64) : lI x.toInt = x := Int64.ofInt_toInt x
theorem okL_of (x : Int64) : okL x.toInt := ⟨x.le_toInt, x.toInt_lt⟩
theorem lI_add (a b : Int) : lI a + lI b = lI (a + b) := (Int64.ofInt_add a b).symm
theorem lI_mul (a b : Int) : lI a * lI b = lI (a * b) := (Int64.ofInt_mul a b).symm
theorem iI_i2l {z : Int} (h : okI z) : (iI z).toInt64 = lI z := by
  apply Int64.toInt_inj.mp
  rw [Int32.toInt_toInt64, iI_toInt h, lI_toInt ⟨by have := h.1; omega, by have := h.2; omega⟩]
/-! the environment: launch, classes, where the 89 places lie, the classes of int[], Text[], Image[] -/
abbrev EV : Type := Launch × va_G × (Nat → Nat) × (ClassId × ClassId × ClassId) × ((Nat → Prop) → State → Heap → Prop)
abbrev eI (E : EV) : ClassId := E.2.2.2.1.1
abbrev eT (E : EV) : ClassId := E.2.2.2.1.2.1
abbrev eM (E : EV) : ClassId := E.2.2.2.1.2.2
abbrev eX (E : EV) : (Nat → Prop) → State → Heap → Prop := E.2.2.2.2
abbrev eA (E : EV) (i : Nat) : Value := .ref (E.2.2.1 i)
def tysE (E : EV) : List (ClassId × FieldType) := [(eI E, .int), (eT E, .object RX2), (eM E, .object RX0)]
/-- links of private members of a nest mate -/
def nwl : List Cond := [.fieldLinkNest "TextShelves" 191 "TextShelves$Image" "parts" "LTextShelves$Pieces;" "TextShelves", .methodLinkNest "TextShelves$Text" 61 yX3_asTold "TextShelves", .methodLinkNest "TextShelves$Text" 65 yX3_isLoose "TextShelves"]
/-- the places lie apart; what is carried beside the world stays as the machine goes on -/
def EOK (E : EV) : Prop := (∀ i j, i < 89 → j < 89 → E.2.2.1 i = E.2.2.1 j → i = j) ∧ (∀ (A : Nat → Prop) (s U : State) (H : Heap), eX E A s H → s.WarmedH U.vm → eX E A U H) ∧ (∀ (A : Nat → Prop) (u U : State) (H : Heap), eX E A u H → u.vm = U.vm → eX E A U H) ∧ (∀ (A : Nat → Prop) (s : State) (H H1 : Heap), eX E A s H → (∀ q : Nat, q < H.size → ¬ A q → H1[q]? = H[q]?) → eX E A s H1) ∧ (∀ (A B : Nat → Prop) (s : State) (H : Heap), eX E A s H → (∀ q, B q → A q) → eX E B s H) ∧ ∀ (A : Nat → Prop) (s : State) (H : Heap), eX E A s H → ∀ w ∈ nwl, va_Nw w s
abbrev GH : Type := Nat → va_E
def wl (ad : Nat → Nat) (G : GH) : va_W := (List.range 89).map (fun i => (ad i, G i))
theorem wl_get {ad : Nat → Nat} {G : GH} {i : Nat} (h : i < 89) : (wl ad G)[i]? = some (ad i, G i) := by simp [wl, h]
theorem wl_get' {ad : Nat → Nat} {G : GH} {i : Nat} {e : va_E} (h : i < 89) (he : G i = e) : (wl ad G)[i]? = some (ad i, e) := by rw [wl_get h, he]
theorem wl_set {ad : Nat → Nat} {G : GH} {i : Nat} {e : va_E} : (wl ad G).set i (ad i, e) = wl ad (va_up G i e) := by
  apply List.ext_getElem?
  intro j
  rw [List.getElem?_set]
  by_cases hj : i = j
  · subst hj
    by_cases hi : i < 89
    · simp [wl, hi, va_up]
    · simp [wl, hi]
  · rw [if_neg hj]
    by_cases hi : j < 89
    · rw [wl_get hi, wl_get hi, va_up_ne _ _ (fun h => hj h.symm)]
    · simp [wl, hi]
theorem wl_D {ad : Nat → Nat} {G : GH} {A : Nat → Prop} (hi : ∀ i j, i < 89 → j < 89 → ad i = ad j → i = j) (hA : ∀ i, i < 89 → A (ad i)) : va_D A (wl ad G) := by
  have key : ∀ (k : Nat) (q : Nat × va_E), (wl ad G)[k]? = some q → k < 89 ∧ q.1 = ad k := by
    intro k q hk
    by_cases h : k < 89
    · rw [wl_get h] at hk
      cases hk
      exact ⟨h, rfl⟩
    · simp [wl, h] at hk
  refine ⟨fun i j p q hp hq h => ?_, fun k q hk => ?_⟩
  · obtain ⟨h1, h2⟩ := key i p hp
    obtain ⟨h3, h4⟩ := key j q hq
    exact hi i j h1 h3 (by rw [← h2, ← h4, h])
  · obtain ⟨h1, h2⟩ := key k q hk
    rw [h2]
    exact hA k h1
/-! a method's fixed things; what holds of them; the judgement -/
abbrev TX : Type := Program × Env × Room × State × MethodId × Array Value × List Frame × Method × Code × (Nat → Prop) × Nat × Nat × Nat × (State → Prop)
def CX (E : EV) (X : TX) (cc : ByteArray) (own : String) (ret : Option FieldType) (rm : Room) (nL : Nat) : Prop := match X with
  | (p, e, R, s, m, args, below, meth, c, A, nL', k, n, Q) => p.tables.exec = Jvm.exec ∧ c.code = cc ∧ c.maxLocals = nL ∧ nL' = nL ∧ s.vm.findClass own = some m.cls ∧ (∀ w ∈ AW, w.before args s = true) ∧ va_K E.2.1 vwCl (tysE E) s ∧ meth.locks = false ∧ meth.sig.returnType = ret ∧ R = rm ∧ (∀ q, s.heap.size ≤ q → A q) ∧ (∀ i, i < 89 → A (E.2.2.1 i)) ∧ EOK E ∧ k ≤ R.cells ∧ n ≤ R.slots ∧ eX E A s s.heap
def JL {τ : Type} (E : EV) (Rp : τ → GH → Prop) (X : TX) (pc : Nat) (lv : List (Nat × Value)) (st : List Value) (S : τ) : Prop := match X with
  | (p, e, R, s, m, args, below, meth, c, A, nL, k, n, Q) => ∀ (G : GH) (H : Heap) (locs : List Loc) (ls : Array Slot), Rp S G → va_P E.2.1 vwCl (wl E.2.2.1 G) H → va_S A s.heap H locs → lv_has ls nL lv → W p E.1 e R s m args below meth c H locs k n Q (F0 m pc ls st)
def Fn {τ : Type} (E : EV) (Rp : τ → GH → Prop) (X : TX) (v : Option Value) (S : τ) : Prop := match X with
  | (p, e, R, s, m, args, below, meth, c, A, nL, k, n, Q) => ∃ (Qc : Array Value → State → Outcome → State → Prop) (free : Addr → Prop), Q = MQ below Qc args s k n free ∧ (∀ q, A q → free q) ∧ ∀ (G : GH) (t : State), Rp S G → va_P E.2.1 vwCl (wl E.2.2.1 G) t.heap → va_F A s t → Qc args s (.returned v) t
def AE (E : EV) (sz : Nat) : Nat → Prop := fun q => (∃ i, i < 89 ∧ E.2.2.1 i = q) ∨ sz ≤ q
/-- a method's contract: at these arguments, in a world of state S, it returns v and leaves state S' -/
def Ct {τ : Type} (E : EV) (Rp : τ → GH → Prop) (y : MethodName) (ws : List Cond) (rm : Room) (av : List Value) (S : τ) (v : Option Value) (S' : τ) : Prop :=
  ∀ sz : Nat, Met E.1 y ws rm (va_Pc av (fun U => U.heap.size = sz ∧ (∃ G, Rp S G ∧ va_P E.2.1 vwCl (wl E.2.2.1 G) U.heap) ∧ va_K E.2.1 vwCl (tysE E) U ∧ eX E (AE E sz) U U.heap)) (fun _ st o t => (o = .returned v ∧ ∃ G, Rp S' G ∧ va_P E.2.1 vwCl (wl E.2.2.1 G) t.heap) ∧ va_F (AE E sz) st t) 0 0 (AE E sz)
theorem ct_of {τ : Type} {E : EV} {Rp : τ → GH → Prop} {y : MethodName} {ws : List Cond} {rm : Room} {cc : ByteArray} {maxL : Nat} {ret : Option FieldType} {av : List Value} {S : τ} {v : Option Value} {S' : τ} (lv0 : List (Nat × Value)) (hE : EOK E) (hy : plainName y.cls = true) (hw : ws = Cond.code y cc maxL ret :: AW) (hn : (lg_sl av).length ≤ maxL) (hlv : lv_args 0 av = lv0)
    (body : ∀ X, CX E X cc y.cls ret rm maxL → Fn E Rp X v S' → JL E Rp X 0 lv0 [] S) : Ct E Rp y ws rm av S v S' := by
  intro sz
  refine Met.ofW (cc := cc) (maxL := maxL) (ret := ret) hy hw ?_
  intro p e s m args below meth c s₁ B hml hv
  obtain ⟨rfl, hsz, ⟨G, hR, hP⟩, hK, hX⟩ := hv
  have hl := lv_entry av (n := maxL) hn
  rw [lg_entry_eq]
  rw [hlv] at hl
  refine body (p, e, rm, s, m, av.toArray, below, meth, c, AE E sz, maxL, 0, 0, MQ below (fun _ st o t => (o = .returned v ∧ ∃ G, Rp S' G ∧ va_P E.2.1 vwCl (wl E.2.2.1 G) t.heap) ∧ va_F (AE E sz) st t) av.toArray s 0 0 (AE E sz)) ?_ ?_ G s.heap [] _ hR hP va_S.rf hl
  · exact ⟨B.exec, B.bytes, hml, rfl, findClass_of_methodNamed B.named, fun w hw2 => atoms_spec (ws := ws) B.pre w (by rw [hw]; exact List.mem_cons_of_mem _ hw2), hK, B.notSynchronized, B.returns, rfl, fun q h => Or.inr (hsz ▸ h), fun i h => Or.inl ⟨i, h, rfl⟩, hE, Nat.zero_le _, Nat.zero_le _, hX⟩
  · exact ⟨_, _, rfl, fun q h => h, fun G t h1 h2 h3 => ⟨⟨rfl, G, h1, h2⟩, h3⟩⟩
section JR
variable {τ : Type} {E : EV} {Rp : τ → GH → Prop} {X : TX} {cc : ByteArray} {own : String} {ret : Option FieldType} {rm : Room} {nL : Nat}
variable {pc : Nat} {lv lv' : List (Nat × Value)} {st rest : List Value} {S : τ}
/-- fewer listed locals -/
theorem j_sub {lv2 : List (Nat × Value)} (ks : List Nat) (hs : lv_pick lv ks = lv2) (K : JL E Rp X pc lv2 st S) : JL E Rp X pc lv st S := by
  obtain ⟨p, e, R, s, m, args, below, meth, c, A, nL, k, n, Q⟩ := X
  intro G H locs ls hR hP hS hl
  exact K G H locs ls hR hP hS (lv_sub hl ks hs)
theorem j_st {st2 : List Value} (hs : st2 = st) (K : JL E Rp X pc lv st2 S) : JL E Rp X pc lv st S := hs ▸ K
theorem j_S {S2 : τ} (hs : S2 = S) (K : JL E Rp X pc lv st S2) : JL E Rp X pc lv st S := hs ▸ K
/-- what the world says of the state -/
theorem j_of {P : Prop} (hp : ∀ G, Rp S G → P) (K : P → JL E Rp X pc lv st S) : JL E Rp X pc lv st S := by
  obtain ⟨p, e, R, s, m, args, below, meth, c, A, nL, k, n, Q⟩ := X
  intro G H locs ls hR hP hS hl
  exact K (hp G hR) G H locs ls hR hP hS hl
/-- another picture of the same world -/
theorem j_re {τ2 : Type} {Rp2 : τ2 → GH → Prop} {S2 : τ2} (hp : ∀ G, Rp S G → Rp2 S2 G) (K : JL E Rp2 X pc lv st S2) : JL E Rp X pc lv st S := by
  obtain ⟨p, e, R, s, m, args, below, meth, c, A, nL, k, n, Q⟩ := X
  intro G H locs ls hR hP hS hl
  exact K G H locs ls (hp G hR) hP hS hl
/-- the world itself is the picture -/
theorem j_eq (K : ∀ G0, Rp S G0 → JL E (fun (G1 : GH) G => G1 = G) X pc lv st G0) : JL E Rp X pc lv st S := by
  obtain ⟨p, e, R, s, m, args, below, meth, c, A, nL, k, n, Q⟩ := X
  intro G H locs ls hR hP hS hl
  exact K G hR G H locs ls rfl hP hS hl

theorem j_iconst (h : CX E X cc own ret rm nL) {z : Int} (hd : decode cc pc = .ok (.iconst z, 1)) (K : JL E Rp X (pc + 1) lv (.int (iI z) :: rest) S) : JL E Rp X pc lv rest S := by
  obtain ⟨p, e, R, s, m, args, below, meth, c, A, nL', kk0, nn0, Q⟩ := X
  obtain ⟨hx, hb, hml, rfl, hown, hts, hK, hlk, hr, hrm, hA, hAi, hE, hk0, hn0, hXX⟩ := h
  intro G H locs ls hR hP hS hl
  exact lv_iconst hx hb hd rfl (K G H locs ls hR hP hS hl)
theorem j_bipush (h : CX E X cc own ret rm nL) {z : Int} (hd : decode cc pc = .ok (.bipush z, 2)) (hv : (Int8.ofInt z).toInt32 = iI z) (K : JL E Rp X (pc + 2) lv (.int (iI z) :: rest) S) : JL E Rp X pc lv rest S := by
  obtain ⟨p, e, R, s, m, args, below, meth, c, A, nL', kk0, nn0, Q⟩ := X
  obtain ⟨hx, hb, hml, rfl, hown, hts, hK, hlk, hr, hrm, hA, hAi, hE, hk0, hn0, hXX⟩ := h
  intro G H locs ls hR hP hS hl
  exact lv_bipush hx hb hd hv (K G H locs ls hR hP hS hl)
theorem j_sipush (h : CX E X cc own ret rm nL) {z : Int} (hd : decode cc pc = .ok (.sipush z, 3)) (hv : (Int16.ofInt z).toInt32 = iI z) (K : JL E Rp X (pc + 3) lv (.int (iI z) :: rest) S) : JL E Rp X pc lv rest S := by
  obtain ⟨p, e, R, s, m, args, below, meth, c, A, nL', kk0, nn0, Q⟩ := X
  obtain ⟨hx, hb, hml, rfl, hown, hts, hK, hlk, hr, hrm, hA, hAi, hE, hk0, hn0, hXX⟩ := h
  intro G H locs ls hR hP hS hl
  exact lv_sipush hx hb hd hv (K G H locs ls hR hP hS hl)
theorem j_ldc (h : CX E X cc own ret rm nL) (z : Int) {index : Nat} {v : Int32} (hw : Cond.constant own index v ∈ AW) (hv : v = iI z) (hd : decode cc pc = .ok (.ldc index, 2)) (K : JL E Rp X (pc + 2) lv (.int (iI z) :: rest) S) : JL E Rp X pc lv rest S := by
  obtain ⟨p, e, R, s, m, args, below, meth, c, A, nL', kk0, nn0, Q⟩ := X
  obtain ⟨hx, hb, hml, rfl, hown, hts, hK, hlk, hr, hrm, hA, hAi, hE, hk0, hn0, hXX⟩ := h
  intro G H locs ls hR hP hS hl
  exact W.ldc hx hb hown (hts _ (hv ▸ hw)) (g := F0 m pc ls rest) rfl hd (K G H locs ls hR hP hS hl)
theorem j_ldc2 (h : CX E X cc own ret rm nL) (z : Int) {index : Nat} {v : Int64} (hw : Cond.constantLong own index v ∈ AW) (hv : v = lI z) (hd : decode cc pc = .ok (.ldc2_w index, 3)) (K : JL E Rp X (pc + 3) lv (.long (lI z) :: rest) S) : JL E Rp X pc lv rest S := by
  obtain ⟨p, e, R, s, m, args, below, meth, c, A, nL', kk0, nn0, Q⟩ := X
  obtain ⟨hx, hb, hml, rfl, hown, hts, hK, hlk, hr, hrm, hA, hAi, hE, hk0, hn0, hXX⟩ := h
  intro G H locs ls hR hP hS hl
  exact W.ldc2 hx hb hown (hts _ (hv ▸ hw)) (g := F0 m pc ls rest) rfl hd (K G H locs ls hR hP hS hl)
theorem j_lconst (h : CX E X cc own ret rm nL) {q : Fin 2} (z : Int) (hd : decode cc pc = .ok (.lconst q, 1)) (hv : Int64.ofNat (q : Nat) = lI z) (K : JL E Rp X (pc + 1) lv (.long (lI z) :: rest) S) : JL E Rp X pc lv rest S := by
  obtain ⟨p, e, R, s, m, args, below, meth, c, A, nL', kk0, nn0, Q⟩ := X
  obtain ⟨hx, hb, hml, rfl, hown, hts, hK, hlk, hr, hrm, hA, hAi, hE, hk0, hn0, hXX⟩ := h
  intro G H locs ls hR hP hS hl
  exact lv_lconst hx hb hd hv (K G H locs ls hR hP hS hl)
theorem j_iload_n (h : CX E X cc own ret rm nL) {q : Fin 4} {i : Nat} {x : Int32} (j : Nat) (hd : decode cc pc = .ok (.iload_n q, 1)) (hi : (q : Nat) = i) (hk : lv[j]? = some (i, .int x)) (K : JL E Rp X (pc + 1) lv (.int x :: rest) S) : JL E Rp X pc lv rest S := by
  obtain ⟨p, e, R, s, m, args, below, meth, c, A, nL', kk0, nn0, Q⟩ := X
  obtain ⟨hx, hb, hml, rfl, hown, hts, hK, hlk, hr, hrm, hA, hAi, hE, hk0, hn0, hXX⟩ := h
  intro G H locs ls hR hP hS hl
  exact lv_iload_n hx hb hd hi (lv_at hl j hk) (K G H locs ls hR hP hS hl)
theorem j_iload (h : CX E X cc own ret rm nL) {i : Nat} {x : Int32} (j : Nat) (hd : decode cc pc = .ok (.iload i, 2)) (hk : lv[j]? = some (i, .int x)) (K : JL E Rp X (pc + 2) lv (.int x :: rest) S) : JL E Rp X pc lv rest S := by
  obtain ⟨p, e, R, s, m, args, below, meth, c, A, nL', kk0, nn0, Q⟩ := X
  obtain ⟨hx, hb, hml, rfl, hown, hts, hK, hlk, hr, hrm, hA, hAi, hE, hk0, hn0, hXX⟩ := h
  intro G H locs ls hR hP hS hl
  exact lv_iload hx hb hd (lv_at hl j hk) (K G H locs ls hR hP hS hl)
theorem j_lload_n (h : CX E X cc own ret rm nL) {q : Fin 4} {i : Nat} {x : Int64} (j : Nat) (hd : decode cc pc = .ok (.lload_n q, 1)) (hi : (q : Nat) = i) (hk : lv[j]? = some (i, .long x)) (K : JL E Rp X (pc + 1) lv (.long x :: rest) S) : JL E Rp X pc lv rest S := by
  obtain ⟨p, e, R, s, m, args, below, meth, c, A, nL', kk0, nn0, Q⟩ := X
  obtain ⟨hx, hb, hml, rfl, hown, hts, hK, hlk, hr, hrm, hA, hAi, hE, hk0, hn0, hXX⟩ := h
  intro G H locs ls hR hP hS hl
  exact lv_lload_n hx hb hd hi (lv_at hl j hk) (K G H locs ls hR hP hS hl)
theorem j_lload (h : CX E X cc own ret rm nL) {i : Nat} {x : Int64} (j : Nat) (hd : decode cc pc = .ok (.lload i, 2)) (hk : lv[j]? = some (i, .long x)) (K : JL E Rp X (pc + 2) lv (.long x :: rest) S) : JL E Rp X pc lv rest S := by
  obtain ⟨p, e, R, s, m, args, below, meth, c, A, nL', kk0, nn0, Q⟩ := X
  obtain ⟨hx, hb, hml, rfl, hown, hts, hK, hlk, hr, hrm, hA, hAi, hE, hk0, hn0, hXX⟩ := h
  intro G H locs ls hR hP hS hl
  exact lv_lload hx hb hd (lv_at hl j hk) (K G H locs ls hR hP hS hl)
theorem j_aload_n (h : CX E X cc own ret rm nL) {q : Fin 4} {i : Nat} {x : Nat} (j : Nat) (hd : decode cc pc = .ok (.aload_n q, 1)) (hi : (q : Nat) = i) (hk : lv[j]? = some (i, .ref x)) (K : JL E Rp X (pc + 1) lv (.ref x :: rest) S) : JL E Rp X pc lv rest S := by
  obtain ⟨p, e, R, s, m, args, below, meth, c, A, nL', kk0, nn0, Q⟩ := X
  obtain ⟨hx, hb, hml, rfl, hown, hts, hK, hlk, hr, hrm, hA, hAi, hE, hk0, hn0, hXX⟩ := h
  intro G H locs ls hR hP hS hl
  exact lv_aload_n hx hb hd hi (lv_at hl j hk) (K G H locs ls hR hP hS hl)
theorem j_aload (h : CX E X cc own ret rm nL) {i : Nat} {x : Nat} (j : Nat) (hd : decode cc pc = .ok (.aload i, 2)) (hk : lv[j]? = some (i, .ref x)) (K : JL E Rp X (pc + 2) lv (.ref x :: rest) S) : JL E Rp X pc lv rest S := by
  obtain ⟨p, e, R, s, m, args, below, meth, c, A, nL', kk0, nn0, Q⟩ := X
  obtain ⟨hx, hb, hml, rfl, hown, hts, hK, hlk, hr, hrm, hA, hAi, hE, hk0, hn0, hXX⟩ := h
  intro G H locs ls hR hP hS hl
  exact lv_aload hx hb hd (lv_at hl j hk) (K G H locs ls hR hP hS hl)
theorem j_istore_n (h : CX E X cc own ret rm nL) {q : Fin 4} {i : Nat} {x : Int32} (lv2 : List (Nat × Value)) (hd : decode cc pc = .ok (.istore_n q, 1)) (hi : (q : Nat) = i) (hn : i < nL) (hl2 : (i, Value.int x) :: lv.filter (fun q => !(q.1 == i) && !(q.1 + 1 == i && q.2.category == 2)) = lv2) (K : JL E Rp X (pc + 1) lv2 rest S) : JL E Rp X pc lv (.int x :: rest) S := by
  obtain ⟨p, e, R, s, m, args, below, meth, c, A, nL', kk0, nn0, Q⟩ := X
  obtain ⟨hx, hb, hml, rfl, hown, hts, hK, hlk, hr, hrm, hA, hAi, hE, hk0, hn0, hXX⟩ := h
  intro G H locs ls hR hP hS hl
  exact lv_istore_n hx hb hd hi hl hn hl2 (fun ls hl => K G H locs ls hR hP hS hl)
theorem j_istore (h : CX E X cc own ret rm nL) {i : Nat} {x : Int32} (lv2 : List (Nat × Value)) (hd : decode cc pc = .ok (.istore i, 2)) (hn : i < nL) (hl2 : (i, Value.int x) :: lv.filter (fun q => !(q.1 == i) && !(q.1 + 1 == i && q.2.category == 2)) = lv2) (K : JL E Rp X (pc + 2) lv2 rest S) : JL E Rp X pc lv (.int x :: rest) S := by
  obtain ⟨p, e, R, s, m, args, below, meth, c, A, nL', kk0, nn0, Q⟩ := X
  obtain ⟨hx, hb, hml, rfl, hown, hts, hK, hlk, hr, hrm, hA, hAi, hE, hk0, hn0, hXX⟩ := h
  intro G H locs ls hR hP hS hl
  exact lv_istore hx hb hd hl hn hl2 (fun ls hl => K G H locs ls hR hP hS hl)
theorem j_lstore_n (h : CX E X cc own ret rm nL) {q : Fin 4} {i : Nat} {x : Int64} (lv2 : List (Nat × Value)) (hd : decode cc pc = .ok (.lstore_n q, 1)) (hi : (q : Nat) = i) (hn : i + 1 < nL) (hl2 : (i, Value.long x) :: lv.filter (fun q => !(q.1 == i) && (!(q.1 == i + 1) && !(q.1 + 1 == i && q.2.category == 2))) = lv2) (K : JL E Rp X (pc + 1) lv2 rest S) : JL E Rp X pc lv (.long x :: rest) S := by
  obtain ⟨p, e, R, s, m, args, below, meth, c, A, nL', kk0, nn0, Q⟩ := X
  obtain ⟨hx, hb, hml, rfl, hown, hts, hK, hlk, hr, hrm, hA, hAi, hE, hk0, hn0, hXX⟩ := h
  intro G H locs ls hR hP hS hl
  exact lv_lstore_n hx hb hd hi hl hn hl2 (fun ls hl => K G H locs ls hR hP hS hl)
theorem j_lstore (h : CX E X cc own ret rm nL) {i : Nat} {x : Int64} (lv2 : List (Nat × Value)) (hd : decode cc pc = .ok (.lstore i, 2)) (hn : i + 1 < nL) (hl2 : (i, Value.long x) :: lv.filter (fun q => !(q.1 == i) && (!(q.1 == i + 1) && !(q.1 + 1 == i && q.2.category == 2))) = lv2) (K : JL E Rp X (pc + 2) lv2 rest S) : JL E Rp X pc lv (.long x :: rest) S := by
  obtain ⟨p, e, R, s, m, args, below, meth, c, A, nL', kk0, nn0, Q⟩ := X
  obtain ⟨hx, hb, hml, rfl, hown, hts, hK, hlk, hr, hrm, hA, hAi, hE, hk0, hn0, hXX⟩ := h
  intro G H locs ls hR hP hS hl
  exact lv_lstore hx hb hd hl hn hl2 (fun ls hl => K G H locs ls hR hP hS hl)
theorem j_astore_n (h : CX E X cc own ret rm nL) {q : Fin 4} {i : Nat} {x : Nat} (lv2 : List (Nat × Value)) (hd : decode cc pc = .ok (.astore_n q, 1)) (hi : (q : Nat) = i) (hn : i < nL) (hl2 : (i, Value.ref x) :: lv.filter (fun q => !(q.1 == i) && !(q.1 + 1 == i && q.2.category == 2)) = lv2) (K : JL E Rp X (pc + 1) lv2 rest S) : JL E Rp X pc lv (.ref x :: rest) S := by
  obtain ⟨p, e, R, s, m, args, below, meth, c, A, nL', kk0, nn0, Q⟩ := X
  obtain ⟨hx, hb, hml, rfl, hown, hts, hK, hlk, hr, hrm, hA, hAi, hE, hk0, hn0, hXX⟩ := h
  intro G H locs ls hR hP hS hl
  exact lv_astore_n hx hb hd hi hl hn hl2 (fun ls hl => K G H locs ls hR hP hS hl)
theorem j_astore (h : CX E X cc own ret rm nL) {i : Nat} {x : Nat} (lv2 : List (Nat × Value)) (hd : decode cc pc = .ok (.astore i, 2)) (hn : i < nL) (hl2 : (i, Value.ref x) :: lv.filter (fun q => !(q.1 == i) && !(q.1 + 1 == i && q.2.category == 2)) = lv2) (K : JL E Rp X (pc + 2) lv2 rest S) : JL E Rp X pc lv (.ref x :: rest) S := by
  obtain ⟨p, e, R, s, m, args, below, meth, c, A, nL', kk0, nn0, Q⟩ := X
  obtain ⟨hx, hb, hml, rfl, hown, hts, hK, hlk, hr, hrm, hA, hAi, hE, hk0, hn0, hXX⟩ := h
  intro G H locs ls hR hP hS hl
  exact lv_astore hx hb hd hl hn hl2 (fun ls hl => K G H locs ls hR hP hS hl)
theorem j_iinc (h : CX E X cc own ret rm nL) {i : Nat} {d a : Int} (j : Nat) (lv2 : List (Nat × Value)) (hd : decode cc pc = .ok (.iinc i d, 3)) (hk : lv[j]? = some (i, .int (iI a))) (hn : i < nL) (hl2 : (i, Value.int (iI (a + d))) :: lv.filter (fun q => !(q.1 == i) && !(q.1 + 1 == i && q.2.category == 2)) = lv2) (K : JL E Rp X (pc + 3) lv2 rest S) : JL E Rp X pc lv rest S := by
  obtain ⟨p, e, R, s, m, args, below, meth, c, A, nL', kk0, nn0, Q⟩ := X
  obtain ⟨hx, hb, hml, rfl, hown, hts, hK, hlk, hr, hrm, hA, hAi, hE, hk0, hn0, hXX⟩ := h
  intro G H locs ls hR hP hS hl
  exact lv_iinc (v := iI (a + d)) hx hb hd hl hk (iI_add a d) hn hl2 (fun ls hl => K G H locs ls hR hP hS hl)
theorem j_iadd (h : CX E X cc own ret rm nL) {a b : Int} (hd : decode cc pc = .ok (.iadd, 1)) (K : JL E Rp X (pc + 1) lv (.int (iI (a + b)) :: rest) S) : JL E Rp X pc lv (.int (iI b) :: .int (iI a) :: rest) S := by
  obtain ⟨p, e, R, s, m, args, below, meth, c, A, nL', kk0, nn0, Q⟩ := X
  obtain ⟨hx, hb, hml, rfl, hown, hts, hK, hlk, hr, hrm, hA, hAi, hE, hk0, hn0, hXX⟩ := h
  intro G H locs ls hR hP hS hl
  refine lv_iadd hx hb hd ?_
  rw [iI_add]
  exact K G H locs ls hR hP hS hl
theorem j_isub (h : CX E X cc own ret rm nL) {a b : Int} (hd : decode cc pc = .ok (.isub, 1)) (K : JL E Rp X (pc + 1) lv (.int (iI (a - b)) :: rest) S) : JL E Rp X pc lv (.int (iI b) :: .int (iI a) :: rest) S := by
  obtain ⟨p, e, R, s, m, args, below, meth, c, A, nL', kk0, nn0, Q⟩ := X
  obtain ⟨hx, hb, hml, rfl, hown, hts, hK, hlk, hr, hrm, hA, hAi, hE, hk0, hn0, hXX⟩ := h
  intro G H locs ls hR hP hS hl
  refine lv_isub hx hb hd ?_
  rw [iI_sub]
  exact K G H locs ls hR hP hS hl
theorem j_imul (h : CX E X cc own ret rm nL) {a b : Int} (hd : decode cc pc = .ok (.imul, 1)) (K : JL E Rp X (pc + 1) lv (.int (iI (a * b)) :: rest) S) : JL E Rp X pc lv (.int (iI b) :: .int (iI a) :: rest) S := by
  obtain ⟨p, e, R, s, m, args, below, meth, c, A, nL', kk0, nn0, Q⟩ := X
  obtain ⟨hx, hb, hml, rfl, hown, hts, hK, hlk, hr, hrm, hA, hAi, hE, hk0, hn0, hXX⟩ := h
  intro G H locs ls hR hP hS hl
  refine lv_imul hx hb hd ?_
  rw [iI_mul]
  exact K G H locs ls hR hP hS hl
theorem j_ladd (h : CX E X cc own ret rm nL) {a b : Int} (hd : decode cc pc = .ok (.ladd, 1)) (K : JL E Rp X (pc + 1) lv (.long (lI (a + b)) :: rest) S) : JL E Rp X pc lv (.long (lI b) :: .long (lI a) :: rest) S := by
  obtain ⟨p, e, R, s, m, args, below, meth, c, A, nL', kk0, nn0, Q⟩ := X
  obtain ⟨hx, hb, hml, rfl, hown, hts, hK, hlk, hr, hrm, hA, hAi, hE, hk0, hn0, hXX⟩ := h
  intro G H locs ls hR hP hS hl
  refine lv_ladd hx hb hd ?_
  rw [lI_add]
  exact K G H locs ls hR hP hS hl
theorem j_lmul (h : CX E X cc own ret rm nL) {a b : Int} (hd : decode cc pc = .ok (.lmul, 1)) (K : JL E Rp X (pc + 1) lv (.long (lI (a * b)) :: rest) S) : JL E Rp X pc lv (.long (lI b) :: .long (lI a) :: rest) S := by
  obtain ⟨p, e, R, s, m, args, below, meth, c, A, nL', kk0, nn0, Q⟩ := X
  obtain ⟨hx, hb, hml, rfl, hown, hts, hK, hlk, hr, hrm, hA, hAi, hE, hk0, hn0, hXX⟩ := h
  intro G H locs ls hR hP hS hl
  refine lv_lmul hx hb hd ?_
  rw [lI_mul]
  exact K G H locs ls hR hP hS hl
theorem j_ineg (h : CX E X cc own ret rm nL) {a : Int} (hd : decode cc pc = .ok (.ineg, 1)) (K : JL E Rp X (pc + 1) lv (.int (iI (-a)) :: rest) S) : JL E Rp X pc lv (.int (iI a) :: rest) S := by
  obtain ⟨p, e, R, s, m, args, below, meth, c, A, nL', kk0, nn0, Q⟩ := X
  obtain ⟨hx, hb, hml, rfl, hown, hts, hK, hlk, hr, hrm, hA, hAi, hE, hk0, hn0, hXX⟩ := h
  intro G H locs ls hR hP hS hl
  refine lv_ineg hx hb hd ?_
  rw [iI_neg]
  exact K G H locs ls hR hP hS hl
theorem j_iand (h : CX E X cc own ret rm nL) {x y : Int32} (v : Int32) (hd : decode cc pc = .ok (.iand, 1)) (hv : (x &&& y) = v) (K : JL E Rp X (pc + 1) lv (.int v :: rest) S) : JL E Rp X pc lv (.int y :: .int x :: rest) S := by
  obtain ⟨p, e, R, s, m, args, below, meth, c, A, nL', kk0, nn0, Q⟩ := X
  obtain ⟨hx, hb, hml, rfl, hown, hts, hK, hlk, hr, hrm, hA, hAi, hE, hk0, hn0, hXX⟩ := h
  intro G H locs ls hR hP hS hl
  subst hv
  exact lv_iand hx hb hd (K G H locs ls hR hP hS hl)
theorem j_ixor (h : CX E X cc own ret rm nL) {x y : Int32} (v : Int32) (hd : decode cc pc = .ok (.ixor, 1)) (hv : (x ^^^ y) = v) (K : JL E Rp X (pc + 1) lv (.int v :: rest) S) : JL E Rp X pc lv (.int y :: .int x :: rest) S := by
  obtain ⟨p, e, R, s, m, args, below, meth, c, A, nL', kk0, nn0, Q⟩ := X
  obtain ⟨hx, hb, hml, rfl, hown, hts, hK, hlk, hr, hrm, hA, hAi, hE, hk0, hn0, hXX⟩ := h
  intro G H locs ls hR hP hS hl
  subst hv
  exact lv_ixor hx hb hd (K G H locs ls hR hP hS hl)
theorem j_land (h : CX E X cc own ret rm nL) {x y : Int64} (v : Int64) (hd : decode cc pc = .ok (.land, 1)) (hv : (x &&& y) = v) (K : JL E Rp X (pc + 1) lv (.long v :: rest) S) : JL E Rp X pc lv (.long y :: .long x :: rest) S := by
  obtain ⟨p, e, R, s, m, args, below, meth, c, A, nL', kk0, nn0, Q⟩ := X
  obtain ⟨hx, hb, hml, rfl, hown, hts, hK, hlk, hr, hrm, hA, hAi, hE, hk0, hn0, hXX⟩ := h
  intro G H locs ls hR hP hS hl
  subst hv
  exact lv_land hx hb hd (K G H locs ls hR hP hS hl)
theorem j_lor (h : CX E X cc own ret rm nL) {x y : Int64} (v : Int64) (hd : decode cc pc = .ok (.lor, 1)) (hv : (x ||| y) = v) (K : JL E Rp X (pc + 1) lv (.long v :: rest) S) : JL E Rp X pc lv (.long y :: .long x :: rest) S := by
  obtain ⟨p, e, R, s, m, args, below, meth, c, A, nL', kk0, nn0, Q⟩ := X
  obtain ⟨hx, hb, hml, rfl, hown, hts, hK, hlk, hr, hrm, hA, hAi, hE, hk0, hn0, hXX⟩ := h
  intro G H locs ls hR hP hS hl
  subst hv
  exact lv_lor hx hb hd (K G H locs ls hR hP hS hl)
theorem j_irem (h : CX E X cc own ret rm nL) {x y : Int32} (v : Int32) (hd : decode cc pc = .ok (.irem, 1)) (hne : ¬ y = 0) (hv : (x - x / y * y) = v) (K : JL E Rp X (pc + 1) lv (.int v :: rest) S) : JL E Rp X pc lv (.int y :: .int x :: rest) S := by
  obtain ⟨p, e, R, s, m, args, below, meth, c, A, nL', kk0, nn0, Q⟩ := X
  obtain ⟨hx, hb, hml, rfl, hown, hts, hK, hlk, hr, hrm, hA, hAi, hE, hk0, hn0, hXX⟩ := h
  intro G H locs ls hR hP hS hl
  subst hv
  exact lv_irem hx hb hd hne (K G H locs ls hR hP hS hl)
theorem j_ldiv (h : CX E X cc own ret rm nL) {x y : Int64} (v : Int64) (hd : decode cc pc = .ok (.ldiv, 1)) (hne : ¬ y = 0) (hv : (x / y) = v) (K : JL E Rp X (pc + 1) lv (.long v :: rest) S) : JL E Rp X pc lv (.long y :: .long x :: rest) S := by
  obtain ⟨p, e, R, s, m, args, below, meth, c, A, nL', kk0, nn0, Q⟩ := X
  obtain ⟨hx, hb, hml, rfl, hown, hts, hK, hlk, hr, hrm, hA, hAi, hE, hk0, hn0, hXX⟩ := h
  intro G H locs ls hR hP hS hl
  subst hv
  exact lv_ldiv hx hb hd hne (K G H locs ls hR hP hS hl)
theorem j_lrem (h : CX E X cc own ret rm nL) {x y : Int64} (v : Int64) (hd : decode cc pc = .ok (.lrem, 1)) (hne : ¬ y = 0) (hv : (x - x / y * y) = v) (K : JL E Rp X (pc + 1) lv (.long v :: rest) S) : JL E Rp X pc lv (.long y :: .long x :: rest) S := by
  obtain ⟨p, e, R, s, m, args, below, meth, c, A, nL', kk0, nn0, Q⟩ := X
  obtain ⟨hx, hb, hml, rfl, hown, hts, hK, hlk, hr, hrm, hA, hAi, hE, hk0, hn0, hXX⟩ := h
  intro G H locs ls hR hP hS hl
  subst hv
  exact lv_lrem hx hb hd hne (K G H locs ls hR hP hS hl)
theorem j_lushr (h : CX E X cc own ret rm nL) {x : Int64} {y : Int32} (v : Int64) (hd : decode cc pc = .ok (.lushr, 1)) (hv : (x.toUInt64 >>> (y.toInt64.toUInt64 &&& Int64.toUInt64 63)).toInt64 = v) (K : JL E Rp X (pc + 1) lv (.long v :: rest) S) : JL E Rp X pc lv (.int y :: .long x :: rest) S := by
  obtain ⟨p, e, R, s, m, args, below, meth, c, A, nL', kk0, nn0, Q⟩ := X
  obtain ⟨hx, hb, hml, rfl, hown, hts, hK, hlk, hr, hrm, hA, hAi, hE, hk0, hn0, hXX⟩ := h
  intro G H locs ls hR hP hS hl
  exact lv_lushr hx hb hd hv (K G H locs ls hR hP hS hl)
theorem j_lshl (h : CX E X cc own ret rm nL) {x : Int64} {y : Int32} (v : Int64) (hd : decode cc pc = .ok (.lshl, 1)) (hv : x <<< (y.toInt64 &&& 63) = v) (K : JL E Rp X (pc + 1) lv (.long v :: rest) S) : JL E Rp X pc lv (.int y :: .long x :: rest) S := by
  obtain ⟨p, e, R, s, m, args, below, meth, c, A, nL', kk0, nn0, Q⟩ := X
  obtain ⟨hx, hb, hml, rfl, hown, hts, hK, hlk, hr, hrm, hA, hAi, hE, hk0, hn0, hXX⟩ := h
  intro G H locs ls hR hP hS hl
  exact lv_lshl hx hb hd hv (K G H locs ls hR hP hS hl)
theorem j_lshr (h : CX E X cc own ret rm nL) {x : Int64} {y : Int32} (v : Int64) (hd : decode cc pc = .ok (.lshr, 1)) (hv : x >>> (y.toInt64 &&& 63) = v) (K : JL E Rp X (pc + 1) lv (.long v :: rest) S) : JL E Rp X pc lv (.int y :: .long x :: rest) S := by
  obtain ⟨p, e, R, s, m, args, below, meth, c, A, nL', kk0, nn0, Q⟩ := X
  obtain ⟨hx, hb, hml, rfl, hown, hts, hK, hlk, hr, hrm, hA, hAi, hE, hk0, hn0, hXX⟩ := h
  intro G H locs ls hR hP hS hl
  exact lv_lshr hx hb hd hv (K G H locs ls hR hP hS hl)
theorem j_i2l (h : CX E X cc own ret rm nL) {x : Int32} (v : Int64) (hd : decode cc pc = .ok (.i2l, 1)) (hv : x.toInt64 = v) (K : JL E Rp X (pc + 1) lv (.long v :: rest) S) : JL E Rp X pc lv (.int x :: rest) S := by
  obtain ⟨p, e, R, s, m, args, below, meth, c, A, nL', kk0, nn0, Q⟩ := X
  obtain ⟨hx, hb, hml, rfl, hown, hts, hK, hlk, hr, hrm, hA, hAi, hE, hk0, hn0, hXX⟩ := h
  intro G H locs ls hR hP hS hl
  exact lv_i2l hx hb hd hv (K G H locs ls hR hP hS hl)
theorem j_l2i (h : CX E X cc own ret rm nL) {x : Int64} (v : Int32) (hd : decode cc pc = .ok (.l2i, 1)) (hv : x.toInt32 = v) (K : JL E Rp X (pc + 1) lv (.int v :: rest) S) : JL E Rp X pc lv (.long x :: rest) S := by
  obtain ⟨p, e, R, s, m, args, below, meth, c, A, nL', kk0, nn0, Q⟩ := X
  obtain ⟨hx, hb, hml, rfl, hown, hts, hK, hlk, hr, hrm, hA, hAi, hE, hk0, hn0, hXX⟩ := h
  intro G H locs ls hR hP hS hl
  exact lv_l2i hx hb hd hv (K G H locs ls hR hP hS hl)
theorem j_i2c (h : CX E X cc own ret rm nL) {x : Int32} (v : Int32) (hd : decode cc pc = .ok (.i2c, 1)) (hv : (x.toUInt32 % 65536).toInt32 = v) (K : JL E Rp X (pc + 1) lv (.int v :: rest) S) : JL E Rp X pc lv (.int x :: rest) S := by
  obtain ⟨p, e, R, s, m, args, below, meth, c, A, nL', kk0, nn0, Q⟩ := X
  obtain ⟨hx, hb, hml, rfl, hown, hts, hK, hlk, hr, hrm, hA, hAi, hE, hk0, hn0, hXX⟩ := h
  intro G H locs ls hR hP hS hl
  exact lv_i2c hx hb hd hv (K G H locs ls hR hP hS hl)
theorem j_lcmp (h : CX E X cc own ret rm nL) {x y : Int64} (v : Int32) (hd : decode cc pc = .ok (.lcmp, 1)) (hv : lg_cmp x y = v) (K : JL E Rp X (pc + 1) lv (.int v :: rest) S) : JL E Rp X pc lv (.long y :: .long x :: rest) S := by
  obtain ⟨p, e, R, s, m, args, below, meth, c, A, nL', kk0, nn0, Q⟩ := X
  obtain ⟨hx, hb, hml, rfl, hown, hts, hK, hlk, hr, hrm, hA, hAi, hE, hk0, hn0, hXX⟩ := h
  intro G H locs ls hR hP hS hl
  subst hv
  exact W.lcmp hx hb hd (K G H locs ls hR hP hS hl)
theorem j_dup (h : CX E X cc own ret rm nL) {v : Value} (hd : decode cc pc = .ok (.dup, 1)) (hc : v.category = 1) (K : JL E Rp X (pc + 1) lv (v :: v :: rest) S) : JL E Rp X pc lv (v :: rest) S := by
  obtain ⟨p, e, R, s, m, args, below, meth, c, A, nL', kk0, nn0, Q⟩ := X
  obtain ⟨hx, hb, hml, rfl, hown, hts, hK, hlk, hr, hrm, hA, hAi, hE, hk0, hn0, hXX⟩ := h
  intro G H locs ls hR hP hS hl
  exact lv_dup hx hb hd hc (K G H locs ls hR hP hS hl)
/-- the int on top by another name -/
theorem j_top {x y : Int32} (e : x = y) (K : JL E Rp X pc lv (.int y :: rest) S) : JL E Rp X pc lv (.int x :: rest) S := e ▸ K
theorem j_topL {x y : Int64} (e : x = y) (K : JL E Rp X pc lv (.long y :: rest) S) : JL E Rp X pc lv (.long x :: rest) S := e ▸ K
theorem j_icmp_eq (h : CX E X cc own ret rm nL) {a b : Int} {off : Int} (tgt : Nat) (hd : decode cc pc = .ok (.if_icmp .eq off, 3)) (ht : (pc : Int) + off = (tgt : Int)) (ha : okI a) (hb2 : okI b) (kt : a = b → JL E Rp X tgt lv rest S) (kf : ¬ a = b → JL E Rp X (pc + 3) lv rest S) : JL E Rp X pc lv (.int (iI b) :: .int (iI a) :: rest) S := by
  obtain ⟨p, e, R, s, m, args, below, meth, c, A, nL', kk0, nn0, Q⟩ := X
  obtain ⟨hx, hb, hml, rfl, hown, hts, hK, hlk, hr, hrm, hA, hAi, hE, hk0, hn0, hXX⟩ := h
  intro G H locs ls hR hP hS hl
  exact lv_icmp_eq hx hb hd ht (fun c => kt ((iI_inj ha hb2).mp c) G H locs ls hR hP hS hl) (fun c => kf (fun q => c ((iI_inj ha hb2).mpr q)) G H locs ls hR hP hS hl)
theorem j_if_eq (h : CX E X cc own ret rm nL) {a : Int} {off : Int} (tgt : Nat) (hd : decode cc pc = .ok (.ifCond .eq off, 3)) (ht : (pc : Int) + off = (tgt : Int)) (ha : okI a) (kt : a = 0 → JL E Rp X tgt lv rest S) (kf : ¬ a = 0 → JL E Rp X (pc + 3) lv rest S) : JL E Rp X pc lv (.int (iI a) :: rest) S := by
  obtain ⟨p, e, R, s, m, args, below, meth, c, A, nL', kk0, nn0, Q⟩ := X
  obtain ⟨hx, hb, hml, rfl, hown, hts, hK, hlk, hr, hrm, hA, hAi, hE, hk0, hn0, hXX⟩ := h
  intro G H locs ls hR hP hS hl
  have z0 : okI 0 := ⟨by decide, by decide⟩
  exact lv_if_eq hx hb hd ht (fun c => kt ((iI_inj ha z0).mp c) G H locs ls hR hP hS hl) (fun c => kf (fun q => c ((iI_inj ha z0).mpr q)) G H locs ls hR hP hS hl)
theorem j_icmp_ne (h : CX E X cc own ret rm nL) {a b : Int} {off : Int} (tgt : Nat) (hd : decode cc pc = .ok (.if_icmp .ne off, 3)) (ht : (pc : Int) + off = (tgt : Int)) (ha : okI a) (hb2 : okI b) (kt : ¬ a = b → JL E Rp X tgt lv rest S) (kf : a = b → JL E Rp X (pc + 3) lv rest S) : JL E Rp X pc lv (.int (iI b) :: .int (iI a) :: rest) S := by
  obtain ⟨p, e, R, s, m, args, below, meth, c, A, nL', kk0, nn0, Q⟩ := X
  obtain ⟨hx, hb, hml, rfl, hown, hts, hK, hlk, hr, hrm, hA, hAi, hE, hk0, hn0, hXX⟩ := h
  intro G H locs ls hR hP hS hl
  exact lv_icmp_ne hx hb hd ht (fun c => kt (fun q => c ((iI_inj ha hb2).mpr q)) G H locs ls hR hP hS hl) (fun c => kf ((iI_inj ha hb2).mp c) G H locs ls hR hP hS hl)
theorem j_if_ne (h : CX E X cc own ret rm nL) {a : Int} {off : Int} (tgt : Nat) (hd : decode cc pc = .ok (.ifCond .ne off, 3)) (ht : (pc : Int) + off = (tgt : Int)) (ha : okI a) (kt : ¬ a = 0 → JL E Rp X tgt lv rest S) (kf : a = 0 → JL E Rp X (pc + 3) lv rest S) : JL E Rp X pc lv (.int (iI a) :: rest) S := by
  obtain ⟨p, e, R, s, m, args, below, meth, c, A, nL', kk0, nn0, Q⟩ := X
  obtain ⟨hx, hb, hml, rfl, hown, hts, hK, hlk, hr, hrm, hA, hAi, hE, hk0, hn0, hXX⟩ := h
  intro G H locs ls hR hP hS hl
  have z0 : okI 0 := ⟨by decide, by decide⟩
  exact lv_if_ne hx hb hd ht (fun c => kt (fun q => c ((iI_inj ha z0).mpr q)) G H locs ls hR hP hS hl) (fun c => kf ((iI_inj ha z0).mp c) G H locs ls hR hP hS hl)
theorem j_icmp_lt (h : CX E X cc own ret rm nL) {a b : Int} {off : Int} (tgt : Nat) (hd : decode cc pc = .ok (.if_icmp .lt off, 3)) (ht : (pc : Int) + off = (tgt : Int)) (ha : okI a) (hb2 : okI b) (kt : a < b → JL E Rp X tgt lv rest S) (kf : b ≤ a → JL E Rp X (pc + 3) lv rest S) : JL E Rp X pc lv (.int (iI b) :: .int (iI a) :: rest) S := by
  obtain ⟨p, e, R, s, m, args, below, meth, c, A, nL', kk0, nn0, Q⟩ := X
  obtain ⟨hx, hb, hml, rfl, hown, hts, hK, hlk, hr, hrm, hA, hAi, hE, hk0, hn0, hXX⟩ := h
  intro G H locs ls hR hP hS hl
  exact lv_icmp_lt hx hb hd ht (fun c => kt ((iI_lt ha hb2).mp c) G H locs ls hR hP hS hl) (fun c => kf (Int.not_lt.mp fun q => c ((iI_lt ha hb2).mpr q)) G H locs ls hR hP hS hl)
theorem j_if_lt (h : CX E X cc own ret rm nL) {a : Int} {off : Int} (tgt : Nat) (hd : decode cc pc = .ok (.ifCond .lt off, 3)) (ht : (pc : Int) + off = (tgt : Int)) (ha : okI a) (kt : a < 0 → JL E Rp X tgt lv rest S) (kf : 0 ≤ a → JL E Rp X (pc + 3) lv rest S) : JL E Rp X pc lv (.int (iI a) :: rest) S := by
  obtain ⟨p, e, R, s, m, args, below, meth, c, A, nL', kk0, nn0, Q⟩ := X
  obtain ⟨hx, hb, hml, rfl, hown, hts, hK, hlk, hr, hrm, hA, hAi, hE, hk0, hn0, hXX⟩ := h
  intro G H locs ls hR hP hS hl
  have z0 : okI 0 := ⟨by decide, by decide⟩
  exact lv_if_lt hx hb hd ht (fun c => kt ((iI_lt ha z0).mp c) G H locs ls hR hP hS hl) (fun c => kf (Int.not_lt.mp fun q => c ((iI_lt ha z0).mpr q)) G H locs ls hR hP hS hl)
theorem j_icmp_ge (h : CX E X cc own ret rm nL) {a b : Int} {off : Int} (tgt : Nat) (hd : decode cc pc = .ok (.if_icmp .ge off, 3)) (ht : (pc : Int) + off = (tgt : Int)) (ha : okI a) (hb2 : okI b) (kt : b ≤ a → JL E Rp X tgt lv rest S) (kf : a < b → JL E Rp X (pc + 3) lv rest S) : JL E Rp X pc lv (.int (iI b) :: .int (iI a) :: rest) S := by
  obtain ⟨p, e, R, s, m, args, below, meth, c, A, nL', kk0, nn0, Q⟩ := X
  obtain ⟨hx, hb, hml, rfl, hown, hts, hK, hlk, hr, hrm, hA, hAi, hE, hk0, hn0, hXX⟩ := h
  intro G H locs ls hR hP hS hl
  exact lv_icmp_ge hx hb hd ht (fun c => kt ((iI_le hb2 ha).mp c) G H locs ls hR hP hS hl) (fun c => kf (Int.not_le.mp fun q => c ((iI_le hb2 ha).mpr q)) G H locs ls hR hP hS hl)
theorem j_if_ge (h : CX E X cc own ret rm nL) {a : Int} {off : Int} (tgt : Nat) (hd : decode cc pc = .ok (.ifCond .ge off, 3)) (ht : (pc : Int) + off = (tgt : Int)) (ha : okI a) (kt : 0 ≤ a → JL E Rp X tgt lv rest S) (kf : a < 0 → JL E Rp X (pc + 3) lv rest S) : JL E Rp X pc lv (.int (iI a) :: rest) S := by
  obtain ⟨p, e, R, s, m, args, below, meth, c, A, nL', kk0, nn0, Q⟩ := X
  obtain ⟨hx, hb, hml, rfl, hown, hts, hK, hlk, hr, hrm, hA, hAi, hE, hk0, hn0, hXX⟩ := h
  intro G H locs ls hR hP hS hl
  have z0 : okI 0 := ⟨by decide, by decide⟩
  exact lv_if_ge hx hb hd ht (fun c => kt ((iI_le z0 ha).mp c) G H locs ls hR hP hS hl) (fun c => kf (Int.not_le.mp fun q => c ((iI_le z0 ha).mpr q)) G H locs ls hR hP hS hl)
theorem j_icmp_gt (h : CX E X cc own ret rm nL) {a b : Int} {off : Int} (tgt : Nat) (hd : decode cc pc = .ok (.if_icmp .gt off, 3)) (ht : (pc : Int) + off = (tgt : Int)) (ha : okI a) (hb2 : okI b) (kt : b < a → JL E Rp X tgt lv rest S) (kf : a ≤ b → JL E Rp X (pc + 3) lv rest S) : JL E Rp X pc lv (.int (iI b) :: .int (iI a) :: rest) S := by
  obtain ⟨p, e, R, s, m, args, below, meth, c, A, nL', kk0, nn0, Q⟩ := X
  obtain ⟨hx, hb, hml, rfl, hown, hts, hK, hlk, hr, hrm, hA, hAi, hE, hk0, hn0, hXX⟩ := h
  intro G H locs ls hR hP hS hl
  exact lv_icmp_gt hx hb hd ht (fun c => kt ((iI_lt hb2 ha).mp c) G H locs ls hR hP hS hl) (fun c => kf (Int.not_lt.mp fun q => c ((iI_lt hb2 ha).mpr q)) G H locs ls hR hP hS hl)
theorem j_if_gt (h : CX E X cc own ret rm nL) {a : Int} {off : Int} (tgt : Nat) (hd : decode cc pc = .ok (.ifCond .gt off, 3)) (ht : (pc : Int) + off = (tgt : Int)) (ha : okI a) (kt : 0 < a → JL E Rp X tgt lv rest S) (kf : a ≤ 0 → JL E Rp X (pc + 3) lv rest S) : JL E Rp X pc lv (.int (iI a) :: rest) S := by
  obtain ⟨p, e, R, s, m, args, below, meth, c, A, nL', kk0, nn0, Q⟩ := X
  obtain ⟨hx, hb, hml, rfl, hown, hts, hK, hlk, hr, hrm, hA, hAi, hE, hk0, hn0, hXX⟩ := h
  intro G H locs ls hR hP hS hl
  have z0 : okI 0 := ⟨by decide, by decide⟩
  exact lv_if_gt hx hb hd ht (fun c => kt ((iI_lt z0 ha).mp c) G H locs ls hR hP hS hl) (fun c => kf (Int.not_lt.mp fun q => c ((iI_lt z0 ha).mpr q)) G H locs ls hR hP hS hl)
theorem j_icmp_le (h : CX E X cc own ret rm nL) {a b : Int} {off : Int} (tgt : Nat) (hd : decode cc pc = .ok (.if_icmp .le off, 3)) (ht : (pc : Int) + off = (tgt : Int)) (ha : okI a) (hb2 : okI b) (kt : a ≤ b → JL E Rp X tgt lv rest S) (kf : b < a → JL E Rp X (pc + 3) lv rest S) : JL E Rp X pc lv (.int (iI b) :: .int (iI a) :: rest) S := by
  obtain ⟨p, e, R, s, m, args, below, meth, c, A, nL', kk0, nn0, Q⟩ := X
  obtain ⟨hx, hb, hml, rfl, hown, hts, hK, hlk, hr, hrm, hA, hAi, hE, hk0, hn0, hXX⟩ := h
  intro G H locs ls hR hP hS hl
  exact lv_icmp_le hx hb hd ht (fun c => kt ((iI_le ha hb2).mp c) G H locs ls hR hP hS hl) (fun c => kf (Int.not_le.mp fun q => c ((iI_le ha hb2).mpr q)) G H locs ls hR hP hS hl)
theorem j_if_le (h : CX E X cc own ret rm nL) {a : Int} {off : Int} (tgt : Nat) (hd : decode cc pc = .ok (.ifCond .le off, 3)) (ht : (pc : Int) + off = (tgt : Int)) (ha : okI a) (kt : a ≤ 0 → JL E Rp X tgt lv rest S) (kf : 0 < a → JL E Rp X (pc + 3) lv rest S) : JL E Rp X pc lv (.int (iI a) :: rest) S := by
  obtain ⟨p, e, R, s, m, args, below, meth, c, A, nL', kk0, nn0, Q⟩ := X
  obtain ⟨hx, hb, hml, rfl, hown, hts, hK, hlk, hr, hrm, hA, hAi, hE, hk0, hn0, hXX⟩ := h
  intro G H locs ls hR hP hS hl
  have z0 : okI 0 := ⟨by decide, by decide⟩
  exact lv_if_le hx hb hd ht (fun c => kt ((iI_le ha z0).mp c) G H locs ls hR hP hS hl) (fun c => kf (Int.not_le.mp fun q => c ((iI_le ha z0).mpr q)) G H locs ls hR hP hS hl)
theorem j_rcmp_eq (h : CX E X cc own ret rm nL) {x y : Int32} {off : Int} (tgt : Nat) (hd : decode cc pc = .ok (.if_icmp .eq off, 3)) (ht : (pc : Int) + off = (tgt : Int)) (kt : x = y → JL E Rp X tgt lv rest S) (kf : ¬ x = y → JL E Rp X (pc + 3) lv rest S) : JL E Rp X pc lv (.int y :: .int x :: rest) S := by
  obtain ⟨p, e, R, s, m, args, below, meth, c, A, nL', kk0, nn0, Q⟩ := X
  obtain ⟨hx, hb, hml, rfl, hown, hts, hK, hlk, hr, hrm, hA, hAi, hE, hk0, hn0, hXX⟩ := h
  intro G H locs ls hR hP hS hl
  exact lv_icmp_eq hx hb hd ht (fun c => kt c G H locs ls hR hP hS hl) (fun c => kf c G H locs ls hR hP hS hl)
theorem j_rif_eq (h : CX E X cc own ret rm nL) {x : Int32} {off : Int} (tgt : Nat) (hd : decode cc pc = .ok (.ifCond .eq off, 3)) (ht : (pc : Int) + off = (tgt : Int)) (kt : x = 0 → JL E Rp X tgt lv rest S) (kf : ¬ x = 0 → JL E Rp X (pc + 3) lv rest S) : JL E Rp X pc lv (.int x :: rest) S := by
  obtain ⟨p, e, R, s, m, args, below, meth, c, A, nL', kk0, nn0, Q⟩ := X
  obtain ⟨hx, hb, hml, rfl, hown, hts, hK, hlk, hr, hrm, hA, hAi, hE, hk0, hn0, hXX⟩ := h
  intro G H locs ls hR hP hS hl
  exact lv_if_eq hx hb hd ht (fun c => kt c G H locs ls hR hP hS hl) (fun c => kf c G H locs ls hR hP hS hl)
theorem j_rcmp_ne (h : CX E X cc own ret rm nL) {x y : Int32} {off : Int} (tgt : Nat) (hd : decode cc pc = .ok (.if_icmp .ne off, 3)) (ht : (pc : Int) + off = (tgt : Int)) (kt : ¬ x = y → JL E Rp X tgt lv rest S) (kf : x = y → JL E Rp X (pc + 3) lv rest S) : JL E Rp X pc lv (.int y :: .int x :: rest) S := by
  obtain ⟨p, e, R, s, m, args, below, meth, c, A, nL', kk0, nn0, Q⟩ := X
  obtain ⟨hx, hb, hml, rfl, hown, hts, hK, hlk, hr, hrm, hA, hAi, hE, hk0, hn0, hXX⟩ := h
  intro G H locs ls hR hP hS hl
  exact lv_icmp_ne hx hb hd ht (fun c => kt c G H locs ls hR hP hS hl) (fun c => kf c G H locs ls hR hP hS hl)
theorem j_rif_ne (h : CX E X cc own ret rm nL) {x : Int32} {off : Int} (tgt : Nat) (hd : decode cc pc = .ok (.ifCond .ne off, 3)) (ht : (pc : Int) + off = (tgt : Int)) (kt : ¬ x = 0 → JL E Rp X tgt lv rest S) (kf : x = 0 → JL E Rp X (pc + 3) lv rest S) : JL E Rp X pc lv (.int x :: rest) S := by
  obtain ⟨p, e, R, s, m, args, below, meth, c, A, nL', kk0, nn0, Q⟩ := X
  obtain ⟨hx, hb, hml, rfl, hown, hts, hK, hlk, hr, hrm, hA, hAi, hE, hk0, hn0, hXX⟩ := h
  intro G H locs ls hR hP hS hl
  exact lv_if_ne hx hb hd ht (fun c => kt c G H locs ls hR hP hS hl) (fun c => kf c G H locs ls hR hP hS hl)
theorem j_goto (h : CX E X cc own ret rm nL) {off : Int} (tgt : Nat) (hd : decode cc pc = .ok (.goto off, 3)) (ht : (pc : Int) + off = (tgt : Int)) (K : JL E Rp X tgt lv rest S) : JL E Rp X pc lv rest S := by
  obtain ⟨p, e, R, s, m, args, below, meth, c, A, nL', kk0, nn0, Q⟩ := X
  obtain ⟨hx, hb, hml, rfl, hown, hts, hK, hlk, hr, hrm, hA, hAi, hE, hk0, hn0, hXX⟩ := h
  intro G H locs ls hR hP hS hl
  exact lv_goto hx hb hd ht (K G H locs ls hR hP hS hl)
theorem j_get (h : CX E X cc own ret rm nL) {ref C : String} {T : u_T} {N ci index i : Nat} {fs : List Value} {v : Value} (f : Nat) (hin : ∀ w ∈ u_ws C T N, w ∈ AW) (hc : vwCl[ci]? = some (C, T, N)) (hf : f < N) (hw : Cond.fieldLink own index ref (T f).2.1 (T f).2.2.1 ∈ AW) (href : (T f).1 = ref) (hi : i < 89) (hg : ∀ G, Rp S G → G i = .inr (ci, fs)) (hv : fs[f]? = some v) (hd : decode cc pc = .ok (.getfield index, 3)) (K : JL E Rp X (pc + 3) lv (v :: rest) S) : JL E Rp X pc lv (eA E i :: rest) S := by
  obtain ⟨p, e, R, s, m, args, below, meth, c, A, nL', kk0, nn0, Q⟩ := X
  obtain ⟨hx, hb, hml, rfl, hown, hts, hK, hlk, hr, hrm, hA, hAi, hE, hk0, hn0, hXX⟩ := h
  intro G H locs ls hR hP hS hl
  exact va_get hx hb hts hin hown hK hP i (wl_get' hi (hg G hR)) hc f hf (hts _ hw) (fun x q => by rw [← href]; exact q) hv hd (K G H locs ls hR hP hS hl)
theorem j_getN (h : CX E X cc own ret rm nL) {ref C host : String} {T : u_T} {N ci index i : Nat} {fs : List Value} {v : Value} (f : Nat) (hin : ∀ w ∈ u_ws C T N, w ∈ AW) (hc : vwCl[ci]? = some (C, T, N)) (hf : f < N) (hw : Cond.fieldLinkNest own index ref (T f).2.1 (T f).2.2.1 host ∈ nwl) (href : (T f).1 = ref) (hi : i < 89) (hg : ∀ G, Rp S G → G i = .inr (ci, fs)) (hv : fs[f]? = some v) (hd : decode cc pc = .ok (.getfield index, 3)) (K : JL E Rp X (pc + 3) lv (v :: rest) S) : JL E Rp X pc lv (eA E i :: rest) S := by
  obtain ⟨p, e, R, s, m, args, below, meth, c, A, nL', kk0, nn0, Q⟩ := X
  obtain ⟨hx, hb, hml, rfl, hown, hts, hK, hlk, hr, hrm, hA, hAi, hE, hk0, hn0, hXX⟩ := h
  intro G H locs ls hR hP hS hl
  exact va_getN hx hb hts hin hown hK hP i (wl_get' hi (hg G hR)) hc f hf (va_Nw.use rfl (hE.2.2.2.2.2 A s s.heap hXX _ hw)) (fun x q => by rw [← href]; exact q) hv hd (K G H locs ls hR hP hS hl)
theorem j_put (h : CX E X cc own ret rm nL) {ref C : String} {T : u_T} {N ci index i : Nat} {fs : List Value} {v : Value} {ty : FieldType} {S' : τ} (f : Nat) (hin : ∀ w ∈ u_ws C T N, w ∈ AW) (ty0 : Nat → FieldType) (hty : ∀ k, k < N → parseFieldDescriptor (T k).2.2.1 = some (ty0 k)) (hnm : ∀ a, a < N → ∀ b, b < N → a ≠ b → (T a).2.1 ≠ (T b).2.1) (hc : vwCl[ci]? = some (C, T, N)) (hf : f < N) (hw : Cond.fieldLink own index ref (T f).2.1 (T f).2.2.1 ∈ AW) (href : (T f).1 = ref) (hfin : (T f).2.2.2 = false) (hty1 : ty0 f = ty) (hn : narrow ty v = v) (hfit : fits ty v = true) (hi : i < 89) (hg : ∀ G, Rp S G → G i = .inr (ci, fs) ∧ Rp S' (va_up G i (.inr (ci, fs.set f v)))) (hfl : f < fs.length) (hd : decode cc pc = .ok (.putfield index, 3)) (K : JL E Rp X (pc + 3) lv rest S') : JL E Rp X pc lv (v :: eA E i :: rest) S := by
  obtain ⟨p, e, R, s, m, args, below, meth, c, A, nL', kk0, nn0, Q⟩ := X
  obtain ⟨hx, hb, hml, rfl, hown, hts, hK, hlk, hr, hrm, hA, hAi, hE, hk0, hn0, hXX⟩ := h
  intro G H locs ls hR hP hS hl
  have hD : va_D A (wl E.2.2.1 G) := wl_D hE.1 hAi
  refine va_put hx hb hts hin ty0 hty hnm hown hK hP hD hS i (wl_get' hi (hg G hR).1) hc f hf (hts _ hw) (fun x q => by rw [← href]; exact q) hfin (by rw [hty f hf, hty1]) hn hfit hfl hd (fun H1 locs1 hP1 hD1 hS1 => ?_)
  rw [wl_set] at hP1
  exact K _ H1 locs1 ls (hg G hR).2 hP1 hS1 hl
/-! arrays: of ints, of references -/
theorem j_iald (h : CX E X cc own ret rm nL) {i : Nat} {z : Int} (x : Int32) (hi : i < 89) (hz : 0 ≤ z ∧ z < 2147483648) (hg : ∀ G, Rp S G → ∃ (len : Nat) (f : Nat → Int32), G i = .inl (eI E, len, .inl f) ∧ z < len ∧ f z.toNat = x) (hd : decode cc pc = .ok (.iaload, 1)) (K : JL E Rp X (pc + 1) lv (.int x :: rest) S) : JL E Rp X pc lv (.int (iI z) :: eA E i :: rest) S := by
  obtain ⟨p, e, R, s, m, args, below, meth, c, A, nL', kk0, nn0, Q⟩ := X
  obtain ⟨hx, hb, hml, rfl, hown, hts, hK, hlk, hr, hrm, hA, hAi, hE, hk0, hn0, hXX⟩ := h
  intro G H locs ls hR hP hS hl
  obtain ⟨len, f, hGi, hlt, hf⟩ := hg G hR
  refine va_iald hx hb hK hP i 0 (wl_get' hi hGi) rfl (iI_in hz.1 hlt hz.2) hd ?_
  rw [iI_clamp hz.1 hz.2, hf]
  exact K G H locs ls hR hP hS hl
theorem j_iast (h : CX E X cc own ret rm nL) {i : Nat} {z : Int} {x : Int32} {S' : τ} (hi : i < 89) (hz : 0 ≤ z ∧ z < 2147483648) (hg : ∀ G, Rp S G → ∃ (len : Nat) (f : Nat → Int32), G i = .inl (eI E, len, .inl f) ∧ z < len ∧ Rp S' (va_up G i (.inl (eI E, len, .inl (upd f z.toNat x))))) (hd : decode cc pc = .ok (.iastore, 1)) (K : JL E Rp X (pc + 1) lv rest S') : JL E Rp X pc lv (.int x :: .int (iI z) :: eA E i :: rest) S := by
  obtain ⟨p, e, R, s, m, args, below, meth, c, A, nL', kk0, nn0, Q⟩ := X
  obtain ⟨hx, hb, hml, rfl, hown, hts, hK, hlk, hr, hrm, hA, hAi, hE, hk0, hn0, hXX⟩ := h
  intro G H locs ls hR hP hS hl
  obtain ⟨len, f, hGi, hlt, hR'⟩ := hg G hR
  have hD : va_D A (wl E.2.2.1 G) := wl_D hE.1 hAi
  refine va_iast hx hb hK hP hD hS i 0 (wl_get' hi hGi) rfl (iI_in hz.1 hlt hz.2) hd (fun H1 locs1 hP1 hD1 hS1 => ?_)
  rw [wl_set, iI_clamp hz.1 hz.2] at hP1
  exact K _ H1 locs1 ls hR' hP1 hS1 hl
theorem j_aald (h : CX E X cc own ret rm nL) {i : Nat} {z : Int} (j t0 : Nat) {cA : ClassId} {C : String} (hi : i < 89) (hz : 0 ≤ z ∧ z < 2147483648) (ht : (tysE E)[t0]? = some (cA, .object C)) (hg : ∀ G, Rp S G → ∃ (len : Nat) (f : Nat → Option Nat), G i = .inl (cA, len, .inr (.inr (.inr (.inr f)))) ∧ z < len ∧ f z.toNat = some (E.2.2.1 j)) (hd : decode cc pc = .ok (.aaload, 1)) (K : JL E Rp X (pc + 1) lv (eA E j :: rest) S) : JL E Rp X pc lv (.int (iI z) :: eA E i :: rest) S := by
  obtain ⟨p, e, R, s, m, args, below, meth, c, A, nL', kk0, nn0, Q⟩ := X
  obtain ⟨hx, hb, hml, rfl, hown, hts, hK, hlk, hr, hrm, hA, hAi, hE, hk0, hn0, hXX⟩ := h
  intro G H locs ls hR hP hS hl
  obtain ⟨len, f, hGi, hlt, hf⟩ := hg G hR
  refine va_aldq hx hb hK hP i t0 (wl_get' hi hGi) ht (iI_in hz.1 hlt hz.2) hd ?_
  rw [iI_clamp hz.1 hz.2, hf]
  exact K G H locs ls hR hP hS hl
theorem j_aast (h : CX E X cc own ret rm nL) {i j : Nat} {z : Int} {S' : τ} (t0 ci : Nat) {cA : ClassId} {q : vw_C} (hi : i < 89) (hj : j < 89) (hz : 0 ≤ z ∧ z < 2147483648) (ht : (tysE E)[t0]? = some (cA, .object q.1)) (hc : vwCl[ci]? = some q) (hg : ∀ G, Rp S G → ∃ (len : Nat) (f : Nat → Option Nat) (vs : List Value), G i = .inl (cA, len, .inr (.inr (.inr (.inr f)))) ∧ z < len ∧ G j = .inr (ci, vs) ∧ Rp S' (va_up G i (.inl (cA, len, .inr (.inr (.inr (.inr (va_up f z.toNat (some (E.2.2.1 j)))))))))) (hd : decode cc pc = .ok (.aastore, 1)) (K : JL E Rp X (pc + 1) lv rest S') : JL E Rp X pc lv (eA E j :: .int (iI z) :: eA E i :: rest) S := by
  obtain ⟨p, e, R, s, m, args, below, meth, c, A, nL', kk0, nn0, Q⟩ := X
  obtain ⟨hx, hb, hml, rfl, hown, hts, hK, hlk, hr, hrm, hA, hAi, hE, hk0, hn0, hXX⟩ := h
  intro G H locs ls hR hP hS hl
  obtain ⟨len, f, vs, hGi, hlt, hGj, hR'⟩ := hg G hR
  have hD : va_D A (wl E.2.2.1 G) := wl_D hE.1 hAi
  refine va_astq hx hb hK hP hD hS i t0 j ci (wl_get' hi hGi) ht (wl_get' hj hGj) hc (iI_in hz.1 hlt hz.2) hd (fun H1 locs1 hP1 hD1 hS1 => ?_)
  rw [wl_set, iI_clamp hz.1 hz.2] at hP1
  exact K _ H1 locs1 ls hR' hP1 hS1 hl
theorem j_alen (h : CX E X cc own ret rm nL) {i : Nat} (len : Nat) (hi : i < 89) (hg : ∀ G, Rp S G → ∃ f : Nat → Int32, G i = .inl (eI E, len, .inl f)) (hd : decode cc pc = .ok (.arraylength, 1)) (K : JL E Rp X (pc + 1) lv (.int (iI (len : Int)) :: rest) S) : JL E Rp X pc lv (eA E i :: rest) S := by
  obtain ⟨p, e, R, s, m, args, below, meth, c, A, nL', kk0, nn0, Q⟩ := X
  obtain ⟨hx, hb, hml, rfl, hown, hts, hK, hlk, hr, hrm, hA, hAi, hE, hk0, hn0, hXX⟩ := h
  intro G H locs ls hR hP hS hl
  obtain ⟨f, hGi⟩ := hg G hR
  exact va_alen (ty := .int) hx hb hK hP i 0 (wl_get' hi hGi) rfl (iI_nat len) hd (K G H locs ls hR hP hS hl)

theorem j_iret (h : CX E X cc own (some .int) rm nL) {v : Int32} {o : Option Value} (hq : Fn E Rp X o S) (ho : o = some (.int v)) (hd : decode cc pc = .ok (.ireturn, 1)) : JL E Rp X pc lv [.int v] S := by
  subst ho
  obtain ⟨p, e, R, s, m, args, below, meth, c, A, nL', kk0, nn0, Q⟩ := X
  obtain ⟨hx, hb, hml, rfl, hown, hts, hK, hlk, hr, hrm, hA, hAi, hE, hk0, hn0, hXX⟩ := h
  obtain ⟨Qc, free, rfl, hfr, hend⟩ := hq
  intro G H locs ls hR hP hS hl
  exact W.iret hx hb hr (fun t ht hW => hend G t hR (by rw [ht]; exact hP) (hS.F ht)) (fun q hq => hfr _ (hS.2.2 q hq)) hd hlk
theorem j_lret (h : CX E X cc own (some .long) rm nL) {v : Int64} {o : Option Value} (hq : Fn E Rp X o S) (ho : o = some (.long v)) (hd : decode cc pc = .ok (.lreturn, 1)) : JL E Rp X pc lv [.long v] S := by
  subst ho
  obtain ⟨p, e, R, s, m, args, below, meth, c, A, nL', kk0, nn0, Q⟩ := X
  obtain ⟨hx, hb, hml, rfl, hown, hts, hK, hlk, hr, hrm, hA, hAi, hE, hk0, hn0, hXX⟩ := h
  obtain ⟨Qc, free, rfl, hfr, hend⟩ := hq
  intro G H locs ls hR hP hS hl
  exact W.lret hx hb hr (fun t ht hW => hend G t hR (by rw [ht]; exact hP) (hS.F ht)) (fun q hq => hfr _ (hS.2.2 q hq)) hd hlk
theorem j_zret (h : CX E X cc own (some .boolean) rm nL) {v : Int32} {o : Option Value} (hq : Fn E Rp X o S) (ho : o = some (.int v)) (hn : narrow .boolean (.int v) = .int v) (hd : decode cc pc = .ok (.ireturn, 1)) : JL E Rp X pc lv [.int v] S := by
  subst ho
  obtain ⟨p, e, R, s, m, args, below, meth, c, A, nL', kk0, nn0, Q⟩ := X
  obtain ⟨hx, hb, hml, rfl, hown, hts, hK, hlk, hr, hrm, hA, hAi, hE, hk0, hn0, hXX⟩ := h
  obtain ⟨Qc, free, rfl, hfr, hend⟩ := hq
  intro G H locs ls hR hP hS hl
  exact W.zret hx hb hr hn (fun t ht hW => hend G t hR (by rw [ht]; exact hP) (hS.F ht)) (fun q hq => hfr _ (hS.2.2 q hq)) hd hlk
theorem j_vret (h : CX E X cc own none rm nL) {o : Option Value} (hq : Fn E Rp X o S) (ho : o = none) (hd : decode cc pc = .ok (.return_, 1)) : JL E Rp X pc lv [] S := by
  subst ho
  obtain ⟨p, e, R, s, m, args, below, meth, c, A, nL', kk0, nn0, Q⟩ := X
  obtain ⟨hx, hb, hml, rfl, hown, hts, hK, hlk, hr, hrm, hA, hAi, hE, hk0, hn0, hXX⟩ := h
  obtain ⟨Qc, free, rfl, hfr, hend⟩ := hq
  intro G H locs ls hR hP hS hl
  exact W.vret hx hb hr (fun t ht hW => hend G t hR (by rw [ht]; exact hP) (hS.F ht)) (fun q hq => hfr _ (hS.2.2 q hq)) hd hlk
theorem j_aret {C0 : String} (h : CX E X cc own (some (.object C0)) rm nL) {a : Nat} {o : Option Value} (hq : Fn E Rp X o S) (ho : o = some (.ref a)) (hd : decode cc pc = .ok (.areturn, 1)) : JL E Rp X pc lv [.ref a] S := by
  subst ho
  obtain ⟨p, e, R, s, m, args, below, meth, c, A, nL', kk0, nn0, Q⟩ := X
  obtain ⟨hx, hb, hml, rfl, hown, hts, hK, hlk, hr, hrm, hA, hAi, hE, hk0, hn0, hXX⟩ := h
  obtain ⟨Qc, free, rfl, hfr, hend⟩ := hq
  intro G H locs ls hR hP hS hl
  exact W.aret hx hb hr (Or.inl ⟨C0, rfl⟩) (Or.inr ⟨a, rfl⟩) (fun t ht hW => hend G t hR (by rw [ht]; exact hP) (hS.F ht)) (fun q hq => hfr _ (hS.2.2 q hq)) hd hlk
theorem ex_call {s U : State} {H : Heap} {A : Nat → Prop} {locs : List Loc} (hE : EOK E) (hA : ∀ q, s.heap.size ≤ q → A q) (hAi : ∀ i, i < 89 → A (E.2.2.1 i)) (hS : va_S A s.heap H locs) (hX : eX E A s s.heap) (hU : U.heap = H) (hW : s.WarmedH U.vm) : eX E (AE E H.size) U U.heap := by
  rw [hU]
  refine hE.2.2.2.2.1 A _ U H (hE.2.1 A s U H (hE.2.2.2.1 A s s.heap H hX hS.2.1) hW) (fun q hq => ?_)
  rcases hq with ⟨i, h1, rfl⟩ | h1
  · exact hAi i h1
  · exact hA q (Nat.le_trans hS.1 h1)
/-- behind a call that met its contract -/
theorem j_ran (h : CX E X cc own ret rm nL) {a : Array Value} {ls0 : Array Slot} {st0 : List Value} {v : Option Value} {S' : τ} {H0 : Heap} {locs0 : List Loc}
    (run : match X with | (p, e, R, s, m, args, below, meth, c, A, nL, k, n, Q) => va_S A s.heap H0 locs0 ∧ lv_has ls0 nL lv ∧ va_Run p E.1 e R s m args below meth c H0 locs0 k n 0 0 (F0 m pc ls0 st0) rest ((fun _ st o t => (o = .returned v ∧ ∃ G, Rp S' G ∧ va_P E.2.1 vwCl (wl E.2.2.1 G) t.heap) ∧ va_F (AE E H0.size) st t) a) (AE E H0.size))
    (K : JL E Rp X (pc + 3) lv (v.toList ++ rest) S') : match X with | (p, e, R, s, m, args, below, meth, c, A, nL, k, n, Q) => W p E.1 e R s m args below meth c H0 locs0 k n Q (F0 m pc ls0 st0) := by
  obtain ⟨p, e, R, s, m, args, below, meth, c, A, nL', kk0, nn0, Q⟩ := X
  obtain ⟨hx, hb, hml, rfl, hown, hts, hK, hlk, hr, hrm, hA, hAi, hE, hk0, hn0, hXX⟩ := h
  obtain ⟨hS, hl, run⟩ := run
  intro T hT Y
  obtain ⟨v', st₀, t, T', L, h0, Y', hL, e1, e2, ⟨⟨hv, G, hR, hP⟩, hz, hkeep⟩, stp⟩ := run T hT Y
  cases hv
  rw [h0] at hz hkeep
  have sub : ∀ q, AE E H0.size q → A q := fun q hq => by
    rcases hq with ⟨i, h1, rfl⟩ | h1
    · exact hAi i h1
    · exact hA q (Nat.le_trans hS.1 h1)
  have hS' : va_S A s.heap T'.heap (locs0 ++ L) := ⟨Nat.le_trans hS.1 (by rw [e1]; exact hz), fun q h1 h2 => by rw [e1, hkeep q (Nat.lt_of_lt_of_le h1 hS.1) (fun z => h2 (sub q z))]; exact hS.2.1 q h1 h2, fun q hq => by
    rcases List.mem_append.mp hq with h | h
    · exact hS.2.2 q h
    · exact sub _ (hL q h)⟩
  obtain ⟨t2, a1, b1⟩ := K G T'.heap (locs0 ++ L) ls0 hR (by rw [e1]; exact hP) hS' hl T' rfl Y'
  exact ⟨t2, stp t2 a1, b1⟩
theorem ct_blind (hE0 : EOK E) {av : List Value} {sz : Nat} : FrameBlind (va_Pc av (fun U => U.heap.size = sz ∧ (∃ G, Rp S G ∧ va_P E.2.1 vwCl (wl E.2.2.1 G) U.heap) ∧ va_K E.2.1 vwCl (tysE E) U ∧ eX E (AE E sz) U U.heap)) :=
  fun a U g mk q => ⟨q.1, q.2.1, q.2.2.1, va_K.moved (u := U) (U := U.calling g mk a) (Vm.Alike.refl U.vm) q.2.2.2.1, hE0.2.2.1 _ U (U.calling g mk a) _ q.2.2.2.2 rfl⟩
theorem gi_V {C : String} {index maxL nn : Nat} {y : MethodName} {bytes : ByteArray} {rt : Option FieldType} (mw : MWv y C bytes maxL rt nn) (hli : Cond.methodLink own index y ∈ AW) : GoodIn AW (wsV own index C y (Cond.code y bytes maxL rt :: AW)) := gi_aw fun w hw => by
  obtain ⟨h1, h2, h3, h4, -⟩ := mw
  unfold wsV at hw
  simp only [List.cons_append, List.nil_append, List.mem_cons] at hw
  rcases hw with rfl | rfl | rfl | rfl | rfl | hw <;> assumption
theorem gi_S {index maxL nn : Nat} {y : MethodName} {bytes : ByteArray} {rt : Option FieldType} (mw : MWs y bytes maxL rt nn) (hli : Cond.methodLink own index y ∈ AW) : GoodIn AW (va_wsS own index y (Cond.code y bytes maxL rt :: AW)) := gi_aw fun w hw => by
  obtain ⟨h1, h2, h3, -⟩ := mw
  unfold va_wsS at hw
  simp only [List.cons_append, List.nil_append, List.mem_cons] at hw
  rcases hw with rfl | rfl | rfl | rfl | hw <;> assumption
theorem j_callV0 (h : CX E X cc own ret rm nL) {C : String} {T : u_T} {N : Nat} {ci : Nat} {index i maxL nn : Nat} {y : MethodName} {bytes : ByteArray} {rt : Option FieldType} {rmc : Room} {As : List Value} {S' : τ} {v : Option Value} (hM : Ct E Rp y (Cond.code y bytes maxL rt :: AW) rmc (eA E i :: As) S v S') (mw : MWv y C bytes maxL rt nn) (hli : Cond.methodLink own index y ∈ AW) (hrc : rmc.cells = 0) (hrs : rmc.slots = 0) (hroom : rmc.frames + 1 ≤ rm.frames ∧ 8 + (maxL + 11) + rmc.locals ≤ rm.locals) (hc : vwCl[ci]? = some (C, T, N)) (hi : i < 89) (hg : ∀ G, Rp S G → ∃ fs, G i = .inr (ci, fs)) (hlen : As.length = nn) (hst : st = As.reverse ++ eA E i :: rest) (hcat : (rest.map fun v => v.category).sum ≤ 8) (hd : decode cc pc = .ok (.invokevirtual index, 3)) (K : JL E Rp X (pc + 3) lv (v.toList ++ rest) S') : JL E Rp X pc lv st S := by
  subst hst
  have h' := h
  obtain ⟨p, e, R, s, m, args, below, meth, c, A, nL', kk0, nn0, Q⟩ := X
  obtain ⟨hx, hb, hml, rfl, hown, hts, hK, hlk, hr, hrm, hA, hAi, hE, hk0, hn0, hXX⟩ := h
  intro G H locs ls hR hP hS hl
  obtain ⟨fs, hGi⟩ := hg G hR
  subst hrm
  exact j_ran h' (a := (eA E i :: As).toArray) ⟨hS, hl, va_runV (As := As) (rest := rest) ⟨hx, hb, hml, hown, hts⟩ (hM H.size) (cwV nn hts (gi_V mw hli) rfl hrc hrs mw.2.2.2.2 hroom) ⟨ct_blind hE, va_recv hK hP hc (wl_get' hi hGi), fun U hU hW => ⟨rfl, by rw [hU], ⟨G, hR, by rw [hU]; exact hP⟩, va_K.moved hW.alike hK, ex_call hE hA hAi hS hXX hU hW⟩⟩ rfl hlen hl.1 rfl (lv_room hcat) hd ⟨hk0, hn0⟩⟩ K
theorem j_callV (h : CX E X cc own ret rm nL) {C : String} {T : u_T} {N : Nat} {ci : Nat} {index i maxL nn : Nat} {y : MethodName} {bytes : ByteArray} {rt : Option FieldType} {rmc : Room} {As : List Value} {S' : τ} {v : Value} (hM : Ct E Rp y (Cond.code y bytes maxL rt :: AW) rmc (eA E i :: As) S (some v) S') (mw : MWv y C bytes maxL rt nn) (hli : Cond.methodLink own index y ∈ AW) (hrc : rmc.cells = 0) (hrs : rmc.slots = 0) (hroom : rmc.frames + 1 ≤ rm.frames ∧ 8 + (maxL + 11) + rmc.locals ≤ rm.locals) (hc : vwCl[ci]? = some (C, T, N)) (hi : i < 89) (hg : ∀ G, Rp S G → ∃ fs, G i = .inr (ci, fs)) (hlen : As.length = nn) (hst : st = As.reverse ++ eA E i :: rest) (hcat : (rest.map fun v => v.category).sum ≤ 8) (hd : decode cc pc = .ok (.invokevirtual index, 3)) (K : JL E Rp X (pc + 3) lv (v :: rest) S') : JL E Rp X pc lv st S := 
  j_callV0 h hM mw hli hrc hrs hroom hc hi hg hlen hst hcat hd K
theorem j_callVv (h : CX E X cc own ret rm nL) {C : String} {T : u_T} {N : Nat} {ci : Nat} {index i maxL nn : Nat} {y : MethodName} {bytes : ByteArray} {rt : Option FieldType} {rmc : Room} {As : List Value} {S' : τ} (hM : Ct E Rp y (Cond.code y bytes maxL rt :: AW) rmc (eA E i :: As) S none S') (mw : MWv y C bytes maxL rt nn) (hli : Cond.methodLink own index y ∈ AW) (hrc : rmc.cells = 0) (hrs : rmc.slots = 0) (hroom : rmc.frames + 1 ≤ rm.frames ∧ 8 + (maxL + 11) + rmc.locals ≤ rm.locals) (hc : vwCl[ci]? = some (C, T, N)) (hi : i < 89) (hg : ∀ G, Rp S G → ∃ fs, G i = .inr (ci, fs)) (hlen : As.length = nn) (hst : st = As.reverse ++ eA E i :: rest) (hcat : (rest.map fun v => v.category).sum ≤ 8) (hd : decode cc pc = .ok (.invokevirtual index, 3)) (K : JL E Rp X (pc + 3) lv rest S') : JL E Rp X pc lv st S := 
  j_callV0 h hM mw hli hrc hrs hroom hc hi hg hlen hst hcat hd K
theorem j_callS0 (h : CX E X cc own ret rm nL) {index maxL nn : Nat} {y : MethodName} {bytes : ByteArray} {rt : Option FieldType} {rmc : Room} {As : List Value} {S' : τ} {v : Option Value} (hM : Ct E Rp y (Cond.code y bytes maxL rt :: AW) rmc As S v S') (mw : MWs y bytes maxL rt nn) (hli : Cond.methodLink own index y ∈ AW) (hrc : rmc.cells = 0) (hrs : rmc.slots = 0) (hroom : rmc.frames + 1 ≤ rm.frames ∧ 8 + (maxL + 11) + rmc.locals ≤ rm.locals) (hlen : As.length = nn) (hst : st = As.reverse ++ rest) (hcat : (rest.map fun v => v.category).sum ≤ 8) (hd : decode cc pc = .ok (.invokestatic index, 3)) (K : JL E Rp X (pc + 3) lv (v.toList ++ rest) S') : JL E Rp X pc lv st S := by
  subst hst
  have h' := h
  obtain ⟨p, e, R, s, m, args, below, meth, c, A, nL', kk0, nn0, Q⟩ := X
  obtain ⟨hx, hb, hml, rfl, hown, hts, hK, hlk, hr, hrm, hA, hAi, hE, hk0, hn0, hXX⟩ := h
  intro G H locs ls hR hP hS hl
  subst hrm
  exact j_ran h' (a := As.toArray) ⟨hS, hl, va_runS (As := As) (rest := rest) ⟨hx, hb, hml, hown, hts⟩ (hM H.size) (va_cwS nn hts (gi_S mw hli) rfl hrc hrs mw.2.2.2 hroom) ⟨ct_blind hE, fun U hU hW => ⟨rfl, by rw [hU], ⟨G, hR, by rw [hU]; exact hP⟩, va_K.moved hW.alike hK, ex_call hE hA hAi hS hXX hU hW⟩⟩ rfl hlen hl.1 rfl (lv_room hcat) hd ⟨hk0, hn0⟩⟩ K
theorem j_callS (h : CX E X cc own ret rm nL) {index maxL nn : Nat} {y : MethodName} {bytes : ByteArray} {rt : Option FieldType} {rmc : Room} {As : List Value} {S' : τ} {v : Value} (hM : Ct E Rp y (Cond.code y bytes maxL rt :: AW) rmc As S (some v) S') (mw : MWs y bytes maxL rt nn) (hli : Cond.methodLink own index y ∈ AW) (hrc : rmc.cells = 0) (hrs : rmc.slots = 0) (hroom : rmc.frames + 1 ≤ rm.frames ∧ 8 + (maxL + 11) + rmc.locals ≤ rm.locals) (hlen : As.length = nn) (hst : st = As.reverse ++ rest) (hcat : (rest.map fun v => v.category).sum ≤ 8) (hd : decode cc pc = .ok (.invokestatic index, 3)) (K : JL E Rp X (pc + 3) lv (v :: rest) S') : JL E Rp X pc lv st S := 
  j_callS0 h hM mw hli hrc hrs hroom hlen hst hcat hd K
theorem j_callSv (h : CX E X cc own ret rm nL) {index maxL nn : Nat} {y : MethodName} {bytes : ByteArray} {rt : Option FieldType} {rmc : Room} {As : List Value} {S' : τ} (hM : Ct E Rp y (Cond.code y bytes maxL rt :: AW) rmc As S none S') (mw : MWs y bytes maxL rt nn) (hli : Cond.methodLink own index y ∈ AW) (hrc : rmc.cells = 0) (hrs : rmc.slots = 0) (hroom : rmc.frames + 1 ≤ rm.frames ∧ 8 + (maxL + 11) + rmc.locals ≤ rm.locals) (hlen : As.length = nn) (hst : st = As.reverse ++ rest) (hcat : (rest.map fun v => v.category).sum ≤ 8) (hd : decode cc pc = .ok (.invokestatic index, 3)) (K : JL E Rp X (pc + 3) lv rest S') : JL E Rp X pc lv st S := 
  j_callS0 h hM mw hli hrc hrs hroom hlen hst hcat hd K

theorem j_callN (h : CX E X cc own ret rm nL) {index maxL nn : Nat} {host : String} {y : MethodName} {bytes : ByteArray} {rt : Option FieldType} {rmc : Room} {As : List Value} {v : Value} {S' : τ} (hM : Ct E Rp y (Cond.code y bytes maxL rt :: AW) rmc As S (some v) S') (mw : MWs y bytes maxL rt nn) (hnw : Cond.methodLinkNest own index y host ∈ nwl) (hrc : rmc.cells = 0) (hrs : rmc.slots = 0) (hroom : rmc.frames + 1 ≤ rm.frames ∧ 8 + (maxL + 11) + rmc.locals ≤ rm.locals) (hlen : As.length = nn) (hst : st = As.reverse ++ rest) (hcat : (rest.map fun v => v.category).sum ≤ 8) (hd : decode cc pc = .ok (.invokestatic index, 3)) (K : JL E Rp X (pc + 3) lv (v :: rest) S') : JL E Rp X pc lv st S := by
  subst hst
  have h' := h
  obtain ⟨p, e, R, s, m, args, below, meth, c, A, nL', kk0, nn0, Q⟩ := X
  obtain ⟨hx, hb, hml, rfl, hown, hts, hK, hlk, hr, hrm, hA, hAi, hE, hk0, hn0, hXX⟩ := h
  intro G H locs ls hR hP hS hl
  subst hrm
  exact j_ran h' (a := As.toArray) ⟨hS, hl, va_runSN (As := As) (rest := rest) ⟨hx, hb, hml, hown, hts⟩ (hM H.size) ⟨va_cnB nn hts (gi_aw (aw_cons mw.2.2.1)) rfl hrc hrs (hE.2.2.2.2.2 A s s.heap hXX _ hnw) (hts _ mw.2.1) mw.2.2.2 hroom, hts _ mw.1, trivial⟩ ⟨ct_blind hE, fun U hU hW => ⟨rfl, by rw [hU], ⟨G, hR, by rw [hU]; exact hP⟩, va_K.moved hW.alike hK, ex_call hE hA hAi hS hXX hU hW⟩⟩ rfl hlen hl.1 rfl (lv_room hcat) hd ⟨hk0, hn0⟩⟩ K

end JR
end
section
/-! the class's state: 30 texts by number (8 * i + j: text j of image i as made; 24 made, 25 twice, 26 + p: all of pieces p), which of them the shelves now are, and the ends of the pieces of 4 Pieces. Places: 0.. texts, 30.. their rows, 60 images, 63 rows of texts, 66 pieces, 70 rows of ends, 74 the object, 75 its row of kept images; 76.. the reference's -/
abbrev SC : Type := (Nat → List Int32) × (Nat → Nat) × (Nat → List Nat)
def cap (t : Nat) : Nat := if t = 24 then 600 else if t = 25 then 600 else 300
theorem cap_le (t : Nat) : cap t ≤ 600 := by unfold cap; split <;> (try split) <;> omega
theorem cap_ge (t : Nat) : 300 ≤ cap t := by unfold cap; split <;> (try split) <;> omega
def txi (S : SC) (i j : Nat) : Nat := if i = 0 then S.2.1 j else 8 * i + j
def setT (S : SC) (t : Nat) (xs : List Int32) : SC := (va_up S.1 t xs, S.2.1, S.2.2)
def setE (S : SC) (p : Nat) (es : List Nat) : SC := (S.1, S.2.1, va_up S.2.2 p es)
def setX (S : SC) (f : Nat → Nat) : SC := (S.1, f, S.2.2)
theorem setT_1s (S : SC) (t : Nat) (xs : List Int32) : (setT S t xs).1 t = xs := va_up_self _ _ _
theorem setT_1n (S : SC) {t u : Nat} (xs : List Int32) (h : u ≠ t) : (setT S t xs).1 u = S.1 u := va_up_ne _ _ h
theorem setT_2 (S : SC) (t : Nat) (xs : List Int32) : (setT S t xs).2 = S.2 := rfl
theorem setE_1 (S : SC) (p : Nat) (es : List Nat) : (setE S p es).1 = S.1 := rfl
theorem setE_x (S : SC) (p : Nat) (es : List Nat) : (setE S p es).2.1 = S.2.1 := rfl
theorem setE_2s (S : SC) (p : Nat) (es : List Nat) : (setE S p es).2.2 p = es := va_up_self _ _ _
theorem setE_2n (S : SC) {p q : Nat} (es : List Nat) (h : q ≠ p) : (setE S p es).2.2 q = S.2.2 q := va_up_ne _ _ h
theorem up_up {α : Type} (f : Nat → α) (k : Nat) (v w : α) : va_up (va_up f k v) k w = va_up f k w := by
  funext j; by_cases h : j = k <;> simp [va_up, h]
theorem up_id {α : Type} (f : Nat → α) (k : Nat) : va_up f k (f k) = f := by
  funext j; by_cases h : j = k <;> simp [va_up, h]
theorem up_com {α : Type} (f : Nat → α) {k l : Nat} (v w : α) (h : k ≠ l) : va_up (va_up f k v) l w = va_up (va_up f l w) k v := by
  funext j
  by_cases h1 : j = k
  · subst h1; simp [va_up, h]
  · by_cases h2 : j = l
    · subst h2; simp [va_up, h1]
    · simp [va_up, h1, h2]
theorem setT_T (S : SC) (t : Nat) (xs ys : List Int32) : setT (setT S t xs) t ys = setT S t ys := by simp [setT, up_up]
theorem setT_id (S : SC) (t : Nat) : setT S t (S.1 t) = S := by simp [setT, up_id]
theorem setE_E (S : SC) (p : Nat) (es fs : List Nat) : setE (setE S p es) p fs = setE S p fs := by simp [setE, up_up]
theorem setE_T (S : SC) (p t : Nat) (es : List Nat) (xs : List Int32) : setE (setT S t xs) p es = setT (setE S p es) t xs := rfl
/-- text t as the heap has it -/
def tOK (E : EV) (G : GH) (t : Nat) (xs : List Int32) : Prop := G t = .inr (2, [eA E (30 + t), .int (iI xs.length)]) ∧ xs.length ≤ cap t ∧ ∃ f : Nat → Int32, G (30 + t) = .inl (eI E, cap t, .inl f) ∧ ∀ j, j < xs.length → f j = xs.getD j 0
def pOK (E : EV) (G : GH) (p : Nat) (es : List Nat) : Prop := G (66 + p) = .inr (1, [eA E (26 + p), eA E (70 + p), .int (iI es.length)]) ∧ es.length ≤ 301 ∧ ∃ f : Nat → Int32, G (70 + p) = .inl (eI E, 301, .inl f) ∧ ∀ j, j < es.length → f j = iI (es.getD j 0 : Nat)
def RC (E : EV) (g0 : GH) (S : SC) (G : GH) : Prop :=
  (∀ t, t < 30 → tOK E G t (S.1 t)) ∧ (∀ p, p < 4 → pOK E G p (S.2.2 p)) ∧
  (∀ i, i < 3 → G (60 + i) = .inr (0, [eA E (63 + i), eA E (66 + i)])) ∧
  (∀ i, i < 3 → ∃ f : Nat → Option Nat, G (63 + i) = .inl (eT E, 8, .inr (.inr (.inr (.inr f)))) ∧ ∀ j, j < 8 → f j = some (E.2.2.1 (txi S i j))) ∧
  ((∀ j, j < 8 → S.2.1 j < 8) ∧ ∀ i j, i < 8 → j < 8 → S.2.1 i = S.2.1 j → i = j) ∧
  G 74 = .inr (3, [eA E 60, eA E 75, eA E 24, eA E 25, eA E 69]) ∧
  (∃ f : Nat → Option Nat, G 75 = .inl (eM E, 2, .inr (.inr (.inr (.inr f)))) ∧ ∀ j, j < 2 → f j = some (E.2.2.1 (61 + j))) ∧
  ∀ i, 76 ≤ i → G i = g0 i
theorem RC_len {E : EV} {g0 : GH} {S : SC} {G : GH} (h : RC E g0 S G) {t : Nat} (ht : t < 30) : (S.1 t).length ≤ cap t := (h.1 t ht).2.1
/-- a change of one text -/
theorem RC_setT {E : EV} {g0 : GH} {S : SC} {G G' : GH} {t : Nat} {xs : List Int32} (ht : t < 30) (h : RC E g0 S G) (hn : tOK E G' t xs) (hk : ∀ i, i ≠ t → i ≠ 30 + t → G' i = G i) : RC E g0 (setT S t xs) G' := by
  obtain ⟨h1, h2, h3, h4, h5, h6, h7, h8⟩ := h
  refine ⟨fun u hu => ?_, fun p hp => ?_, fun i hi => ?_, fun i hi => ?_, h5, ?_, ?_, fun i hi => ?_⟩
  · by_cases e : u = t
    · subst e
      rw [setT_1s]
      exact hn
    · rw [setT_1n S xs e]
      obtain ⟨a, b, f, c, d⟩ := h1 u hu
      exact ⟨by rw [hk u (by omega) (by omega)]; exact a, b, f, by rw [hk (30 + u) (by omega) (by omega)]; exact c, d⟩
  · obtain ⟨a, b, f, c, d⟩ := h2 p hp
    exact ⟨by rw [hk _ (by omega) (by omega)]; exact a, b, f, by rw [hk _ (by omega) (by omega)]; exact c, d⟩
  · rw [hk _ (by omega) (by omega)]
    exact h3 i hi
  · rw [hk _ (by omega) (by omega)]
    exact h4 i hi
  · rw [hk _ (by omega) (by omega)]
    exact h6
  · rw [hk _ (by omega) (by omega)]
    exact h7
  · rw [hk _ (by omega) (by omega)]
    exact h8 i hi
theorem RC_setE {E : EV} {g0 : GH} {S : SC} {G G' : GH} {p : Nat} {es : List Nat} (ht : p < 4) (h : RC E g0 S G) (hn : pOK E G' p es) (hk : ∀ i, i ≠ 66 + p → i ≠ 70 + p → G' i = G i) : RC E g0 (setE S p es) G' := by
  obtain ⟨h1, h2, h3, h4, h5, h6, h7, h8⟩ := h
  refine ⟨fun u hu => ?_, fun q hq => ?_, fun i hi => ?_, fun i hi => ?_, h5, ?_, ?_, fun i hi => ?_⟩
  · obtain ⟨a, b, f, c, d⟩ := h1 u hu
    exact ⟨by rw [hk u (by omega) (by omega)]; exact a, b, f, by rw [hk (30 + u) (by omega) (by omega)]; exact c, d⟩
  · by_cases e : q = p
    · subst e
      rw [setE_2s]
      exact hn
    · rw [setE_2n S es e]
      obtain ⟨a, b, f, c, d⟩ := h2 q hq
      exact ⟨by rw [hk _ (by omega) (by omega)]; exact a, b, f, by rw [hk _ (by omega) (by omega)]; exact c, d⟩
  · rw [hk _ (by omega) (by omega)]
    exact h3 i hi
  · rw [hk _ (by omega) (by omega)]
    exact h4 i hi
  · rw [hk _ (by omega) (by omega)]
    exact h6
  · rw [hk _ (by omega) (by omega)]
    exact h7
  · rw [hk _ (by omega) (by omega)]
    exact h8 i hi
/-! receivers -/
section RV
variable {E : EV} {g0 : GH} {S : SC}
theorem rcT {t : Nat} (ht : t < 30) : ∀ G, RC E g0 S G → ∃ fs, G t = .inr (2, fs) := fun G h => ⟨_, (h.1 t ht).1⟩
theorem rcP {p : Nat} (ht : p < 4) : ∀ G, RC E g0 S G → ∃ fs, G (66 + p) = .inr (1, fs) := fun G h => ⟨_, (h.2.1 p ht).1⟩
theorem rcI {i : Nat} (ht : i < 3) : ∀ G, RC E g0 S G → ∃ fs, G (60 + i) = .inr (0, fs) := fun G h => ⟨_, h.2.2.1 i ht⟩
theorem rcS : ∀ G, RC E g0 S G → ∃ fs, G 74 = .inr (3, fs) := fun G h => ⟨_, h.2.2.2.2.2.1⟩
end RV
theorem fn_eq {τ : Type} {E : EV} {Rp : τ → GH → Prop} {X : TX} {v : Option Value} {S : τ} {G : GH} (h : Fn E Rp X v S) (hG : Rp S G) : Fn E (fun (G1 : GH) G => G1 = G) X v G := by
  obtain ⟨p, e, R, s, m, args, below, meth, c, A, nL, k, n, Q⟩ := X
  obtain ⟨Qc, free, h1, h2, h3⟩ := h
  exact ⟨Qc, free, h1, h2, fun G1 t e h4 h5 => h3 G1 t (e ▸ hG) h4 h5⟩
theorem fn_S {τ : Type} {E : EV} {Rp : τ → GH → Prop} {X : TX} {v : Option Value} {S S2 : τ} (h : Fn E Rp X v S) (e : S2 = S) : Fn E Rp X v S2 := e ▸ h
/-! fields read -/
section RG
variable {E : EV} {X : TX} {cc : ByteArray} {own : String} {ret : Option FieldType} {rm : Room} {nL : Nat} {g0 : GH} {pc index : Nat} {lv : List (Nat × Value)} {rest : List Value} {S : SC}
theorem jg_Tsigns (h : CX E X cc own ret rm nL) {t : Nat} (hw : Cond.fieldLink own index "TextShelves$Text" "signs" "[I" ∈ AW) (ht : t < 30) (hd : decode cc pc = .ok (.getfield index, 3)) (K : JL E (RC E g0) X (pc + 3) lv (eA E (30 + t) :: rest) S) : JL E (RC E g0) X pc lv (eA E t :: rest) S :=
  j_get h (T := TX2) 0 inX2 (ci := 2) rfl (by decide) hw rfl (by omega) (fun G hG => (hG.1 t ht).1) rfl hd K
theorem jg_Tsize (h : CX E X cc own ret rm nL) {t : Nat} (hw : Cond.fieldLink own index "TextShelves$Text" "size" "I" ∈ AW) (ht : t < 30) (hd : decode cc pc = .ok (.getfield index, 3)) (K : JL E (RC E g0) X (pc + 3) lv (.int (iI (S.1 t).length) :: rest) S) : JL E (RC E g0) X pc lv (eA E t :: rest) S :=
  j_get h (T := TX2) 1 inX2 (ci := 2) rfl (by decide) hw rfl (by omega) (fun G hG => (hG.1 t ht).1) rfl hd K
theorem jg_Pall (h : CX E X cc own ret rm nL) {p : Nat} (hw : Cond.fieldLink own index "TextShelves$Pieces" "all" "LTextShelves$Text;" ∈ AW) (ht : p < 4) (hd : decode cc pc = .ok (.getfield index, 3)) (K : JL E (RC E g0) X (pc + 3) lv (eA E (26 + p) :: rest) S) : JL E (RC E g0) X pc lv (eA E (66 + p) :: rest) S :=
  j_get h (T := TX1) 0 inX1 (ci := 1) rfl (by decide) hw rfl (by omega) (fun G hG => (hG.2.1 p ht).1) rfl hd K
theorem jg_Pends (h : CX E X cc own ret rm nL) {p : Nat} (hw : Cond.fieldLink own index "TextShelves$Pieces" "ends" "[I" ∈ AW) (ht : p < 4) (hd : decode cc pc = .ok (.getfield index, 3)) (K : JL E (RC E g0) X (pc + 3) lv (eA E (70 + p) :: rest) S) : JL E (RC E g0) X pc lv (eA E (66 + p) :: rest) S :=
  j_get h (T := TX1) 1 inX1 (ci := 1) rfl (by decide) hw rfl (by omega) (fun G hG => (hG.2.1 p ht).1) rfl hd K
theorem jg_Psize (h : CX E X cc own ret rm nL) {p : Nat} (hw : Cond.fieldLink own index "TextShelves$Pieces" "size" "I" ∈ AW) (ht : p < 4) (hd : decode cc pc = .ok (.getfield index, 3)) (K : JL E (RC E g0) X (pc + 3) lv (.int (iI (S.2.2 p).length) :: rest) S) : JL E (RC E g0) X pc lv (eA E (66 + p) :: rest) S :=
  j_get h (T := TX1) 2 inX1 (ci := 1) rfl (by decide) hw rfl (by omega) (fun G hG => (hG.2.1 p ht).1) rfl hd K
theorem jg_Itexts (h : CX E X cc own ret rm nL) {i : Nat} (hw : Cond.fieldLink own index "TextShelves$Image" "texts" "[LTextShelves$Text;" ∈ AW) (ht : i < 3) (hd : decode cc pc = .ok (.getfield index, 3)) (K : JL E (RC E g0) X (pc + 3) lv (eA E (63 + i) :: rest) S) : JL E (RC E g0) X pc lv (eA E (60 + i) :: rest) S :=
  j_get h (T := TX0) 0 inX0 (ci := 0) rfl (by decide) hw rfl (by omega) (fun G hG => hG.2.2.1 i ht) rfl hd K
theorem jg_Iparts (h : CX E X cc own ret rm nL) {i : Nat} (hw : Cond.fieldLink own index "TextShelves$Image" "parts" "LTextShelves$Pieces;" ∈ AW) (ht : i < 3) (hd : decode cc pc = .ok (.getfield index, 3)) (K : JL E (RC E g0) X (pc + 3) lv (eA E (66 + i) :: rest) S) : JL E (RC E g0) X pc lv (eA E (60 + i) :: rest) S :=
  j_get h (T := TX0) 1 inX0 (ci := 0) rfl (by decide) hw rfl (by omega) (fun G hG => hG.2.2.1 i ht) rfl hd K
theorem jg_Snow (h : CX E X cc own ret rm nL) (hw : Cond.fieldLink own index "TextShelves" "now" "LTextShelves$Image;" ∈ AW) (hd : decode cc pc = .ok (.getfield index, 3)) (K : JL E (RC E g0) X (pc + 3) lv (eA E 60 :: rest) S) : JL E (RC E g0) X pc lv (eA E 74 :: rest) S :=
  j_get h (T := TX3) 0 inX3 (ci := 3) rfl (by decide) hw rfl (by omega) (fun G hG => hG.2.2.2.2.2.1) rfl hd K
theorem jg_Skept (h : CX E X cc own ret rm nL) (hw : Cond.fieldLink own index "TextShelves" "kept" "[LTextShelves$Image;" ∈ AW) (hd : decode cc pc = .ok (.getfield index, 3)) (K : JL E (RC E g0) X (pc + 3) lv (eA E 75 :: rest) S) : JL E (RC E g0) X pc lv (eA E 74 :: rest) S :=
  j_get h (T := TX3) 1 inX3 (ci := 3) rfl (by decide) hw rfl (by omega) (fun G hG => hG.2.2.2.2.2.1) rfl hd K
theorem jg_Smade (h : CX E X cc own ret rm nL) (hw : Cond.fieldLink own index "TextShelves" "made" "LTextShelves$Text;" ∈ AW) (hd : decode cc pc = .ok (.getfield index, 3)) (K : JL E (RC E g0) X (pc + 3) lv (eA E 24 :: rest) S) : JL E (RC E g0) X pc lv (eA E 74 :: rest) S :=
  j_get h (T := TX3) 2 inX3 (ci := 3) rfl (by decide) hw rfl (by omega) (fun G hG => hG.2.2.2.2.2.1) rfl hd K
theorem jg_Stwice (h : CX E X cc own ret rm nL) (hw : Cond.fieldLink own index "TextShelves" "twice" "LTextShelves$Text;" ∈ AW) (hd : decode cc pc = .ok (.getfield index, 3)) (K : JL E (RC E g0) X (pc + 3) lv (eA E 25 :: rest) S) : JL E (RC E g0) X pc lv (eA E 74 :: rest) S :=
  j_get h (T := TX3) 3 inX3 (ci := 3) rfl (by decide) hw rfl (by omega) (fun G hG => hG.2.2.2.2.2.1) rfl hd K
theorem jg_Strial (h : CX E X cc own ret rm nL) (hw : Cond.fieldLink own index "TextShelves" "trial" "LTextShelves$Pieces;" ∈ AW) (hd : decode cc pc = .ok (.getfield index, 3)) (K : JL E (RC E g0) X (pc + 3) lv (eA E 69 :: rest) S) : JL E (RC E g0) X pc lv (eA E 74 :: rest) S :=
  j_get h (T := TX3) 4 inX3 (ci := 3) rfl (by decide) hw rfl (by omega) (fun G hG => hG.2.2.2.2.2.1) rfl hd K
theorem jgN_Iparts (h : CX E X cc own ret rm nL) {i : Nat} (hw : Cond.fieldLinkNest own index "TextShelves$Image" "parts" "LTextShelves$Pieces;" "TextShelves" ∈ nwl) (ht : i < 3) (hd : decode cc pc = .ok (.getfield index, 3)) (K : JL E (RC E g0) X (pc + 3) lv (eA E (66 + i) :: rest) S) : JL E (RC E g0) X pc lv (eA E (60 + i) :: rest) S :=
  j_getN h (T := TX0) 1 inX0 (ci := 0) rfl (by decide) hw rfl (by omega) (fun G hG => hG.2.2.1 i ht) rfl hd K
end RG
end
section
/-! the room that each method asks -/
abbrev rX0_init : Room := { frames := 3, cells := 0, slots := 0, locals := 62 }
abbrev rX0_text : Room := { frames := 1, cells := 0, slots := 0, locals := 22 }
abbrev rX0_exchange : Room := { frames := 2, cells := 0, slots := 0, locals := 43 }
abbrev rX0_become : Room := { frames := 5, cells := 0, slots := 0, locals := 109 }
abbrev rX0_sizeOfTexts : Room := { frames := 1, cells := 0, slots := 0, locals := 20 }
abbrev rX1_init : Room := { frames := 2, cells := 0, slots := 0, locals := 42 }
abbrev rX1_size : Room := { frames := 0, cells := 0, slots := 0, locals := 0 }
abbrev rX1_partAnew : Room := { frames := 3, cells := 0, slots := 0, locals := 62 }
abbrev rX1_addPieceTo : Room := { frames := 2, cells := 0, slots := 0, locals := 45 }
abbrev rX1_addJoinedTo : Room := { frames := 3, cells := 0, slots := 0, locals := 67 }
abbrev rX1_sizeJoined : Room := { frames := 1, cells := 0, slots := 0, locals := 21 }
abbrev rX1_become : Room := { frames := 4, cells := 0, slots := 0, locals := 87 }
abbrev rX1_foldAll : Room := { frames := 2, cells := 0, slots := 0, locals := 48 }
abbrev rX1_endPiece : Room := { frames := 1, cells := 0, slots := 0, locals := 21 }
abbrev rX1_addEnd : Room := { frames := 0, cells := 0, slots := 0, locals := 0 }
abbrev rX1_leaveOutEmptyEnd : Room := { frames := 2, cells := 0, slots := 0, locals := 42 }
abbrev rX1_startOf : Room := { frames := 1, cells := 0, slots := 0, locals := 21 }
abbrev rX1_endOf : Room := { frames := 0, cells := 0, slots := 0, locals := 0 }
abbrev rX2_init : Room := { frames := 1, cells := 0, slots := 0, locals := 21 }
abbrev rX2_size : Room := { frames := 0, cells := 0, slots := 0, locals := 0 }
abbrev rX2_at : Room := { frames := 0, cells := 0, slots := 0, locals := 0 }
abbrev rX2_clear : Room := { frames := 0, cells := 0, slots := 0, locals := 0 }
abbrev rX2_add : Room := { frames := 0, cells := 0, slots := 0, locals := 0 }
abbrev rX2_addSpan : Room := { frames := 1, cells := 0, slots := 0, locals := 21 }
abbrev rX2_addText : Room := { frames := 2, cells := 0, slots := 0, locals := 45 }
abbrev rX2_addTurned : Room := { frames := 1, cells := 0, slots := 0, locals := 21 }
abbrev rX2_addDigitsFromLowest : Room := { frames := 1, cells := 0, slots := 0, locals := 21 }
abbrev rX2_addReplaced : Room := { frames := 3, cells := 0, slots := 0, locals := 71 }
abbrev rX2_become : Room := { frames := 3, cells := 0, slots := 0, locals := 66 }
abbrev rX2_change : Room := { frames := 0, cells := 0, slots := 0, locals := 0 }
abbrev rX2_signFrom : Room := { frames := 1, cells := 0, slots := 0, locals := 21 }
abbrev rX2_signBack : Room := { frames := 1, cells := 0, slots := 0, locals := 21 }
abbrev rX2_placeFrom : Room := { frames := 3, cells := 0, slots := 0, locals := 71 }
abbrev rX2_placeBack : Room := { frames := 3, cells := 0, slots := 0, locals := 71 }
abbrev rX2_bears : Room := { frames := 2, cells := 0, slots := 0, locals := 49 }
abbrev rX2_agreesWholly : Room := { frames := 2, cells := 0, slots := 0, locals := 49 }
abbrev rX2_agrees : Room := { frames := 1, cells := 0, slots := 0, locals := 22 }
abbrev rX2_order : Room := { frames := 1, cells := 0, slots := 0, locals := 22 }
abbrev rX2_finds : Room := { frames := 3, cells := 0, slots := 0, locals := 71 }
abbrev rX2_sharedFront : Room := { frames := 1, cells := 0, slots := 0, locals := 21 }
abbrev rX2_sharedRear : Room := { frames := 1, cells := 0, slots := 0, locals := 21 }
abbrev rX2_endOfFront : Room := { frames := 2, cells := 0, slots := 0, locals := 41 }
abbrev rX2_startOfRear : Room := { frames := 2, cells := 0, slots := 0, locals := 41 }
abbrev rX2_foldSpan : Room := { frames := 1, cells := 0, slots := 0, locals := 21 }
abbrev rX3_init : Room := { frames := 4, cells := 0, slots := 0, locals := 83 }
abbrev rX3_wipe : Room := { frames := 2, cells := 0, slots := 0, locals := 43 }
abbrev rX3_type : Room := { frames := 2, cells := 0, slots := 0, locals := 43 }
abbrev rX3_feed : Room := { frames := 2, cells := 0, slots := 0, locals := 45 }
abbrev rX3_copy : Room := { frames := 5, cells := 0, slots := 0, locals := 109 }
abbrev rX3_swap : Room := { frames := 3, cells := 0, slots := 0, locals := 66 }
abbrev rX3_concat : Room := { frames := 5, cells := 0, slots := 0, locals := 109 }
abbrev rX3_substring : Room := { frames := 5, cells := 0, slots := 0, locals := 109 }
abbrev rX3_tail : Room := { frames := 6, cells := 0, slots := 0, locals := 134 }
abbrev rX3_number : Room := { frames := 6, cells := 0, slots := 0, locals := 132 }
abbrev rX3_big : Room := { frames := 5, cells := 0, slots := 0, locals := 109 }
abbrev rX3_length : Room := { frames := 2, cells := 0, slots := 0, locals := 43 }
abbrev rX3_isEmpty : Room := { frames := 2, cells := 0, slots := 0, locals := 43 }
abbrev rX3_isBlank : Room := { frames := 3, cells := 0, slots := 0, locals := 63 }
abbrev rX3_charAt : Room := { frames := 2, cells := 0, slots := 0, locals := 43 }
abbrev rX3_hash : Room := { frames := 2, cells := 0, slots := 0, locals := 43 }
abbrev rX3_first : Room := { frames := 3, cells := 0, slots := 0, locals := 67 }
abbrev rX3_firstFrom : Room := { frames := 2, cells := 0, slots := 0, locals := 44 }
abbrev rX3_last : Room := { frames := 3, cells := 0, slots := 0, locals := 67 }
abbrev rX3_lastFrom : Room := { frames := 2, cells := 0, slots := 0, locals := 44 }
abbrev rX3_find : Room := { frames := 5, cells := 0, slots := 0, locals := 118 }
abbrev rX3_findFrom : Room := { frames := 4, cells := 0, slots := 0, locals := 95 }
abbrev rX3_findLast : Room := { frames := 5, cells := 0, slots := 0, locals := 117 }
abbrev rX3_findLastFrom : Room := { frames := 4, cells := 0, slots := 0, locals := 94 }
abbrev rX3_contains : Room := { frames := 6, cells := 0, slots := 0, locals := 140 }
abbrev rX3_starts : Room := { frames := 4, cells := 0, slots := 0, locals := 94 }
abbrev rX3_startsAt : Room := { frames := 3, cells := 0, slots := 0, locals := 71 }
abbrev rX3_ends : Room := { frames := 4, cells := 0, slots := 0, locals := 94 }
abbrev rX3_region : Room := { frames := 2, cells := 0, slots := 0, locals := 49 }
abbrev rX3_regionAlike : Room := { frames := 2, cells := 0, slots := 0, locals := 49 }
abbrev rX3_same : Room := { frames := 3, cells := 0, slots := 0, locals := 71 }
abbrev rX3_alike : Room := { frames := 3, cells := 0, slots := 0, locals := 71 }
abbrev rX3_compare : Room := { frames := 2, cells := 0, slots := 0, locals := 46 }
abbrev rX3_compareAlike : Room := { frames := 2, cells := 0, slots := 0, locals := 46 }
abbrev rX3_replaceSign : Room := { frames := 5, cells := 0, slots := 0, locals := 109 }
abbrev rX3_replaceText : Room := { frames := 5, cells := 0, slots := 0, locals := 109 }
abbrev rX3_trim : Room := { frames := 6, cells := 0, slots := 0, locals := 134 }
abbrev rX3_strip : Room := { frames := 6, cells := 0, slots := 0, locals := 134 }
abbrev rX3_repeat : Room := { frames := 5, cells := 0, slots := 0, locals := 109 }
abbrev rX3_turn : Room := { frames := 5, cells := 0, slots := 0, locals := 109 }
abbrev rX3_part : Room := { frames := 7, cells := 0, slots := 0, locals := 159 }
abbrev rX3_pieces : Room := { frames := 1, cells := 0, slots := 0, locals := 20 }
abbrev rX3_piece : Room := { frames := 5, cells := 0, slots := 0, locals := 109 }
abbrev rX3_join : Room := { frames := 5, cells := 0, slots := 0, locals := 109 }
abbrev rX3_count : Room := { frames := 4, cells := 0, slots := 0, locals := 94 }
abbrev rX3_head : Room := { frames := 2, cells := 0, slots := 0, locals := 44 }
abbrev rX3_foot : Room := { frames := 2, cells := 0, slots := 0, locals := 44 }
abbrev rX3_holds : Room := { frames := 6, cells := 0, slots := 0, locals := 145 }
abbrev rX3_keep : Room := { frames := 6, cells := 0, slots := 0, locals := 131 }
abbrev rX3_back : Room := { frames := 6, cells := 0, slots := 0, locals := 131 }
abbrev rX3_digest : Room := { frames := 3, cells := 0, slots := 0, locals := 73 }
abbrev rX3_lay : Room := { frames := 4, cells := 0, slots := 0, locals := 87 }
abbrev rX3_layBare : Room := { frames := 5, cells := 0, slots := 0, locals := 109 }
abbrev rX3_firstPlaceHolds : Room := { frames := 5, cells := 0, slots := 0, locals := 118 }
abbrev rX3_lastPlaceHolds : Room := { frames := 5, cells := 0, slots := 0, locals := 117 }
abbrev rX3_orderHolds : Room := { frames := 4, cells := 0, slots := 0, locals := 93 }
abbrev rX3_replacingHolds : Room := { frames := 4, cells := 0, slots := 0, locals := 95 }
abbrev rX3_partingHolds : Room := { frames := 4, cells := 0, slots := 0, locals := 90 }
abbrev rX3_isSign : Room := { frames := 0, cells := 0, slots := 0, locals := 0 }
abbrev rX3_areSigns : Room := { frames := 1, cells := 0, slots := 0, locals := 22 }
abbrev rX3_byteOf : Room := { frames := 0, cells := 0, slots := 0, locals := 0 }
abbrev rX3_isBlankSign : Room := { frames := 0, cells := 0, slots := 0, locals := 0 }
abbrev rX3_isLoose : Room := { frames := 1, cells := 0, slots := 0, locals := 20 }
abbrev rX3_asTold : Room := { frames := 0, cells := 0, slots := 0, locals := 0 }
abbrev rX4_init : Room := { frames := 0, cells := 0, slots := 0, locals := 0 }
abbrev rX4_isIn : Room := { frames := 0, cells := 0, slots := 0, locals := 0 }
abbrev rX4_isSign : Room := { frames := 1, cells := 0, slots := 0, locals := 22 }
abbrev rX4_meant : Room := { frames := 0, cells := 0, slots := 0, locals := 0 }
abbrev rX4_sizeOf : Room := { frames := 1, cells := 0, slots := 0, locals := 20 }
abbrev rX4_signAt : Room := { frames := 1, cells := 0, slots := 0, locals := 20 }
abbrev rX4_begins : Room := { frames := 0, cells := 0, slots := 0, locals := 0 }
abbrev rX4_puts : Room := { frames := 0, cells := 0, slots := 0, locals := 0 }
abbrev rX4_putsPart : Room := { frames := 2, cells := 0, slots := 0, locals := 42 }
abbrev rX4_lays : Room := { frames := 1, cells := 0, slots := 0, locals := 20 }
abbrev rX4_wipe : Room := { frames := 2, cells := 0, slots := 0, locals := 41 }
abbrev rX4_type : Room := { frames := 3, cells := 0, slots := 0, locals := 66 }
abbrev rX4_feed : Room := { frames := 3, cells := 0, slots := 0, locals := 66 }
abbrev rX4_copy : Room := { frames := 3, cells := 0, slots := 0, locals := 66 }
abbrev rX4_swap : Room := { frames := 1, cells := 0, slots := 0, locals := 20 }
abbrev rX4_concat : Room := { frames := 3, cells := 0, slots := 0, locals := 66 }
abbrev rX4_substring : Room := { frames := 3, cells := 0, slots := 0, locals := 66 }
abbrev rX4_tail : Room := { frames := 4, cells := 0, slots := 0, locals := 90 }
abbrev rX4_number : Room := { frames := 3, cells := 0, slots := 0, locals := 71 }
abbrev rX4_big : Room := { frames := 2, cells := 0, slots := 0, locals := 43 }
abbrev rX4_length : Room := { frames := 2, cells := 0, slots := 0, locals := 41 }
abbrev rX4_isEmpty : Room := { frames := 2, cells := 0, slots := 0, locals := 41 }
abbrev rX4_isBlankSign : Room := { frames := 1, cells := 0, slots := 0, locals := 22 }
abbrev rX4_isBlank : Room := { frames := 2, cells := 0, slots := 0, locals := 42 }
abbrev rX4_charAt : Room := { frames := 2, cells := 0, slots := 0, locals := 42 }
abbrev rX4_hash : Room := { frames := 2, cells := 0, slots := 0, locals := 42 }
abbrev rX4_first : Room := { frames := 3, cells := 0, slots := 0, locals := 67 }
abbrev rX4_firstFrom : Room := { frames := 2, cells := 0, slots := 0, locals := 42 }
abbrev rX4_last : Room := { frames := 3, cells := 0, slots := 0, locals := 67 }
abbrev rX4_lastFrom : Room := { frames := 2, cells := 0, slots := 0, locals := 42 }
abbrev rX4_stands : Room := { frames := 2, cells := 0, slots := 0, locals := 42 }
abbrev rX4_find : Room := { frames := 4, cells := 0, slots := 0, locals := 94 }
abbrev rX4_findFrom : Room := { frames := 3, cells := 0, slots := 0, locals := 68 }
abbrev rX4_findLast : Room := { frames := 4, cells := 0, slots := 0, locals := 93 }
abbrev rX4_findLastFrom : Room := { frames := 3, cells := 0, slots := 0, locals := 68 }
abbrev rX4_contains : Room := { frames := 5, cells := 0, slots := 0, locals := 116 }
abbrev rX4_starts : Room := { frames := 3, cells := 0, slots := 0, locals := 68 }
abbrev rX4_startsAt : Room := { frames := 3, cells := 0, slots := 0, locals := 68 }
abbrev rX4_ends : Room := { frames := 3, cells := 0, slots := 0, locals := 68 }
abbrev rX4_small : Room := { frames := 1, cells := 0, slots := 0, locals := 22 }
abbrev rX4_isRegion : Room := { frames := 2, cells := 0, slots := 0, locals := 42 }
abbrev rX4_region : Room := { frames := 3, cells := 0, slots := 0, locals := 72 }
abbrev rX4_regionAlike : Room := { frames := 3, cells := 0, slots := 0, locals := 72 }
abbrev rX4_same : Room := { frames := 3, cells := 0, slots := 0, locals := 72 }
abbrev rX4_alike : Room := { frames := 3, cells := 0, slots := 0, locals := 72 }
abbrev rX4_order : Room := { frames := 2, cells := 0, slots := 0, locals := 42 }
abbrev rX4_compare : Room := { frames := 3, cells := 0, slots := 0, locals := 68 }
abbrev rX4_compareAlike : Room := { frames := 3, cells := 0, slots := 0, locals := 68 }
abbrev rX4_replaceSign : Room := { frames := 2, cells := 0, slots := 0, locals := 43 }
abbrev rX4_replaceText : Room := { frames := 3, cells := 0, slots := 0, locals := 68 }
abbrev rX4_strips : Room := { frames := 3, cells := 0, slots := 0, locals := 66 }
abbrev rX4_trim : Room := { frames := 4, cells := 0, slots := 0, locals := 94 }
abbrev rX4_strip : Room := { frames := 4, cells := 0, slots := 0, locals := 94 }
abbrev rX4_repeat : Room := { frames := 3, cells := 0, slots := 0, locals := 66 }
abbrev rX4_turn : Room := { frames := 2, cells := 0, slots := 0, locals := 43 }
abbrev rX4_isSpecial : Room := { frames := 1, cells := 0, slots := 0, locals := 22 }
abbrev rX4_addPiece : Room := { frames := 0, cells := 0, slots := 0, locals := 0 }
abbrev rX4_part : Room := { frames := 2, cells := 0, slots := 0, locals := 42 }
abbrev rX4_pieces : Room := { frames := 0, cells := 0, slots := 0, locals := 0 }
abbrev rX4_putsPiece : Room := { frames := 1, cells := 0, slots := 0, locals := 21 }
abbrev rX4_piece : Room := { frames := 2, cells := 0, slots := 0, locals := 43 }
abbrev rX4_join : Room := { frames := 2, cells := 0, slots := 0, locals := 43 }
abbrev rX4_finds : Room := { frames := 3, cells := 0, slots := 0, locals := 68 }
abbrev rX4_count : Room := { frames := 4, cells := 0, slots := 0, locals := 93 }
abbrev rX4_head : Room := { frames := 2, cells := 0, slots := 0, locals := 42 }
abbrev rX4_foot : Room := { frames := 2, cells := 0, slots := 0, locals := 42 }
abbrev rX4_arePlacesSo : Room := { frames := 4, cells := 0, slots := 0, locals := 94 }
abbrev rX4_isOrderSo : Room := { frames := 4, cells := 0, slots := 0, locals := 94 }
abbrev rX4_areFindsSo : Room := { frames := 5, cells := 0, slots := 0, locals := 116 }
abbrev rX4_arePiecesSo : Room := { frames := 2, cells := 0, slots := 0, locals := 42 }
abbrev rX4_holds : Room := { frames := 6, cells := 0, slots := 0, locals := 141 }
abbrev rX4_allSigns : Room := { frames := 0, cells := 0, slots := 0, locals := 0 }
abbrev rX4_moves : Room := { frames := 0, cells := 0, slots := 0, locals := 0 }
abbrev rX4_keep : Room := { frames := 1, cells := 0, slots := 0, locals := 25 }
abbrev rX4_back : Room := { frames := 1, cells := 0, slots := 0, locals := 25 }
abbrev rX4_digest : Room := { frames := 0, cells := 0, slots := 0, locals := 0 }
abbrev rJ11_isValidCodePoint_9a6ad : Room := { frames := 0, cells := 0, slots := 0, locals := 0 }
abbrev rJ11_highSurrogate_5068e : Room := { frames := 0, cells := 0, slots := 0, locals := 0 }
abbrev rJ11_lowSurrogate_5068e : Room := { frames := 0, cells := 0, slots := 0, locals := 0 }
abbrev rJ6_compare_7cf53 : Room := { frames := 0, cells := 0, slots := 0, locals := 0 }
abbrev rJ9_floorMod_7cf53 : Room := { frames := 0, cells := 0, slots := 0, locals := 0 }
abbrev rJ9_abs_067f4 : Room := { frames := 0, cells := 0, slots := 0, locals := 0 }
abbrev rJ9_max_7cf53 : Room := { frames := 0, cells := 0, slots := 0, locals := 0 }
abbrev rJ9_min_7cf53 : Room := { frames := 0, cells := 0, slots := 0, locals := 0 }
abbrev rJ0_length_8abf5 : Room := { frames := 1, cells := 0, slots := 0, locals := 20 }
abbrev rJ0_indexOf_0f7a4 : Room := { frames := 6, cells := 0, slots := 0, locals := 138 }
abbrev rJ0_indexOf_7cf53 : Room := { frames := 5, cells := 0, slots := 0, locals := 116 }
abbrev rJ0_coder_7d493 : Room := { frames := 0, cells := 0, slots := 0, locals := 0 }
abbrev rJ0_isLatin1_aae02 : Room := { frames := 0, cells := 0, slots := 0, locals := 0 }
abbrev rJ0_checkBoundsBeginEnd_23922 : Room := { frames := 1, cells := 0, slots := 0, locals := 23 }
abbrev rJ1_canEncode_9a6ad : Room := { frames := 0, cells := 0, slots := 0, locals := 0 }
abbrev rJ1_indexOf_4cfef : Room := { frames := 1, cells := 0, slots := 0, locals := 25 }
abbrev rJ1_indexOfChar_4cfef : Room := { frames := 0, cells := 0, slots := 0, locals := 0 }
abbrev rJ2_getChar_3b067 : Room := { frames := 1, cells := 0, slots := 0, locals := 20 }
abbrev rJ2_length_9d52b : Room := { frames := 0, cells := 0, slots := 0, locals := 0 }
abbrev rJ2_indexOf_4cfef : Room := { frames := 4, cells := 0, slots := 0, locals := 93 }
abbrev rJ2_indexOfChar_4cfef : Room := { frames := 3, cells := 0, slots := 0, locals := 67 }
abbrev rJ2_indexOfCharUnsafe_4cfef : Room := { frames := 2, cells := 0, slots := 0, locals := 41 }
abbrev rJ2_indexOfSupplementary_4cfef : Room := { frames := 3, cells := 0, slots := 0, locals := 67 }
abbrev rJ2_checkBoundsBeginEnd_d044e : Room := { frames := 2, cells := 0, slots := 0, locals := 45 }
abbrev rJ3_checkFromToIndex_8c36e : Room := { frames := 0, cells := 0, slots := 0, locals := 0 }
end
section
/-! pure: loops by a measure, booleans, division, bytes; signs; rows of signs -/
theorem lpA1 {A : Type} (μ : A → Nat) (P : A → Prop) (h : ∀ a, (∀ b, μ b < μ a → P b) → P a) (a : A) : P a := by
  suffices hh : ∀ (n : Nat) (a : A), μ a < n → P a from hh _ a (Nat.lt_succ_self _)
  intro n
  induction n with
  | zero => intro a ha; omega
  | succ n ih => intro a ha; exact h a (fun b hb => ih b (by omega))
theorem lpA2 {A B : Type} (μ : A → B → Nat) (P : A → B → Prop) (h : ∀ a b, (∀ a' b', μ a' b' < μ a b → P a' b') → P a b) (a : A) (b : B) : P a b :=
  lpA1 (fun q : A × B => μ q.1 q.2) (fun q => P q.1 q.2) (fun q ih => h q.1 q.2 (fun a' b' hh => ih (a', b') hh)) (a, b)
theorem lpA3 {A B C : Type} (μ : A → B → C → Nat) (P : A → B → C → Prop) (h : ∀ a b c, (∀ a' b' c', μ a' b' c' < μ a b c → P a' b' c') → P a b c) (a : A) (b : B) (c : C) : P a b c :=
  lpA1 (fun q : A × B × C => μ q.1 q.2.1 q.2.2) (fun q => P q.1 q.2.1 q.2.2) (fun q ih => h q.1 q.2.1 q.2.2 (fun a' b' c' hh => ih (a', b', c') hh)) (a, b, c)
theorem lpA4 {A B C D : Type} (μ : A → B → C → D → Nat) (P : A → B → C → D → Prop) (h : ∀ a b c d, (∀ a' b' c' d', μ a' b' c' d' < μ a b c d → P a' b' c' d') → P a b c d) (a : A) (b : B) (c : C) (d : D) : P a b c d :=
  lpA1 (fun q : A × B × C × D => μ q.1 q.2.1 q.2.2.1 q.2.2.2) (fun q => P q.1 q.2.1 q.2.2.1 q.2.2.2) (fun q ih => h q.1 q.2.1 q.2.2.1 q.2.2.2 (fun a' b' c' d' hh => ih (a', b', c', d') hh)) (a, b, c, d)
theorem bt {b : Bool} (h : b = true) : some (Value.int (iI (bI b))) = some (.int (iI 1)) := by rw [h]; rfl
theorem bf {b : Bool} (h : b = false) : some (Value.int (iI (bI b))) = some (.int (iI 0)) := by rw [h]; rfl
theorem nzb (b : Bool) : narrow .boolean (.int (iI (bI b))) = .int (iI (bI b)) := by cases b <;> rfl
theorem bI_t {b : Bool} (h : b = true) : bI b = 1 := by rw [h]; rfl
theorem bI_f {b : Bool} (h : b = false) : bI b = 0 := by rw [h]; rfl
theorem bI_0 {b : Bool} : bI b = 0 ↔ b = false := by cases b <;> decide
theorem bI_n0 {b : Bool} : ¬ bI b = 0 ↔ b = true := by cases b <;> decide
theorem iI_div {a b : Int} (ha : okI a) (hb : okI b) (hn : b ≠ -1) : iI a / iI b = iI (a.tdiv b) := by
  apply Int32.toInt_inj.mp
  have h1 : (iI b) ≠ -1 := fun q => hn ((iI_inj hb ⟨by decide, by decide⟩).mp (q.trans rfl))
  rw [Int32.toInt_div_of_ne_right _ _ h1, iI_toInt ha, iI_toInt hb]
  refine (iI_toInt ?_).symm
  have h2 := Int.natAbs_tdiv_le_natAbs a b
  obtain ⟨h3, h4⟩ := ha
  by_cases e : a = -2147483648
  · subst e
    by_cases b0 : 0 ≤ b
    · have h5 : Int.tdiv (-2147483648) b = -(Int.tdiv 2147483648 b) := Int.neg_tdiv 2147483648 b
      have h7 : 0 ≤ Int.tdiv 2147483648 b := Int.tdiv_nonneg (by decide) b0
      exact ⟨by omega, by omega⟩
    · have h5 : Int.tdiv (-2147483648) b = Int.tdiv 2147483648 (-b) := by rw [Int.tdiv_neg, Int.neg_tdiv]
      have h6 : Int.tdiv 2147483648 (-b) ≤ 2147483648 / 2 := by
        rw [Int.tdiv_eq_ediv_of_nonneg (by decide)]
        exact Int.ediv_le_of_le_mul (by omega) (by omega)
      have h7 : 0 ≤ Int.tdiv 2147483648 (-b) := Int.tdiv_nonneg (by decide) (by omega)
      rw [h5]
      exact ⟨by omega, by omega⟩
  · exact ⟨by omega, by omega⟩
theorem iI_rem8 {a : Int} (ha : okI a) : iI a - iI a / iI 8 * iI 8 = iI (a - a.tdiv 8 * 8) := by
  rw [iI_div ha ⟨by decide, by decide⟩ (by decide), iI_mul, iI_sub]
theorem iI_rem2 {a : Int} (ha : okI a) : iI a - iI a / iI 2 * iI 2 = iI (a - a.tdiv 2 * 2) := by
  rw [iI_div ha ⟨by decide, by decide⟩ (by decide), iI_mul, iI_sub]
theorem tdiv_cases (a b : Int) : (0 ≤ a ∧ a.tdiv b = a / b) ∨ (a < 0 ∧ a.tdiv b = -((-a) / b)) := by
  rcases Int.lt_or_le a 0 with h | h
  · refine Or.inr ⟨h, ?_⟩
    have : a.tdiv b = -((-a).tdiv b) := by rw [Int.neg_tdiv, Int.neg_neg]
    rw [this, Int.tdiv_eq_ediv_of_nonneg (by omega)]
  · exact Or.inl ⟨h, Int.tdiv_eq_ediv_of_nonneg h⟩
theorem xor_nonneg (x y : Int32) (hy : 0 ≤ y.toInt) : 0 ≤ (x ^^^ y).toInt ↔ 0 ≤ x.toInt := by
  have e : ∀ z : Int32, 0 ≤ z.toInt ↔ z.toBitVec.msb = false := fun z => by
    have h := BitVec.msb_eq_toInt (x := z.toBitVec)
    rw [h]
    show 0 ≤ z.toBitVec.toInt ↔ _
    simp [Int.not_lt]
  rw [e, e, Int32.toBitVec_xor, BitVec.msb_xor, (e y).mp hy, Bool.xor_false]
def fmo (a b : Int) : Int := a % b
/-! signs -/
def isg (z : Int) : Bool := decide (0 ≤ z ∧ z ≤ 127)
def ibl (z : Int) : Bool := decide ((9 ≤ z ∧ z ≤ 13) ∨ (28 ≤ z ∧ z ≤ 32))
def lsb (b : Bool) (z : Int) : Bool := if b then ibl z else decide (z ≤ 32)
def tlz (cs : Bool) (z : Int) : Int := if cs = false ∧ 65 ≤ z ∧ z ≤ 90 then z + 32 else z
def tl (cs : Bool) (x : Int32) : Int32 := iI (tlz cs x.toInt)
theorem tlz_t (z : Int) : tlz true z = z := by simp [tlz]
theorem tl_t (x : Int32) : tl true x = x := by rw [tl, tlz_t, iI_of]
theorem tlz_ok {cs : Bool} {z : Int} (h : okI z) : okI (tlz cs z) := by
  obtain ⟨h1, h2⟩ := h
  unfold tlz
  split
  · exact ⟨by omega, by omega⟩
  · exact ⟨h1, h2⟩
def by1 (L : Int64) (k : Int) : Int32 := (((L.toUInt64 >>> ((iI (8 * k)).toInt64.toUInt64 &&& Int64.toUInt64 63)).toInt64).toInt32) &&& iI 255
def arS (L : Int64) (i : Int) : Nat → Bool
  | 0 => true
  | d + 1 => isg (by1 L i).toInt && arS L (i + 1) d
def cmpI (a b : Int) : Int := if a < b then -1 else if a = b then 0 else 1
def mxI (a b : Int) : Int := if a < b then b else a
def mnI (a b : Int) : Int := if b < a then b else a
/-! rows of signs -/
abbrev gz (xs : List Int32) (k : Nat) : Int32 := xs.getD k 0
/-- n signs from place a on -/
def sl (xs : List Int32) (a : Nat) : Nat → List Int32
  | 0 => []
  | n + 1 => gz xs a :: sl xs (a + 1) n
theorem sl_len (xs : List Int32) (n : Nat) : ∀ a, (sl xs a n).length = n := by
  induction n with
  | zero => intro a; rfl
  | succ n ih => intro a; simp [sl, ih]
theorem sl_get (xs : List Int32) (n : Nat) : ∀ a k, k < n → gz (sl xs a n) k = gz xs (a + k) := by
  induction n with
  | zero => intro a k h; omega
  | succ n ih =>
    intro a k h
    cases k with
    | zero => simp [sl, gz]
    | succ k =>
      have := ih (a + 1) k (by omega)
      simp only [sl, gz, List.getD_cons_succ] at this ⊢
      rw [this]
      congr 1
      omega
theorem gz_ext {xs ys : List Int32} (h : xs.length = ys.length) (hg : ∀ k, k < xs.length → gz xs k = gz ys k) : xs = ys := by
  apply List.ext_getElem h
  intro k h1 h2
  have := hg k h1
  simpa [gz, List.getD, h1, h2] using this
theorem sl_all (xs : List Int32) : sl xs 0 xs.length = xs := by
  refine gz_ext (sl_len _ _ _) (fun k hk => ?_)
  rw [sl_len] at hk
  rw [sl_get _ _ _ _ hk, Nat.zero_add]
theorem sl_add (xs : List Int32) (n m : Nat) : ∀ a, sl xs a (n + m) = sl xs a n ++ sl xs (a + n) m := by
  induction n with
  | zero => intro a; simp [sl]
  | succ n ih =>
    intro a
    rw [Nat.succ_add]
    simp only [sl, List.cons_append, ih (a + 1)]
    rw [show a + 1 + n = a + (n + 1) by omega]
theorem gz_app_l {xs ys : List Int32} {k : Nat} (h : k < xs.length) : gz (xs ++ ys) k = gz xs k := by
  simp [gz, List.getD, List.getElem?_append_left h]
theorem gz_app_r {xs ys : List Int32} {k : Nat} (h : xs.length ≤ k) : gz (xs ++ ys) k = gz ys (k - xs.length) := by
  simp [gz, List.getD, List.getElem?_append_right h]
end
section
/-! Math.floorMod, whose class is one that the machine knows: by the library's contracts -/
def fmS (a b r : Int32) : Spec := { pre := Cond.and (Cond.code yJ9_floorMod_7cf53 cJ9_floorMod_7cf53 3 (some .int)) (Cond.and (Cond.count 2) (Cond.and (Cond.isInt (.arg 0)) (Cond.and (Cond.isInt (.arg 1)) (Cond.and (Cond.eq (.arg 0) (.int a)) (Cond.eq (.arg 1) (.int b)))))), room := { frames := 0, cells := 0, slots := 0, locals := 0 }, post := Cond.eq .result (.int r), changes := some [], grows := false, arrays := [], statics := [], warmsH := false, interns := false, inits := [], draws := [] }
theorem fm_args {a b r : Int32} {args : Array Value} {s : State} (h : (fmS a b r).pre.before args s = true) : args = #[.int a, .int b] := by
  simp only [fmS, Cond.before_and, Bool.and_eq_true] at h
  obtain ⟨h0, h1, h2, h3, h4, h5⟩ := h
  obtain ⟨x, y, rfl⟩ := Cond.two_ints h1 h2 h3
  simp [Cond.before, Cond.holds, Cond.value, Term.eval] at h4 h5
  rw [h4, h5]
theorem fm_noRow (p : Program) : NativeRow.find? p.tables.natives "java/lang/Math" "floorMod" "(II)I" = none := by
  have h : NativeRow.find? Jvm.natives "java/lang/Math" "floorMod" "(II)I" = none := Option.isNone_iff_eq_none.mp (by decide +kernel)
  cases p
  · exact h
  · exact h
def fmR (x y : Int32) : Int32 := if 0 ≤ x ^^^ y then x - x / y * y else if x - x / y * y = 0 then x - x / y * y else x - x / y * y + y
theorem fm_cur {s : State} {x : Frame} {r : List Frame} (h : s.frames = x :: r) : s.cur < s.threads.size := by
  refine Nat.lt_of_not_le fun q => ?_
  have : s.frames = [] := by simp [State.frames, q]
  rw [this] at h
  cases h
theorem fm_same {s : State} (hc : s.cur < s.threads.size) (f1 f2 : List Frame) : (s.setFrames f1).setFrames f2 = { s.setFrames ((s.setFrames f1).setFrames f2).frames with heap := ((s.setFrames f1).setFrames f2).heap } := by
  rw [State.setFrames_setFrames, State.frames_setFrames _ hc]
theorem fm_ret {e : Env} {s s₁ : State} {m : MethodId} {below : List Frame} {meth : Method} {f0 g : JFrame} {fs : List Frame} {v : Option Value} (hc : s.cur < s.threads.size) (hs1 : s₁ = s.setFrames (Frame.java f0 :: below)) (hm : s.vm.method? m = some meth) (hlk : meth.locks = false) (hg : g.method = m) (hg2 : g.locked = none) (hg3 : g.entered = []) (hret : handOver s₁ v below = some fs) (acts : List Action) : (doReturn e (s₁.setTop g) acts v).fst = s₁.setFrames fs := by
  subst hs1
  have hf0 : (s.setFrames (Frame.java f0 :: below)).frames = Frame.java f0 :: below := State.frames_setFrames _ hc
  rw [State.setTop_of_frames g hf0, State.setFrames_setFrames]
  have h := doReturn_plain (e := e) (acts := acts) (v := v) (s := s.setFrames (Frame.java g :: below)) (State.frames_setFrames _ hc) (by rw [hg]; exact hm) hlk hg2 hg3 (fs := fs) hret
  rw [h.1, State.setFrames_setFrames, State.setFrames_setFrames]
set_option maxHeartbeats 800000 in
theorem fm_meets (l : Launch) (a b : Int32) (hb0 : ¬ b = 0) : MeetsLoose l yJ9_floorMod_7cf53 (fmS a b (fmR a b)) := by
  refine MeetsLoose.of_body_ov (code := cJ9_floorMod_7cf53) (maxLocals := 3) (ret := some .int) fm_noRow (fun args s h => ?_) ?_
  · simp only [fmS, Cond.before_and, Bool.and_eq_true] at h
    exact h.1
  · intro p e s m args below meth c s₁ B
    have hargs : args = #[.int a, .int b] := fm_args B.2.2.2.1
    subst hargs
    obtain ⟨hx, hfr, hhear, hpre, hmeth, hr, hlk, hb, hs1, hat⟩ := id B
    have hmeth' : s₁.vm.method? m = some meth := by rw [hs1]; exact hmeth
    obtain ⟨fs, hret⟩ := handOver_isSome (s := s₁) (m := m) (some (.int (fmR a b))) (below := below) (by rw [hs1]; exact hhear)
    refine ⟨s₁.setFrames fs, .returned (some (.int (fmR a b))), ?_, ?_, B.ended hret (fun q => by cases q), ?_⟩
    · show Steps p.tables e below (s₁.setTop { method := m, pc := 0, locals := #[.val (.int a), .val (.int b), .unset], stack := [], locked := none }) _
      have top := hat.top
      jvm_step1 Steps.instrAtOv hat [top, hx, hb, dJ9_floorMod_7cf53_0]
      jvm_step1 Steps.instrAtOv hat [top, hx, hb, dJ9_floorMod_7cf53_1]
      jvm_step1 Steps.instrAtOv hat [top, hx, hb, dJ9_floorMod_7cf53_2, hb0]
      generalize hrr : a - a / b * b = r at hret ⊢
      jvm_step1 Steps.instrAtOv hat [top, hx, hb, dJ9_floorMod_7cf53_3, show storeLocals #[.val (.int a), .val (.int b), .unset] 2 (.int r) = some #[.val (.int a), .val (.int b), .val (.int r)] from rfl]
      jvm_step1 Steps.instrAtOv hat [top, hx, hb, dJ9_floorMod_7cf53_4]
      jvm_step1 Steps.instrAtOv hat [top, hx, hb, dJ9_floorMod_7cf53_5]
      jvm_step1 Steps.instrAtOv hat [top, hx, hb, dJ9_floorMod_7cf53_6]
      by_cases hc : 0 ≤ a ^^^ b
      · rw [show fmR a b = r by rw [fmR, if_pos hc, hrr]] at hret
        jvm_step1 Steps.instrAtOv hat [top, hx, hb, dJ9_floorMod_7cf53_7, Op.ifCond.holds, hc]
        show Steps p.tables e below (s₁.setTop { method := m, pc := 18, locals := #[.val (.int a), .val (.int b), .val (.int r)], stack := [], locked := none }) _
        jvm_step1 Steps.instrAtOv hat [top, hx, hb, dJ9_floorMod_7cf53_18]
        jvm_step1 Steps.instrAtOv hat [top, hx, hb, dJ9_floorMod_7cf53_19, hmeth', hr, narrow, hret]
        (try refine ⟨rfl, ?_⟩); (try refine ⟨rfl, ?_⟩)
        intro acts
        rw [fm_ret (fm_cur hfr) hs1 hmeth hlk rfl rfl rfl (by first | exact hret | (rw [hz] at hret; exact hret)) acts]
        exact Steps.refl _
      · jvm_step1 Steps.instrAtOv hat [top, hx, hb, dJ9_floorMod_7cf53_7, Op.ifCond.holds, hc]
        show Steps p.tables e below (s₁.setTop { method := m, pc := 10, locals := #[.val (.int a), .val (.int b), .val (.int r)], stack := [], locked := none }) _
        jvm_step1 Steps.instrAtOv hat [top, hx, hb, dJ9_floorMod_7cf53_10]
        by_cases hz : r = 0
        · rw [show fmR a b = r by rw [fmR, if_neg hc, hrr, if_pos hz]] at hret
          jvm_step1 Steps.instrAtOv hat [top, hx, hb, dJ9_floorMod_7cf53_11, Op.ifCond.holds, hz]
          show Steps p.tables e below (s₁.setTop { method := m, pc := 18, locals := #[.val (.int a), .val (.int b), .val (.int 0)], stack := [], locked := none }) _
          jvm_step1 Steps.instrAtOv hat [top, hx, hb, dJ9_floorMod_7cf53_18]
          jvm_step1 Steps.instrAtOv hat [top, hx, hb, dJ9_floorMod_7cf53_19, hmeth', hr, narrow, hret]
          (try refine ⟨rfl, ?_⟩); (try refine ⟨rfl, ?_⟩)
          intro acts
          rw [fm_ret (fm_cur hfr) hs1 hmeth hlk rfl rfl rfl (by first | exact hret | (rw [hz] at hret; exact hret)) acts]
          exact Steps.refl _
        · rw [show fmR a b = r + b by rw [fmR, if_neg hc, hrr, if_neg hz]] at hret
          jvm_step1 Steps.instrAtOv hat [top, hx, hb, dJ9_floorMod_7cf53_11, Op.ifCond.holds, hz]
          show Steps p.tables e below (s₁.setTop { method := m, pc := 14, locals := #[.val (.int a), .val (.int b), .val (.int r)], stack := [], locked := none }) _
          jvm_step1 Steps.instrAtOv hat [top, hx, hb, dJ9_floorMod_7cf53_14]
          jvm_step1 Steps.instrAtOv hat [top, hx, hb, dJ9_floorMod_7cf53_15]
          jvm_step1 Steps.instrAtOv hat [top, hx, hb, dJ9_floorMod_7cf53_16]
          jvm_step1 Steps.instrAtOv hat [top, hx, hb, dJ9_floorMod_7cf53_17, hmeth', hr, narrow, hret]
          (try refine ⟨rfl, ?_⟩); (try refine ⟨rfl, ?_⟩)
          intro acts
          rw [fm_ret (fm_cur hfr) hs1 hmeth hlk rfl rfl rfl (by first | exact hret | (rw [hz] at hret; exact hret)) acts]
          exact Steps.refl _
    · exact hat.running
    · exact ⟨by simp [fmS, Cond.after, Cond.holds, Cond.value, Term.eval], by rw [hs1]; exact ⟨fm_same (fm_cur hfr) _ _, rfl, fun x y h => ⟨y, h, rfl, rfl, fun i hi => rfl⟩⟩⟩
/-! calls of Math's methods -/
theorem max_code : cJ9_max_7cf53 = Lib.Math.max.code := by decide +kernel
theorem min_code : cJ9_min_7cf53 = Lib.Math.min.code := by decide +kernel
theorem abs_code : cJ9_abs_067f4 = Lib.MathLoose.abs_long.code := by decide +kernel
section JM
variable {τ : Type} {E : EV} {Rp : τ → GH → Prop} {X : TX} {cc : ByteArray} {own : String} {ret : Option FieldType} {rm : Room} {nL : Nat}
variable {pc index : Nat} {lv : List (Nat × Value)} {rest : List Value} {S : τ}
theorem j_max (h : CX E X cc own ret rm nL) {a b : Int} (ha : okI a) (hb2 : okI b) (hli : Cond.methodLink own index yJ9_max_7cf53 ∈ AW) (hroom : 1 ≤ rm.frames ∧ 21 ≤ rm.locals) (hcat : (rest.map fun v => v.category).sum ≤ 8) (hd : decode cc pc = .ok (.invokestatic index, 3)) (K : JL E Rp X (pc + 3) lv (.int (iI (mxI a b)) :: rest) S) : JL E Rp X pc lv (.int (iI b) :: .int (iI a) :: rest) S := by
  obtain ⟨p, e, R, s, m, args, below, meth, c, A, nL', kk0, nn0, Q⟩ := X
  obtain ⟨hx, hb, hml, rfl, hown, hts, hK, hlk, hr, hrm, hA, hAi, hE, hk0, hn0, hXX⟩ := h
  intro G H locs ls hR hP hS hl
  subst hrm
  refine va_mmax hx hb (by rw [hml, hl.1]) hown (hts _ hli) (hts _ m_J9_max_7cf53.1) (hts _ m_J9_max_7cf53.2.1) (max_code ▸ hts _ m_J9_max_7cf53.2.2.1) hroom.1 (by have := hroom.2; omega) hk0 hn0 hd ?_
  have e2 : (if iI a < iI b then iI b else iI a) = iI (mxI a b) := by
    unfold mxI
    by_cases q : a < b
    · rw [if_pos q, if_pos ((iI_lt ha hb2).mpr q)]
    · rw [if_neg q, if_neg (fun z => q ((iI_lt ha hb2).mp z))]
  rw [e2]
  exact K G H locs ls hR hP hS hl
theorem j_min (h : CX E X cc own ret rm nL) {a b : Int} (ha : okI a) (hb2 : okI b) (hli : Cond.methodLink own index yJ9_min_7cf53 ∈ AW) (hroom : 1 ≤ rm.frames ∧ 21 ≤ rm.locals) (hcat : (rest.map fun v => v.category).sum ≤ 8) (hd : decode cc pc = .ok (.invokestatic index, 3)) (K : JL E Rp X (pc + 3) lv (.int (iI (mnI a b)) :: rest) S) : JL E Rp X pc lv (.int (iI b) :: .int (iI a) :: rest) S := by
  obtain ⟨p, e, R, s, m, args, below, meth, c, A, nL', kk0, nn0, Q⟩ := X
  obtain ⟨hx, hb, hml, rfl, hown, hts, hK, hlk, hr, hrm, hA, hAi, hE, hk0, hn0, hXX⟩ := h
  intro G H locs ls hR hP hS hl
  subst hrm
  refine va_mmin hx hb (by rw [hml, hl.1]) hown (hts _ hli) (hts _ m_J9_min_7cf53.1) (hts _ m_J9_min_7cf53.2.1) (min_code ▸ hts _ m_J9_min_7cf53.2.2.1) hroom.1 (by have := hroom.2; omega) hk0 hn0 hd ?_
  have e2 : (if iI b < iI a then iI b else iI a) = iI (mnI a b) := by
    unfold mnI
    by_cases q : b < a
    · rw [if_pos q, if_pos ((iI_lt hb2 ha).mpr q)]
    · rw [if_neg q, if_neg (fun z => q ((iI_lt hb2 ha).mp z))]
  rw [e2]
  exact K G H locs ls hR hP hS hl
theorem j_abs (h : CX E X cc own ret rm nL) {x : Int64} (hli : Cond.methodLink own index yJ9_abs_067f4 ∈ AW) (hroom : 1 ≤ rm.frames ∧ 21 ≤ rm.locals) (hcat : (rest.map fun v => v.category).sum ≤ 8) (hd : decode cc pc = .ok (.invokestatic index, 3)) (K : JL E Rp X (pc + 3) lv (.long (if 0 < x then x else -x) :: rest) S) : JL E Rp X pc lv (.long x :: rest) S := by
  obtain ⟨p, e, R, s, m, args, below, meth, c, A, nL', kk0, nn0, Q⟩ := X
  obtain ⟨hx, hb, hml, rfl, hown, hts, hK, hlk, hr, hrm, hA, hAi, hE, hk0, hn0, hXX⟩ := h
  intro G H locs ls hR hP hS hl
  subst hrm
  exact va_mabs_long hx hb (by rw [hml, hl.1]) hown (hts _ hli) (hts _ m_J9_abs_067f4.1) (hts _ m_J9_abs_067f4.2.1) (abs_code ▸ hts _ m_J9_abs_067f4.2.2.1) hroom.1 (by have := hroom.2; omega) hk0 hn0 hd (K G H locs ls hR hP hS hl)
theorem j_fm0 (h : CX E X cc own ret rm nL) {a b : Int32} (hb0 : ¬ b = 0) (hli : Cond.methodLink own index yJ9_floorMod_7cf53 ∈ AW) (hroom : 1 ≤ rm.frames ∧ 22 ≤ rm.locals) (hcat : (rest.map fun v => v.category).sum ≤ 8) (hd : decode cc pc = .ok (.invokestatic index, 3)) (K : JL E Rp X (pc + 3) lv (.int (fmR a b) :: rest) S) : JL E Rp X pc lv (.int b :: .int a :: rest) S := by
  obtain ⟨p, e, R, s, m, args, below, meth, c, A, nL', kk0, nn0, Q⟩ := X
  obtain ⟨hx, hb, hml, rfl, hown, hts, hK, hlk, hr, hrm, hA, hAi, hE, hk0, hn0, hXX⟩ := h
  intro G H locs ls hR hP hS hl
  subst hrm
  intro T hT Y
  have hcode := hts _ m_J9_floorMod_7cf53.2.2.1
  obtain ⟨v, T', X', ⟨first, t, hpost⟩, hstep⟩ := Y.staticByContractV hx hown (hts _ hli) (hts _ m_J9_floorMod_7cf53.1) (hts _ m_J9_floorMod_7cf53.2.1) hcode (by decide)
    (fm_meets E.1 a b hb0) rfl rfl rfl rfl
    (fun args' first o s₂ q => by
      cases o with
      | returned r => exact ⟨r, rfl⟩
      | threw y => simp [fmS, Cond.after, Cond.holds, Cond.value, Term.eval] at q)
    (g := F0 m pc ls (.int b :: .int a :: rest)) rfl (by show ls.size = _; rw [hml, hl.1]) (argsL := [.int a, .int b]) (rest := rest)
    (fun sig hs => by
      have q : parseMethodDescriptor "(II)I" = some { parameters := [.int, .int], returnType := some .int } := by decide +kernel
      rw [show yJ9_floorMod_7cf53.desc = "(II)I" from rfl, q] at hs
      rw [← Option.some.inj hs]; rfl)
    rfl (by rw [hb]; exact hd)
    (fun vm' hW => by
      simp only [fmS, Cond.before_and, Bool.and_eq_true]
      refine ⟨?_, rfl, rfl, rfl, by simp [Cond.before, Cond.holds, Cond.value, Term.eval], by simp [Cond.before, Cond.holds, Cond.value, Term.eval]⟩
      have q := hcode
      rw [← Cond.code_setVm hW.alike] at q
      simp only [Cond.before, Cond.holds, Cond.value, State.methodNamed?, State.vm_setVm] at q ⊢
      exact q)
    (by show 0 + 1 ≤ R.frames; exact hroom.1) (by show 2 * 0 + (rest.map fun v => v.category).sum + (3 + 11) + 0 ≤ R.locals; have := hroom.2; omega) hk0 hn0
  obtain rfl : v = some (.int (fmR a b)) := by
    rcases v with _ | w
    · simp [fmS, Cond.after, Cond.holds, Cond.value, Term.eval] at hpost
    · cases w <;> simp [fmS, Cond.after, Cond.holds, Cond.value, Term.eval] at hpost
      rw [hpost]
  obtain ⟨t2, a1, b1⟩ := K G H locs ls hR hP hS hl (T.setVm T') hT X'
  exact ⟨t2, hstep t2 a1, b1⟩
theorem fmR_iI {a b : Int} (ha : okI a) (h : b = 8 ∨ b = 2) : fmR (iI a) (iI b) = iI (fmo a b) := by
  have hx := xor_nonneg (iI a) (iI b) (by rcases h with rfl | rfl <;> decide)
  rw [iI_toInt ha] at hx
  have hc : (0 ≤ iI a ^^^ iI b) ↔ 0 ≤ a := by
    rw [Int32.le_iff_toInt_le]
    exact hx
  have hz : ∀ z : Int, okI z → ((iI z = 0) ↔ z = 0) := fun z q => iI_inj (b := 0) q ⟨by decide, by decide⟩
  unfold fmR fmo
  have ht := tdiv_cases a b
  have ha2 := ha
  unfold okI at ha2
  rcases h with rfl | rfl
  · rw [iI_rem8 ha]
    have hq : okI (a - a.tdiv 8 * 8) := by unfold okI; omega
    by_cases q : 0 ≤ a
    · rw [if_pos (hc.mpr q)]
      congr 1; omega
    · rw [if_neg (fun z => q (hc.mp z))]
      by_cases w : a - a.tdiv 8 * 8 = 0
      · rw [if_pos ((hz _ hq).mpr w)]
        congr 1; omega
      · rw [if_neg (fun z => w ((hz _ hq).mp z)), iI_add]
        congr 1; omega
  · rw [iI_rem2 ha]
    have hq : okI (a - a.tdiv 2 * 2) := by unfold okI; omega
    by_cases q : 0 ≤ a
    · rw [if_pos (hc.mpr q)]
      congr 1; omega
    · rw [if_neg (fun z => q (hc.mp z))]
      by_cases w : a - a.tdiv 2 * 2 = 0
      · rw [if_pos ((hz _ hq).mpr w)]
        congr 1; omega
      · rw [if_neg (fun z => w ((hz _ hq).mp z)), iI_add]
        congr 1; omega
theorem j_fm (h : CX E X cc own ret rm nL) {a b : Int} (ha : okI a) (hbb : b = 8 ∨ b = 2) (hli : Cond.methodLink own index yJ9_floorMod_7cf53 ∈ AW) (hroom : 1 ≤ rm.frames ∧ 22 ≤ rm.locals) (hcat : (rest.map fun v => v.category).sum ≤ 8) (hd : decode cc pc = .ok (.invokestatic index, 3)) (K : JL E Rp X (pc + 3) lv (.int (iI (fmo a b)) :: rest) S) : JL E Rp X pc lv (.int (iI b) :: .int (iI a) :: rest) S := by
  refine j_fm0 h (by rcases hbb with rfl | rfl <;> decide) hli hroom hcat hd ?_
  rw [fmR_iI ha hbb]
  exact K
end JM
end
section
/-! static methods without a world: the JDK's, the class's -/
set_option maxHeartbeats 400000 in
set_option maxRecDepth 20000 in
theorem c_J6_compare_7cf53 {E : EV} (hE : EOK E) {τ : Type} {Rp : τ → GH → Prop} {S : τ} {a b : Int} (ha : okI a) (hb : okI b) : Ct E Rp yJ6_compare_7cf53 wsJ6_compare_7cf53 rJ6_compare_7cf53 [.int (iI a), .int (iI b)] S (some (.int (iI (cmpI a b)))) S := by
  refine ct_of [(0, _), (1, _)] hE (by decide) rfl (Nat.le_of_ble_eq_true rfl) rfl (fun X h hq => ?_)
  have ha2 := ha
  have hb2 := hb
  unfold okI at ha2 hb2
  refine j_iload_n h 0 dJ6_compare_7cf53_0 rfl rfl ?_
  refine j_iload_n h 1 dJ6_compare_7cf53_1 rfl rfl ?_
  refine j_icmp_ge h 9 dJ6_compare_7cf53_2 (by decide) (by first | exact okI_of _ | exact okI_b _ | (unfold okI; omega)) (by first | exact okI_of _ | exact okI_b _ | (unfold okI; omega)) (fun c2 => ?_) (fun c2 => ?_)
  · refine j_iload_n h 0 dJ6_compare_7cf53_9 rfl rfl ?_
    refine j_iload_n h 1 dJ6_compare_7cf53_10 rfl rfl ?_
    refine j_icmp_ne h 18 dJ6_compare_7cf53_11 (by decide) (by first | exact okI_of _ | exact okI_b _ | (unfold okI; omega)) (by first | exact okI_of _ | exact okI_b _ | (unfold okI; omega)) (fun c11 => ?_) (fun c11 => ?_)
    · refine j_iconst h dJ6_compare_7cf53_18 ?_
      exact j_iret h hq (by unfold cmpI; first | rw [if_pos (by omega)] | rw [if_neg (by omega), if_pos (by omega)] | rw [if_neg (by omega), if_neg (by omega)]) dJ6_compare_7cf53_19
    · refine j_iconst h dJ6_compare_7cf53_14 ?_
      refine j_goto h 19 dJ6_compare_7cf53_15 (by decide) ?_
      exact j_iret h hq (by unfold cmpI; first | rw [if_pos (by omega)] | rw [if_neg (by omega), if_pos (by omega)] | rw [if_neg (by omega), if_neg (by omega)]) dJ6_compare_7cf53_19
  · refine j_iconst h dJ6_compare_7cf53_5 ?_
    refine j_goto h 19 dJ6_compare_7cf53_6 (by decide) ?_
    exact j_iret h hq (by unfold cmpI; first | rw [if_pos (by omega)] | rw [if_neg (by omega), if_pos (by omega)] | rw [if_neg (by omega), if_neg (by omega)]) dJ6_compare_7cf53_19
set_option maxHeartbeats 400000 in
set_option maxRecDepth 20000 in
theorem c_X3_isSign {E : EV} (hE : EOK E) {τ : Type} {Rp : τ → GH → Prop} {S : τ} {z : Int} (hz : okI z) : Ct E Rp yX3_isSign wsX3_isSign rX3_isSign [.int (iI z)] S (some (.int (iI (bI (isg z))))) S := by
  refine ct_of [(0, _)] hE (by decide) rfl (Nat.le_of_ble_eq_true rfl) rfl (fun X h hq => ?_)
  have hz2 := hz
  unfold okI at hz2
  refine j_iload_n h 0 dX3_isSign_0 rfl rfl ?_
  refine j_if_lt h 14 dX3_isSign_1 (by decide) (by first | exact okI_of _ | exact okI_b _ | (unfold okI; omega)) (fun c1 => ?_) (fun c1 => ?_)
  · refine j_iconst h dX3_isSign_14 ?_
    exact j_zret h hq (by first | exact bt (decide_eq_true (by omega)) | exact bf (decide_eq_false (by omega))) (by first | exact nzb true | exact nzb false | exact nzb _) dX3_isSign_15
  · refine j_iload_n h 0 dX3_isSign_4 rfl rfl ?_
    refine j_bipush h dX3_isSign_5 (by decide) ?_
    refine j_icmp_gt h 14 dX3_isSign_7 (by decide) (by first | exact okI_of _ | exact okI_b _ | (unfold okI; omega)) (by first | exact okI_of _ | exact okI_b _ | (unfold okI; omega)) (fun c7 => ?_) (fun c7 => ?_)
    · refine j_iconst h dX3_isSign_14 ?_
      exact j_zret h hq (by first | exact bt (decide_eq_true (by omega)) | exact bf (decide_eq_false (by omega))) (by first | exact nzb true | exact nzb false | exact nzb _) dX3_isSign_15
    · refine j_iconst h dX3_isSign_10 ?_
      refine j_goto h 15 dX3_isSign_11 (by decide) ?_
      exact j_zret h hq (by first | exact bt (decide_eq_true (by omega)) | exact bf (decide_eq_false (by omega))) (by first | exact nzb true | exact nzb false | exact nzb _) dX3_isSign_15
set_option maxHeartbeats 400000 in
set_option maxRecDepth 20000 in
theorem c_X3_isBlankSign {E : EV} (hE : EOK E) {τ : Type} {Rp : τ → GH → Prop} {S : τ} {z : Int} (hz : okI z) : Ct E Rp yX3_isBlankSign wsX3_isBlankSign rX3_isBlankSign [.int (iI z)] S (some (.int (iI (bI (ibl z))))) S := by
  refine ct_of [(0, _)] hE (by decide) rfl (Nat.le_of_ble_eq_true rfl) rfl (fun X h hq => ?_)
  have hz2 := hz
  unfold okI at hz2
  refine j_iload_n h 0 dX3_isBlankSign_0 rfl rfl ?_
  refine j_bipush h dX3_isBlankSign_1 (by decide) ?_
  refine j_icmp_lt h 12 dX3_isBlankSign_3 (by decide) (by first | exact okI_of _ | exact okI_b _ | (unfold okI; omega)) (by first | exact okI_of _ | exact okI_b _ | (unfold okI; omega)) (fun c3 => ?_) (fun c3 => ?_)
  · refine j_iload_n h 0 dX3_isBlankSign_12 rfl rfl ?_
    refine j_bipush h dX3_isBlankSign_13 (by decide) ?_
    refine j_icmp_lt h 28 dX3_isBlankSign_15 (by decide) (by first | exact okI_of _ | exact okI_b _ | (unfold okI; omega)) (by first | exact okI_of _ | exact okI_b _ | (unfold okI; omega)) (fun c15 => ?_) (fun c15 => ?_)
    · refine j_iconst h dX3_isBlankSign_28 ?_
      exact j_zret h hq (by first | exact bt (decide_eq_true (by omega)) | exact bf (decide_eq_false (by omega))) (by first | exact nzb true | exact nzb false | exact nzb _) dX3_isBlankSign_29
    · refine j_iload_n h 0 dX3_isBlankSign_18 rfl rfl ?_
      refine j_bipush h dX3_isBlankSign_19 (by decide) ?_
      refine j_icmp_gt h 28 dX3_isBlankSign_21 (by decide) (by first | exact okI_of _ | exact okI_b _ | (unfold okI; omega)) (by first | exact okI_of _ | exact okI_b _ | (unfold okI; omega)) (fun c21 => ?_) (fun c21 => ?_)
      · refine j_iconst h dX3_isBlankSign_28 ?_
        exact j_zret h hq (by first | exact bt (decide_eq_true (by omega)) | exact bf (decide_eq_false (by omega))) (by first | exact nzb true | exact nzb false | exact nzb _) dX3_isBlankSign_29
      · refine j_iconst h dX3_isBlankSign_24 ?_
        refine j_goto h 29 dX3_isBlankSign_25 (by decide) ?_
        exact j_zret h hq (by first | exact bt (decide_eq_true (by omega)) | exact bf (decide_eq_false (by omega))) (by first | exact nzb true | exact nzb false | exact nzb _) dX3_isBlankSign_29
  · refine j_iload_n h 0 dX3_isBlankSign_6 rfl rfl ?_
    refine j_bipush h dX3_isBlankSign_7 (by decide) ?_
    refine j_icmp_le h 24 dX3_isBlankSign_9 (by decide) (by first | exact okI_of _ | exact okI_b _ | (unfold okI; omega)) (by first | exact okI_of _ | exact okI_b _ | (unfold okI; omega)) (fun c9 => ?_) (fun c9 => ?_)
    · refine j_iconst h dX3_isBlankSign_24 ?_
      refine j_goto h 29 dX3_isBlankSign_25 (by decide) ?_
      exact j_zret h hq (by first | exact bt (decide_eq_true (by omega)) | exact bf (decide_eq_false (by omega))) (by first | exact nzb true | exact nzb false | exact nzb _) dX3_isBlankSign_29
    · refine j_iload_n h 0 dX3_isBlankSign_12 rfl rfl ?_
      refine j_bipush h dX3_isBlankSign_13 (by decide) ?_
      refine j_icmp_lt h 28 dX3_isBlankSign_15 (by decide) (by first | exact okI_of _ | exact okI_b _ | (unfold okI; omega)) (by first | exact okI_of _ | exact okI_b _ | (unfold okI; omega)) (fun c15 => ?_) (fun c15 => ?_)
      · refine j_iconst h dX3_isBlankSign_28 ?_
        exact j_zret h hq (by first | exact bt (decide_eq_true (by omega)) | exact bf (decide_eq_false (by omega))) (by first | exact nzb true | exact nzb false | exact nzb _) dX3_isBlankSign_29
      · refine j_iload_n h 0 dX3_isBlankSign_18 rfl rfl ?_
        refine j_bipush h dX3_isBlankSign_19 (by decide) ?_
        refine j_icmp_gt h 28 dX3_isBlankSign_21 (by decide) (by first | exact okI_of _ | exact okI_b _ | (unfold okI; omega)) (by first | exact okI_of _ | exact okI_b _ | (unfold okI; omega)) (fun c21 => ?_) (fun c21 => ?_)
        · refine j_iconst h dX3_isBlankSign_28 ?_
          exact j_zret h hq (by first | exact bt (decide_eq_true (by omega)) | exact bf (decide_eq_false (by omega))) (by first | exact nzb true | exact nzb false | exact nzb _) dX3_isBlankSign_29
        · refine j_iconst h dX3_isBlankSign_24 ?_
          refine j_goto h 29 dX3_isBlankSign_25 (by decide) ?_
          exact j_zret h hq (by first | exact bt (decide_eq_true (by omega)) | exact bf (decide_eq_false (by omega))) (by first | exact nzb true | exact nzb false | exact nzb _) dX3_isBlankSign_29
set_option maxHeartbeats 400000 in
set_option maxRecDepth 20000 in
theorem c_X3_isLoose {E : EV} (hE : EOK E) {τ : Type} {Rp : τ → GH → Prop} {S : τ} {z : Int} (hz : okI z) (b : Bool) : Ct E Rp yX3_isLoose wsX3_isLoose rX3_isLoose [.int (iI z), .int (iI (bI b))] S (some (.int (iI (bI (lsb b z))))) S := by
  refine ct_of [(0, _), (1, _)] hE (by decide) rfl (Nat.le_of_ble_eq_true rfl) rfl (fun X h hq => ?_)
  have hz2 := hz
  unfold okI at hz2
  refine j_iload_n h 1 dX3_isLoose_0 rfl rfl ?_
  refine j_if_eq h 11 dX3_isLoose_1 (by decide) (by first | exact okI_of _ | exact okI_b _ | (unfold okI; omega)) (fun c1 => ?_) (fun c1 => ?_)
  · rw [bI_0] at c1
    refine j_iload_n h 0 dX3_isLoose_11 rfl rfl ?_
    refine j_bipush h dX3_isLoose_12 (by decide) ?_
    refine j_icmp_gt h 21 dX3_isLoose_14 (by decide) (by first | exact okI_of _ | exact okI_b _ | (unfold okI; omega)) (by first | exact okI_of _ | exact okI_b _ | (unfold okI; omega)) (fun c14 => ?_) (fun c14 => ?_)
    · refine j_iconst h dX3_isLoose_21 ?_
      exact j_zret h hq (by subst c1; first | rfl | exact bt (decide_eq_true (by omega)) | exact bf (decide_eq_false (by omega))) (by first | exact nzb true | exact nzb false | exact nzb _) dX3_isLoose_22
    · refine j_iconst h dX3_isLoose_17 ?_
      refine j_goto h 22 dX3_isLoose_18 (by decide) ?_
      exact j_zret h hq (by subst c1; first | rfl | exact bt (decide_eq_true (by omega)) | exact bf (decide_eq_false (by omega))) (by first | exact nzb true | exact nzb false | exact nzb _) dX3_isLoose_22
  · rw [bI_n0] at c1
    refine j_iload_n h 0 dX3_isLoose_4 rfl rfl ?_
    refine j_callS h (c_X3_isBlankSign hE hz) m_X3_isBlankSign a_l_X3_273 rfl rfl ⟨Nat.le_of_ble_eq_true rfl, Nat.le_of_ble_eq_true rfl⟩ rfl rfl (Nat.le_of_ble_eq_true rfl) dX3_isLoose_5 ?_
    refine j_goto h 22 dX3_isLoose_8 (by decide) ?_
    exact j_zret h hq (by subst c1; first | rfl | exact bt (decide_eq_true (by omega)) | exact bf (decide_eq_false (by omega))) (by first | exact nzb true | exact nzb false | exact nzb _) dX3_isLoose_22
set_option maxHeartbeats 400000 in
set_option maxRecDepth 20000 in
theorem c_X3_byteOf {E : EV} (hE : EOK E) {τ : Type} {Rp : τ → GH → Prop} {S : τ} {L : Int64} {k : Int} : Ct E Rp yX3_byteOf wsX3_byteOf rX3_byteOf [.long L, .int (iI k)] S (some (.int (by1 L k))) S := by
  refine ct_of [(0, _), (2, _)] hE (by decide) rfl (Nat.le_of_ble_eq_true rfl) rfl (fun X h hq => ?_)
  refine j_lload_n h 0 dX3_byteOf_0 rfl rfl ?_
  refine j_bipush h dX3_byteOf_1 (by decide) ?_
  refine j_iload_n h 1 dX3_byteOf_3 rfl rfl ?_
  refine j_imul h dX3_byteOf_4 ?_
  refine j_lushr h _ dX3_byteOf_5 rfl ?_
  refine j_l2i h _ dX3_byteOf_6 rfl ?_
  refine j_sipush h dX3_byteOf_7 (by decide) ?_
  refine j_iand h _ dX3_byteOf_10 rfl ?_
  exact j_iret h hq rfl dX3_byteOf_11
set_option maxHeartbeats 400000 in
set_option maxRecDepth 20000 in
theorem c_X3_asTold {E : EV} (hE : EOK E) {τ : Type} {Rp : τ → GH → Prop} {S : τ} {z : Int} (hz : okI z) (cs : Bool) : Ct E Rp yX3_asTold wsX3_asTold rX3_asTold [.int (iI z), .int (iI (bI cs))] S (some (.int (iI (tlz cs z)))) S := by
  refine ct_of [(0, _), (1, _)] hE (by decide) rfl (Nat.le_of_ble_eq_true rfl) rfl (fun X h hq => ?_)
  have hz2 := hz
  unfold okI at hz2
  refine j_iload_n h 0 dX3_asTold_0 rfl rfl ?_
  refine j_bipush h dX3_asTold_1 (by decide) ?_
  refine j_icmp_lt h 16 dX3_asTold_3 (by decide) (by first | exact okI_of _ | exact okI_b _ | (unfold okI; omega)) (by first | exact okI_of _ | exact okI_b _ | (unfold okI; omega)) (fun c3 => ?_) (fun c3 => ?_)
  · refine j_iconst h dX3_asTold_16 ?_
    refine j_istore_n h [(2, _), (0, _), (1, _)] dX3_asTold_17 rfl (by decide) rfl ?_
    refine j_iload_n h 0 dX3_asTold_18 rfl rfl ?_
    refine j_if_eq h 36 dX3_asTold_19 (by decide) (by first | exact okI_of _ | exact okI_b _ | (unfold okI; omega)) (fun c19 => ?_) (fun c19 => ?_)
    · refine j_iload_n h 1 dX3_asTold_36 rfl rfl ?_
      exact j_iret h hq (by unfold tlz; first | rw [if_pos ⟨by assumption, by omega, by omega⟩]; congr 3; omega | rw [if_neg (fun q => by first | omega | (rw [c23] at q; simp at q))]) dX3_asTold_37
    · refine j_iload_n h 2 dX3_asTold_22 rfl rfl ?_
      refine j_if_ne h 36 dX3_asTold_23 (by decide) (by first | exact okI_of _ | exact okI_b _ | (unfold okI; omega)) (fun c23 => ?_) (fun c23 => ?_)
      · rw [bI_n0] at c23
        refine j_iload_n h 1 dX3_asTold_36 rfl rfl ?_
        exact j_iret h hq (by unfold tlz; first | rw [if_pos ⟨by assumption, by omega, by omega⟩]; congr 3; omega | rw [if_neg (fun q => by first | omega | (rw [c23] at q; simp at q))]) dX3_asTold_37
      · rw [bI_0] at c23
        refine j_iload_n h 1 dX3_asTold_26 rfl rfl ?_
        refine j_bipush h dX3_asTold_27 (by decide) ?_
        refine j_isub h dX3_asTold_29 ?_
        refine j_bipush h dX3_asTold_30 (by decide) ?_
        refine j_iadd h dX3_asTold_32 ?_
        refine j_goto h 37 dX3_asTold_33 (by decide) ?_
        exact j_iret h hq (by unfold tlz; first | rw [if_pos ⟨by assumption, by omega, by omega⟩]; congr 3; omega | rw [if_neg (fun q => by first | omega | (rw [c23] at q; simp at q))]) dX3_asTold_37
  · refine j_iload_n h 0 dX3_asTold_6 rfl rfl ?_
    refine j_bipush h dX3_asTold_7 (by decide) ?_
    refine j_icmp_gt h 16 dX3_asTold_9 (by decide) (by first | exact okI_of _ | exact okI_b _ | (unfold okI; omega)) (by first | exact okI_of _ | exact okI_b _ | (unfold okI; omega)) (fun c9 => ?_) (fun c9 => ?_)
    · refine j_iconst h dX3_asTold_16 ?_
      refine j_istore_n h [(2, _), (0, _), (1, _)] dX3_asTold_17 rfl (by decide) rfl ?_
      refine j_iload_n h 0 dX3_asTold_18 rfl rfl ?_
      refine j_if_eq h 36 dX3_asTold_19 (by decide) (by first | exact okI_of _ | exact okI_b _ | (unfold okI; omega)) (fun c19 => ?_) (fun c19 => ?_)
      · refine j_iload_n h 1 dX3_asTold_36 rfl rfl ?_
        exact j_iret h hq (by unfold tlz; first | rw [if_pos ⟨by assumption, by omega, by omega⟩]; congr 3; omega | rw [if_neg (fun q => by first | omega | (rw [c23] at q; simp at q))]) dX3_asTold_37
      · refine j_iload_n h 2 dX3_asTold_22 rfl rfl ?_
        refine j_if_ne h 36 dX3_asTold_23 (by decide) (by first | exact okI_of _ | exact okI_b _ | (unfold okI; omega)) (fun c23 => ?_) (fun c23 => ?_)
        · rw [bI_n0] at c23
          refine j_iload_n h 1 dX3_asTold_36 rfl rfl ?_
          exact j_iret h hq (by unfold tlz; first | rw [if_pos ⟨by assumption, by omega, by omega⟩]; congr 3; omega | rw [if_neg (fun q => by first | omega | (rw [c23] at q; simp at q))]) dX3_asTold_37
        · rw [bI_0] at c23
          refine j_iload_n h 1 dX3_asTold_26 rfl rfl ?_
          refine j_bipush h dX3_asTold_27 (by decide) ?_
          refine j_isub h dX3_asTold_29 ?_
          refine j_bipush h dX3_asTold_30 (by decide) ?_
          refine j_iadd h dX3_asTold_32 ?_
          refine j_goto h 37 dX3_asTold_33 (by decide) ?_
          exact j_iret h hq (by unfold tlz; first | rw [if_pos ⟨by assumption, by omega, by omega⟩]; congr 3; omega | rw [if_neg (fun q => by first | omega | (rw [c23] at q; simp at q))]) dX3_asTold_37
    · refine j_iconst h dX3_asTold_12 ?_
      refine j_goto h 17 dX3_asTold_13 (by decide) ?_
      refine j_istore_n h [(2, _), (0, _), (1, _)] dX3_asTold_17 rfl (by decide) rfl ?_
      refine j_iload_n h 0 dX3_asTold_18 rfl rfl ?_
      refine j_if_eq h 36 dX3_asTold_19 (by decide) (by first | exact okI_of _ | exact okI_b _ | (unfold okI; omega)) (fun c19 => ?_) (fun c19 => ?_)
      · refine j_iload_n h 1 dX3_asTold_36 rfl rfl ?_
        exact j_iret h hq (by unfold tlz; first | rw [if_pos ⟨by assumption, by omega, by omega⟩]; congr 3; omega | rw [if_neg (fun q => by first | omega | (rw [c23] at q; simp at q))]) dX3_asTold_37
      · refine j_iload_n h 2 dX3_asTold_22 rfl rfl ?_
        refine j_if_ne h 36 dX3_asTold_23 (by decide) (by first | exact okI_of _ | exact okI_b _ | (unfold okI; omega)) (fun c23 => ?_) (fun c23 => ?_)
        · rw [bI_n0] at c23
          refine j_iload_n h 1 dX3_asTold_36 rfl rfl ?_
          exact j_iret h hq (by unfold tlz; first | rw [if_pos ⟨by assumption, by omega, by omega⟩]; congr 3; omega | rw [if_neg (fun q => by first | omega | (rw [c23] at q; simp at q))]) dX3_asTold_37
        · rw [bI_0] at c23
          refine j_iload_n h 1 dX3_asTold_26 rfl rfl ?_
          refine j_bipush h dX3_asTold_27 (by decide) ?_
          refine j_isub h dX3_asTold_29 ?_
          refine j_bipush h dX3_asTold_30 (by decide) ?_
          refine j_iadd h dX3_asTold_32 ?_
          refine j_goto h 37 dX3_asTold_33 (by decide) ?_
          exact j_iret h hq (by unfold tlz; first | rw [if_pos ⟨by assumption, by omega, by omega⟩]; congr 3; omega | rw [if_neg (fun q => by first | omega | (rw [c23] at q; simp at q))]) dX3_asTold_37
set_option maxHeartbeats 400000 in
set_option maxRecDepth 20000 in
theorem c_X3_areSigns {E : EV} (hE : EOK E) {τ : Type} {Rp : τ → GH → Prop} {S : τ} {L : Int64} {n : Int} (h0 : 0 ≤ n) (hn : n ≤ 100) : Ct E Rp yX3_areSigns wsX3_areSigns rX3_areSigns [.long L, .int (iI n)] S (some (.int (iI (bI (arS L 0 n.toNat))))) S := by
  refine ct_of [(0, _), (2, _)] hE (by decide) rfl (Nat.le_of_ble_eq_true rfl) rfl (fun X h hq => ?_)
  refine j_iconst h dX3_areSigns_0 ?_
  refine j_istore_n h [(3, _), (0, _), (2, _)] dX3_areSigns_1 rfl (by decide) rfl ?_
  refine lpA1 (fun i : Int => (n - i).toNat) (fun i : Int => 0 ≤ i → i ≤ n → arS L 0 n.toNat = arS L i (n - i).toNat → JL E Rp X 2 [(3, .int (iI i)), (0, .long L), (2, .int (iI n))] [] S) (fun i ih hi0 hin hv => ?_) 0 (Int.le_refl _) h0 (by rw [Int.sub_zero])
  refine j_iload_n h 0 dX3_areSigns_2 rfl rfl ?_
  refine j_iload_n h 2 dX3_areSigns_3 rfl rfl ?_
  refine j_icmp_ge h 26 dX3_areSigns_4 (by decide) (by first | exact okI_of _ | exact okI_b _ | (unfold okI; omega)) (by first | exact okI_of _ | exact okI_b _ | (unfold okI; omega)) (fun c4 => ?_) (fun c4 => ?_)
  · refine j_iconst h dX3_areSigns_26 ?_
    exact j_zret h hq (by rw [hv]; first | exact bt (by rw [show (n - i).toNat = 0 by omega]; rfl) | exact bf (by rw [show (n - i).toNat = (n - (i + 1)).toNat + 1 by omega, arS, c15, Bool.false_and])) (by first | exact nzb true | exact nzb false | exact nzb _) dX3_areSigns_27
  · refine j_lload_n h 1 dX3_areSigns_7 rfl rfl ?_
    refine j_iload_n h 0 dX3_areSigns_8 rfl rfl ?_
    refine j_callS h (c_X3_byteOf hE) m_X3_byteOf a_l_X3_63 rfl rfl ⟨Nat.le_of_ble_eq_true rfl, Nat.le_of_ble_eq_true rfl⟩ rfl rfl (Nat.le_of_ble_eq_true rfl) dX3_areSigns_9 ?_
    refine j_top (iI_of _).symm ?_
    refine j_callS h (c_X3_isSign hE (okI_of _)) m_X3_isSign a_l_X3_50 rfl rfl ⟨Nat.le_of_ble_eq_true rfl, Nat.le_of_ble_eq_true rfl⟩ rfl rfl (Nat.le_of_ble_eq_true rfl) dX3_areSigns_12 ?_
    refine j_if_ne h 20 dX3_areSigns_15 (by decide) (by first | exact okI_of _ | exact okI_b _ | (unfold okI; omega)) (fun c15 => ?_) (fun c15 => ?_)
    · rw [bI_n0] at c15
      refine j_iinc h 0 [(3, _), (0, _), (2, _)] dX3_areSigns_20 rfl (by decide) rfl ?_
      refine j_goto h 2 dX3_areSigns_23 (by decide) ?_
      exact ih (i + 1) (by omega) (by omega) (by omega) (by rw [hv, show (n - i).toNat = (n - (i + 1)).toNat + 1 by omega, arS, c15, Bool.true_and])
    · rw [bI_0] at c15
      refine j_iconst h dX3_areSigns_18 ?_
      exact j_zret h hq (by rw [hv]; first | exact bt (by rw [show (n - i).toNat = 0 by omega]; rfl) | exact bf (by rw [show (n - i).toNat = (n - (i + 1)).toNat + 1 by omega, arS, c15, Bool.false_and])) (by first | exact nzb true | exact nzb false | exact nzb _) dX3_areSigns_19
end
section
/-! pure: what the methods of a text answer -/
def lo (P : Nat → Bool) (i : Nat) : Nat → Int
  | 0 => -1
  | d + 1 => if P i then (i : Int) else lo P (i + 1) d
def hi (P : Nat → Bool) : Nat → Int
  | 0 => -1
  | n + 1 => if P n then (n : Int) else hi P n
theorem lo_none {P : Nat → Bool} : ∀ (d i : Nat), (∀ k, i ≤ k → k < i + d → P k = false) → lo P i d = -1 := by
  intro d
  induction d with
  | zero => intro i h; rfl
  | succ d ih =>
    intro i h
    rw [lo, h i (Nat.le_refl _) (by omega)]
    exact ih (i + 1) (fun k h1 h2 => h k (by omega) (by omega))
theorem hi_skip {P : Nat → Bool} {a : Nat} : ∀ n, a ≤ n → (∀ k, a ≤ k → k < n → P k = false) → hi P n = hi P a := by
  intro n
  induction n with
  | zero => intro h1 h; rw [show a = 0 by omega]
  | succ n ih =>
    intro h1 h
    by_cases q : a = n + 1
    · rw [q]
    · rw [hi, h n (by omega) (by omega)]
      exact ih (by omega) (fun k h2 h3 => h k h2 (by omega))
theorem lo_range {P : Nat → Bool} : ∀ (d i : Nat), lo P i d = -1 ∨ ((i : Int) ≤ lo P i d ∧ lo P i d < i + d) := by
  intro d
  induction d with
  | zero => intro i; exact Or.inl rfl
  | succ d ih =>
    intro i
    rw [lo]
    split
    · exact Or.inr ⟨Int.le_refl _, by omega⟩
    · rcases ih (i + 1) with h | h
      · exact Or.inl h
      · exact Or.inr ⟨by omega, by omega⟩
theorem hi_range {P : Nat → Bool} : ∀ (n : Nat), -1 ≤ hi P n ∧ hi P n < n := by
  intro n
  induction n with
  | zero => simp [hi]
  | succ n ih =>
    rw [hi]
    split
    · exact ⟨by omega, by omega⟩
    · exact ⟨by omega, by omega⟩
def eqs (cs : Bool) (xs ys : List Int32) (i j : Nat) : Nat → Bool
  | 0 => true
  | d + 1 => decide (tl cs (gz xs i) = tl cs (gz ys j)) && eqs cs xs ys (i + 1) (j + 1) d
def agr (cs : Bool) (xs ys : List Int32) (p q n : Int) : Bool := decide (0 ≤ p ∧ 0 ≤ q ∧ p + n ≤ xs.length ∧ q + n ≤ ys.length) && eqs cs xs ys p.toNat q.toNat n.toNat
def bz (xs ys : List Int32) (z : Int) : Bool := agr true xs ys z 0 ys.length
def who (cs : Bool) (xs ys : List Int32) : Bool := decide (xs.length = ys.length) && agr cs xs ys 0 0 xs.length
def sgF (xs : List Int32) (c : Int32) (z : Int) : Int := lo (fun k => decide (gz xs k = c)) (mxI 0 z).toNat (xs.length - (mxI 0 z).toNat)
def sgB (xs : List Int32) (c : Int32) (z : Int) : Int := hi (fun k => decide (gz xs k = c)) (mnI z (xs.length - 1) + 1).toNat
def plF (xs ys : List Int32) (z : Int) : Int := lo (fun k => bz xs ys k) (mxI 0 (mnI z xs.length)).toNat (xs.length + 1 - (mxI 0 (mnI z xs.length)).toNat)
def plB (xs ys : List Int32) (z : Int) : Int := hi (fun k => bz xs ys k) (mnI z xs.length + 1).toNat
def ord (cs : Bool) (xs ys : List Int32) (i : Nat) : Nat → Int32
  | 0 => iI ((xs.length : Int) - ys.length)
  | d + 1 => if tl cs (gz xs i) = tl cs (gz ys i) then ord cs xs ys (i + 1) d else iI (tlz cs (gz xs i).toInt - tlz cs (gz ys i).toInt)
def orI (cs : Bool) (xs ys : List Int32) : Int32 := ord cs xs ys 0 (min xs.length ys.length)
def fdc (xs ys : List Int32) : Nat → Nat → Nat
  | 0, _ => 0
  | f + 1, p => if p < xs.length then (if bz xs ys p then fdc xs ys f (p + max 1 ys.length) + 1 else fdc xs ys f (p + 1)) else 0
def rpl (xs ys zs : List Int32) : Nat → Nat → List Int32
  | 0, _ => []
  | f + 1, p => if p < xs.length then (if bz xs ys p then zs ++ rpl xs ys zs f (p + max 1 ys.length) else gz xs p :: rpl xs ys zs f (p + 1)) else []
def sfr (xs ys : List Int32) (i : Nat) : Nat → Nat
  | 0 => i
  | d + 1 => if gz xs i = gz ys i then sfr xs ys (i + 1) d else i
def srr (xs ys : List Int32) (i : Nat) : Nat → Nat
  | 0 => i
  | d + 1 => if gz xs (xs.length - 1 - i) = gz ys (ys.length - 1 - i) then srr xs ys (i + 1) d else i
def eof (b : Bool) (xs : List Int32) (i : Nat) : Nat → Nat
  | 0 => i
  | d + 1 => if lsb b (gz xs i).toInt then eof b xs (i + 1) d else i
def sor (b : Bool) (xs : List Int32) (f : Nat) : Nat → Nat
  | 0 => f
  | d + 1 => if lsb b (gz xs (f + d)).toInt then sor b xs f d else f + d + 1
def fld (xs : List Int32) (acc : Int) (i : Nat) : Nat → Int
  | 0 => acc
  | d + 1 => fld xs (31 * acc + (gz xs i).toInt) (i + 1) d
def chg (a b : Int32) (ys : List Int32) (i : Nat) : Nat → List Int32
  | 0 => ys
  | d + 1 => chg a b (ys.set i (if gz ys i = a then b else gz ys i)) (i + 1) d
def rv (xs : List Int32) : Nat → List Int32
  | 0 => []
  | n + 1 => gz xs n :: rv xs n
def dig (r : Int64) : Int32 := iI (48 + ((if 0 < r - r / lI 10 * lI 10 then r - r / lI 10 * lI 10 else -(r - r / lI 10 * lI 10)).toInt32).toInt)
def dgs : Nat → Int64 → List Int32
  | 0, _ => []
  | d + 1, r => if d = 18 ∨ ¬ r = 0 then dig r :: dgs d (r / lI 10) else []
theorem i2l_raw (x : Int32) : x.toInt64 = lI x.toInt := by
  have := iI_i2l (okI_of x)
  rwa [iI_of] at this
theorem eqs_len (cs : Bool) (xs ys : List Int32) : ∀ (d i j : Nat), eqs cs xs ys i j d = true ↔ ∀ k, k < d → tl cs (gz xs (i + k)) = tl cs (gz ys (j + k)) := by
  intro d
  induction d with
  | zero => intro i j; exact ⟨fun _ k h => absurd h (Nat.not_lt_zero _), fun _ => rfl⟩
  | succ d ih =>
    intro i j
    rw [eqs, Bool.and_eq_true, decide_eq_true_eq, ih]
    refine ⟨fun h k hk => ?_, fun h => ⟨by simpa using h 0 (Nat.succ_pos _), fun k hk => by have := h (k + 1) (by omega); rwa [show i + (k + 1) = i + 1 + k by omega, show j + (k + 1) = j + 1 + k by omega] at this⟩⟩
    cases k with
    | zero => simpa using h.1
    | succ k =>
      have := h.2 k (by omega)
      rwa [show i + 1 + k = i + (k + 1) by omega, show j + 1 + k = j + (k + 1) by omega] at this
theorem bz_iff (xs ys : List Int32) (z : Int) : bz xs ys z = true ↔ 0 ≤ z ∧ z + ys.length ≤ xs.length ∧ ∀ k, k < ys.length → gz xs (z.toNat + k) = gz ys k := by
  unfold bz agr
  rw [Bool.and_eq_true, decide_eq_true_eq, eqs_len]
  simp only [tl_t, Int.toNat_natCast, Int.toNat_zero, Nat.zero_add]
  exact ⟨fun h => ⟨h.1.1, h.1.2.2.1, h.2⟩, fun h => ⟨⟨h.1, by omega, h.2.1, by omega⟩, h.2.2⟩⟩
theorem bz_out {xs ys : List Int32} {z : Int} (h : z < 0 ∨ xs.length < z + ys.length) : bz xs ys z = false := by
  cases q : bz xs ys z with
  | false => rfl
  | true => rw [bz_iff] at q; omega
end
section
/-! Text: size, at, clear, add -/
/-- fields read, the text told -/
theorem jx_Tsize {E : EV} {X : TX} {cc : ByteArray} {own : String} {ret : Option FieldType} {rm : Room} {nL : Nat} {g0 : GH} {pc index : Nat} {lv : List (Nat × Value)} {rest : List Value} {S : SC} (h : CX E X cc own ret rm nL) {t : Nat} {xs : List Int32} (hx : S.1 t = xs) (hw : Cond.fieldLink own index "TextShelves$Text" "size" "I" ∈ AW) (ht : t < 30) (hd : decode cc pc = .ok (.getfield index, 3)) (K : JL E (RC E g0) X (pc + 3) lv (.int (iI xs.length) :: rest) S) : JL E (RC E g0) X pc lv (eA E t :: rest) S := by
  subst hx
  exact jg_Tsize h hw ht hd K
set_option maxHeartbeats 400000 in
set_option maxRecDepth 20000 in
theorem c_X2_size {E : EV} (hE : EOK E) {S : SC} {g0 : GH} {t : Nat} (ht : t < 30) {xs : List Int32} (hx : S.1 t = xs) : Ct E (RC E g0) yX2_size wsX2_size rX2_size [eA E t] S (some (.int (iI xs.length))) S := by
  refine ct_of [(0, _)] hE (by decide) rfl (Nat.le_of_ble_eq_true rfl) rfl (fun X h hq => ?_)
  refine j_aload_n h 0 dX2_size_0 rfl rfl ?_
  refine jx_Tsize h hx a_f_X2_21 (by omega) dX2_size_1 ?_
  exact j_iret h hq rfl dX2_size_4
set_option maxHeartbeats 400000 in
set_option maxRecDepth 20000 in
theorem c_X2_at {E : EV} (hE : EOK E) {S : SC} {g0 : GH} {t : Nat} (ht : t < 30) {xs : List Int32} (hx : S.1 t = xs) {z : Int} (h0 : 0 ≤ z) (h1 : z < xs.length) : Ct E (RC E g0) yX2_at wsX2_at rX2_at [eA E t, .int (iI z)] S (some (.int (gz xs z.toNat))) S := by
  refine ct_of [(0, _), (1, _)] hE (by decide) rfl (Nat.le_of_ble_eq_true rfl) rfl (fun X h hq => ?_)
  subst hx
  refine j_of (fun G hG => RC_len hG ht) (fun hl => ?_)
  have hc := cap_le t
  refine j_iload_n h 1 dX2_at_0 rfl rfl ?_
  refine j_if_lt h 12 dX2_at_1 (by decide) (by first | exact okI_of _ | exact okI_b _ | (unfold okI; omega)) (fun c1 => ?_) (fun c1 => ?_)
  · exact absurd c1 (by omega)
  · refine j_iload_n h 1 dX2_at_4 rfl rfl ?_
    refine j_aload_n h 0 dX2_at_5 rfl rfl ?_
    refine jg_Tsize h a_f_X2_21 (by omega) dX2_at_6 ?_
    refine j_icmp_lt h 14 dX2_at_9 (by decide) (by first | exact okI_of _ | exact okI_b _ | (unfold okI; omega)) (by first | exact okI_of _ | exact okI_b _ | (unfold okI; omega)) (fun c9 => ?_) (fun c9 => ?_)
    · refine j_aload_n h 0 dX2_at_14 rfl rfl ?_
      refine jg_Tsigns h a_f_X2_15 (by omega) dX2_at_15 ?_
      refine j_iload_n h 1 dX2_at_18 rfl rfl ?_
      refine j_iald h _ (by omega) ⟨by omega, by omega⟩ (fun G hG => by obtain ⟨_, _, f, e1, e2⟩ := hG.1 t ht; exact ⟨cap t, f, e1, by omega, e2 _ (by omega)⟩) dX2_at_19 ?_
      exact j_iret h hq rfl dX2_at_20
    · exact absurd c9 (by omega)
/-- a text's size is set lower, or higher over known cells -/
theorem tOK_size {E : EV} {G : GH} {t : Nat} {xs ys : List Int32} {f : Nat → Int32} {fs : List Value} (hf : G (30 + t) = .inl (eI E, cap t, .inl f)) (hl : ys.length ≤ cap t) (hv : ∀ j, j < ys.length → f j = ys.getD j 0) (ht : t < 30) : tOK E (va_up G t (.inr (2, [eA E (30 + t), .int (iI ys.length)]))) t ys := by
  refine ⟨va_up_self _ _ _, hl, f, ?_, hv⟩
  rw [va_up_ne _ _ (by omega)]
  exact hf
set_option maxHeartbeats 400000 in
set_option maxRecDepth 20000 in
theorem c_X2_clear {E : EV} (hE : EOK E) {S : SC} {g0 : GH} {t : Nat} (ht : t < 30) : Ct E (RC E g0) yX2_clear wsX2_clear rX2_clear [eA E t] S none (setT S t []) := by
  refine ct_of [(0, _)] hE (by decide) rfl (Nat.le_of_ble_eq_true rfl) rfl (fun X h hq => ?_)
  refine j_aload_n h 0 dX2_clear_0 rfl rfl ?_
  refine j_iconst h dX2_clear_1 ?_
  refine j_put h (T := TX2) (S' := setT S t []) 1 inX2 tyX2 tyX2_ok nmX2 (ci := 2) rfl (by decide) a_f_X2_21 rfl rfl rfl rfl rfl (by omega) (fun G hG => by obtain ⟨a, b, f, e1, e2⟩ := hG.1 t ht; exact ⟨a, RC_setT ht hG (tOK_size (ys := []) (fs := []) (xs := []) e1 (Nat.zero_le _) (fun j hj => absurd hj (Nat.not_lt_zero _)) ht) (fun i h1 h2 => va_up_ne _ _ h1)⟩) (Nat.le_of_ble_eq_true rfl) dX2_clear_2 ?_
  exact j_vret h hq rfl dX2_clear_5
set_option maxHeartbeats 400000 in
set_option maxRecDepth 20000 in
theorem c_X2_add {E : EV} (hE : EOK E) {S : SC} {g0 : GH} {t : Nat} (ht : t < 30) {xs : List Int32} (hx : S.1 t = xs) {x : Int32} (h1 : xs.length < cap t) : Ct E (RC E g0) yX2_add wsX2_add rX2_add [eA E t, .int x] S none (setT S t (xs ++ [x])) := by
  refine ct_of [(0, _), (1, _)] hE (by decide) rfl (Nat.le_of_ble_eq_true rfl) rfl (fun X h hq => ?_)
  subst hx
  have hc := cap_le t
  refine j_aload_n h 0 dX2_add_0 rfl rfl ?_
  refine jg_Tsize h a_f_X2_21 (by omega) dX2_add_1 ?_
  refine j_aload_n h 0 dX2_add_4 rfl rfl ?_
  refine jg_Tsigns h a_f_X2_15 (by omega) dX2_add_5 ?_
  refine j_alen h (cap t) (by omega) (fun G hG => by obtain ⟨_, _, f, e1, _⟩ := hG.1 t ht; exact ⟨f, e1⟩) dX2_add_8 ?_
  refine j_icmp_ge h 32 dX2_add_9 (by decide) (by first | exact okI_of _ | exact okI_b _ | (unfold okI; omega)) (by first | exact okI_of _ | exact okI_b _ | (unfold okI; omega)) (fun c9 => ?_) (fun c9 => ?_)
  · exact absurd c9 (by omega)
  · refine j_aload_n h 0 dX2_add_12 rfl rfl ?_
    refine jg_Tsigns h a_f_X2_15 (by omega) dX2_add_13 ?_
    refine j_aload_n h 0 dX2_add_16 rfl rfl ?_
    refine jg_Tsize h a_f_X2_21 (by omega) dX2_add_17 ?_
    refine j_iload_n h 1 dX2_add_20 rfl rfl ?_
    refine j_eq (fun G0 hG0 => ?_)
    obtain ⟨a0, b0, f0, e0, v0⟩ := hG0.1 t ht
    refine j_iast h (S' := va_up G0 (30 + t) (.inl (eI E, cap t, .inl (upd f0 (S.1 t).length x)))) (by omega) ⟨by omega, by omega⟩ (fun G hG => by subst hG; exact ⟨cap t, f0, e0, by omega, by rw [Int.toNat_natCast]⟩) dX2_add_21 ?_
    refine j_aload_n h 0 dX2_add_22 rfl rfl ?_
    refine j_dup h dX2_add_23 rfl ?_
    refine j_get h (T := TX2) 1 inX2 (ci := 2) rfl (by decide) a_f_X2_21 rfl (by omega) (fun G hG => by rw [← hG, va_up_ne _ _ (by omega)]; exact a0) rfl dX2_add_24 ?_
    refine j_iconst h dX2_add_27 ?_
    refine j_iadd h dX2_add_28 ?_
    refine j_put h (T := TX2) (S' := va_up (va_up G0 (30 + t) (.inl (eI E, cap t, .inl (upd f0 (S.1 t).length x)))) t (.inr (2, [eA E (30 + t), .int (iI (((S.1 t).length : Int) + 1))]))) 1 inX2 tyX2 tyX2_ok nmX2 (ci := 2) rfl (by decide) a_f_X2_21 rfl rfl rfl rfl rfl (by omega) (fun G hG => by subst hG; exact ⟨by rw [va_up_ne _ _ (by omega)]; exact a0, rfl⟩) (Nat.le_of_ble_eq_true rfl) dX2_add_29 ?_
    refine j_re (Rp2 := RC E g0) (S2 := setT S t (S.1 t ++ [x])) (fun G hG => ?_) ?_
    · subst hG
      have hz : (((S.1 t).length : Int) + 1) = ((S.1 t ++ [x]).length : Int) := by simp
      rw [hz]
      refine RC_setT ht hG0 (tOK_size (xs := S.1 t) (fs := []) (va_up_self _ _ _) (by simp; omega) (fun j hj => ?_) ht) (fun i h1 h2 => by rw [va_up_ne _ _ h1, va_up_ne _ _ h2])
      by_cases q : j = (S.1 t).length
      · subst q; simp [upd, List.getD]
      · have q2 : j < (S.1 t).length := by simp at hj; omega
        rw [show upd f0 (S.1 t).length x j = f0 j from if_neg q, v0 j q2]
        simp [List.getD, List.getElem?_append_left q2]
    exact j_vret h hq rfl dX2_add_32
end
section
/-! Text: what is added to it -/
set_option maxHeartbeats 400000 in
set_option maxRecDepth 20000 in
theorem c_X2_addSpan {E : EV} (hE : EOK E) {S : SC} {g0 : GH} {t : Nat} (ht : t < 30) {xs : List Int32} (hx : S.1 t = xs) {u : Nat} (hu : u < 30) {ys : List Int32} (hy : S.1 u = ys) (hne : u ≠ t) {a b : Int} (h0 : 0 ≤ a) (h1 : a ≤ b) (h2 : b ≤ ys.length) (h3 : (xs.length : Int) + (b - a) ≤ cap t) : Ct E (RC E g0) yX2_addSpan wsX2_addSpan rX2_addSpan [eA E t, eA E u, .int (iI a), .int (iI b)] S none (setT S t (xs ++ sl ys a.toNat (b - a).toNat)) := by
  refine ct_of [(0, _), (1, _), (2, _), (3, _)] hE (by decide) rfl (Nat.le_of_ble_eq_true rfl) rfl (fun X h hq => ?_)
  refine j_of (fun G hG => RC_len hG ht) (fun hl => ?_)
  rw [hx] at hl
  have hc := cap_le t
  refine j_of (fun G hG => RC_len hG hu) (fun hlu => ?_)
  rw [hy] at hlu
  have hcu := cap_le u
  refine j_iload_n h 2 dX2_addSpan_0 rfl rfl ?_
  refine j_istore h [(4, _), (0, _), (1, _), (2, _), (3, _)] dX2_addSpan_1 (by decide) rfl ?_
  refine j_sub [0, 1, 2, 4] rfl ?_
  refine j_S (S2 := setT S t xs) (by rw [← hx, setT_id]) ?_
  refine lpA2 (fun (z : Int) (_ : List Int32) => (b - z).toNat) (fun (z : Int) (zs : List Int32) => a ≤ z → z ≤ b → zs.length + (b - z).toNat ≤ cap t → zs ++ sl ys z.toNat (b - z).toNat = xs ++ sl ys a.toNat (b - a).toNat → JL E (RC E g0) X 3 [(4, .int (iI z)), (0, eA E t), (1, eA E u), (3, .int (iI b))] [] (setT S t zs)) (fun z zs ih ha hb hcp hv => ?_) a xs (Int.le_refl _) h1 (by omega) rfl
  refine j_iload h 0 dX2_addSpan_3 rfl ?_
  refine j_iload_n h 3 dX2_addSpan_5 rfl rfl ?_
  refine j_icmp_ge h 25 dX2_addSpan_6 (by decide) (by first | exact okI_of _ | exact okI_b _ | (unfold okI; omega)) (by first | exact okI_of _ | exact okI_b _ | (unfold okI; omega)) (fun c6 => ?_) (fun c6 => ?_)
  · rw [show (b - z).toNat = 0 by omega, sl, List.append_nil] at hv
    rw [← hv] at hq
    exact j_vret h hq rfl dX2_addSpan_25
  · refine j_aload_n h 1 dX2_addSpan_9 rfl rfl ?_
    refine j_aload_n h 2 dX2_addSpan_10 rfl rfl ?_
    refine j_iload h 0 dX2_addSpan_11 rfl ?_
    refine j_callV h (c_X2_at hE hu (xs := ys) (by rw [setT_1n _ _ hne]; exact hy) (by omega) (by omega)) m_X2_at a_l_X2_25 rfl rfl ⟨Nat.le_of_ble_eq_true rfl, Nat.le_of_ble_eq_true rfl⟩ (ci := 2) rfl (by omega) (rcT (by omega)) rfl rfl (Nat.le_of_ble_eq_true rfl) dX2_addSpan_13 ?_
    refine j_callVv h (c_X2_add hE ht (xs := zs) (setT_1s _ _ _) (by omega)) m_X2_add a_l_X2_29 rfl rfl ⟨Nat.le_of_ble_eq_true rfl, Nat.le_of_ble_eq_true rfl⟩ (ci := 2) rfl (by omega) (rcT (by omega)) rfl rfl (Nat.le_of_ble_eq_true rfl) dX2_addSpan_16 ?_
    refine j_iinc h 0 [(4, _), (0, _), (1, _), (3, _)] dX2_addSpan_19 rfl (by decide) rfl ?_
    refine j_goto h 3 dX2_addSpan_22 (by decide) ?_
    refine j_S (S2 := setT S t (zs ++ [gz ys z.toNat])) (by rw [setT_T]) ?_
    exact ih (z + 1) _ (by omega) (by omega) (by omega) (by simp only [List.length_append, List.length_cons, List.length_nil]; omega) (by rw [← hv, show (b - z).toNat = (b - (z + 1)).toNat + 1 by omega, sl, show z.toNat + 1 = (z + 1).toNat by omega, List.append_assoc]; rfl)
set_option maxHeartbeats 400000 in
set_option maxRecDepth 20000 in
theorem c_X2_addText {E : EV} (hE : EOK E) {S : SC} {g0 : GH} {t : Nat} (ht : t < 30) {xs : List Int32} (hx : S.1 t = xs) {u : Nat} (hu : u < 30) {ys : List Int32} (hy : S.1 u = ys) (hne : u ≠ t) (h3 : xs.length + ys.length ≤ cap t) : Ct E (RC E g0) yX2_addText wsX2_addText rX2_addText [eA E t, eA E u] S none (setT S t (xs ++ ys)) := by
  refine ct_of [(0, _), (1, _)] hE (by decide) rfl (Nat.le_of_ble_eq_true rfl) rfl (fun X h hq => ?_)
  refine j_of (fun G hG => RC_len hG ht) (fun hl => ?_)
  rw [hx] at hl
  have hc := cap_le t
  refine j_of (fun G hG => RC_len hG hu) (fun hlu => ?_)
  rw [hy] at hlu
  have hcu := cap_le u
  refine j_aload_n h 0 dX2_addText_0 rfl rfl ?_
  refine j_aload_n h 1 dX2_addText_1 rfl rfl ?_
  refine j_iconst h dX2_addText_2 ?_
  refine j_aload_n h 1 dX2_addText_3 rfl rfl ?_
  refine jx_Tsize h hy a_f_X2_21 (by omega) dX2_addText_4 ?_
  refine j_callVv h (c_X2_addSpan hE ht hx hu hy hne (Int.le_refl 0) (by omega) (Int.le_refl _) (by omega)) m_X2_addSpan a_l_X2_33 rfl rfl ⟨Nat.le_of_ble_eq_true rfl, Nat.le_of_ble_eq_true rfl⟩ (ci := 2) rfl (by omega) (rcT (by omega)) rfl rfl (Nat.le_of_ble_eq_true rfl) dX2_addText_7 ?_
  refine j_S (S2 := setT S t (xs ++ ys)) (by rw [show ((0 : Int)).toNat = 0 from rfl, show ((ys.length : Int) - 0).toNat = ys.length by omega, sl_all]) ?_
  exact j_vret h hq rfl dX2_addText_10
set_option maxHeartbeats 400000 in
set_option maxRecDepth 20000 in
theorem c_X2_become {E : EV} (hE : EOK E) {S : SC} {g0 : GH} {t : Nat} (ht : t < 30) {u : Nat} (hu : u < 30) {ys : List Int32} (hy : S.1 u = ys) (hne : u ≠ t) (h3 : ys.length ≤ cap t) : Ct E (RC E g0) yX2_become wsX2_become rX2_become [eA E t, eA E u] S none (setT S t ys) := by
  refine ct_of [(0, _), (1, _)] hE (by decide) rfl (Nat.le_of_ble_eq_true rfl) rfl (fun X h hq => ?_)
  refine j_aload_n h 0 dX2_become_0 rfl rfl ?_
  refine j_callVv h (c_X2_clear hE ht) m_X2_clear a_l_X2_51 rfl rfl ⟨Nat.le_of_ble_eq_true rfl, Nat.le_of_ble_eq_true rfl⟩ (ci := 2) rfl (by omega) (rcT (by omega)) rfl rfl (Nat.le_of_ble_eq_true rfl) dX2_become_1 ?_
  refine j_aload_n h 0 dX2_become_4 rfl rfl ?_
  refine j_aload_n h 1 dX2_become_5 rfl rfl ?_
  refine j_callVv h (c_X2_addText hE ht (xs := []) (setT_1s _ _ _) hu (ys := ys) (by rw [setT_1n _ _ hne]; exact hy) hne (by simpa using h3)) m_X2_addText a_l_X2_47 rfl rfl ⟨Nat.le_of_ble_eq_true rfl, Nat.le_of_ble_eq_true rfl⟩ (ci := 2) rfl (by omega) (rcT (by omega)) rfl rfl (Nat.le_of_ble_eq_true rfl) dX2_become_6 ?_
  refine j_S (S2 := setT S t ys) (by rw [setT_T, List.nil_append]) ?_
  exact j_vret h hq rfl dX2_become_9
set_option maxHeartbeats 400000 in
set_option maxRecDepth 20000 in
theorem c_X2_addTurned {E : EV} (hE : EOK E) {S : SC} {g0 : GH} {t : Nat} (ht : t < 30) {xs : List Int32} (hx : S.1 t = xs) {u : Nat} (hu : u < 30) {ys : List Int32} (hy : S.1 u = ys) (hne : u ≠ t) (h3 : xs.length + ys.length ≤ cap t) : Ct E (RC E g0) yX2_addTurned wsX2_addTurned rX2_addTurned [eA E t, eA E u] S none (setT S t (xs ++ rv ys ys.length)) := by
  refine ct_of [(0, _), (1, _)] hE (by decide) rfl (Nat.le_of_ble_eq_true rfl) rfl (fun X h hq => ?_)
  refine j_of (fun G hG => RC_len hG ht) (fun hl => ?_)
  rw [hx] at hl
  have hc := cap_le t
  refine j_of (fun G hG => RC_len hG hu) (fun hlu => ?_)
  rw [hy] at hlu
  have hcu := cap_le u
  refine j_aload_n h 1 dX2_addTurned_0 rfl rfl ?_
  refine jx_Tsize h hy a_f_X2_21 (by omega) dX2_addTurned_1 ?_
  refine j_iconst h dX2_addTurned_4 ?_
  refine j_isub h dX2_addTurned_5 ?_
  refine j_istore_n h [(2, _), (0, _), (1, _)] dX2_addTurned_6 rfl (by decide) rfl ?_
  refine j_sub [0, 1, 2] rfl ?_
  refine j_S (S2 := setT S t xs) (by rw [← hx, setT_id]) ?_
  refine lpA2 (fun (z : Int) (_ : List Int32) => (z + 1).toNat) (fun (z : Int) (zs : List Int32) => -1 ≤ z → z < ys.length → zs.length + (z + 1).toNat ≤ cap t → zs ++ rv ys (z + 1).toNat = xs ++ rv ys ys.length → JL E (RC E g0) X 7 [(2, .int (iI z)), (0, eA E t), (1, eA E u)] [] (setT S t zs)) (fun z zs ih ha hb hcp hv => ?_) _ xs (by omega) (by omega) (by omega) (by rw [show ((ys.length : Int) - 1 + 1).toNat = ys.length by omega])
  refine j_iload_n h 0 dX2_addTurned_7 rfl rfl ?_
  refine j_if_lt h 26 dX2_addTurned_8 (by decide) (by first | exact okI_of _ | exact okI_b _ | (unfold okI; omega)) (fun c8 => ?_) (fun c8 => ?_)
  · rw [show (z + 1).toNat = 0 by omega, rv, List.append_nil] at hv
    rw [← hv] at hq
    exact j_vret h hq rfl dX2_addTurned_26
  · refine j_aload_n h 1 dX2_addTurned_11 rfl rfl ?_
    refine j_aload_n h 2 dX2_addTurned_12 rfl rfl ?_
    refine j_iload_n h 0 dX2_addTurned_13 rfl rfl ?_
    refine j_callV h (c_X2_at hE hu (xs := ys) (by rw [setT_1n _ _ hne]; exact hy) (by omega) (by omega)) m_X2_at a_l_X2_25 rfl rfl ⟨Nat.le_of_ble_eq_true rfl, Nat.le_of_ble_eq_true rfl⟩ (ci := 2) rfl (by omega) (rcT (by omega)) rfl rfl (Nat.le_of_ble_eq_true rfl) dX2_addTurned_14 ?_
    refine j_callVv h (c_X2_add hE ht (xs := zs) (setT_1s _ _ _) (by omega)) m_X2_add a_l_X2_29 rfl rfl ⟨Nat.le_of_ble_eq_true rfl, Nat.le_of_ble_eq_true rfl⟩ (ci := 2) rfl (by omega) (rcT (by omega)) rfl rfl (Nat.le_of_ble_eq_true rfl) dX2_addTurned_17 ?_
    refine j_iinc h 0 [(2, _), (0, _), (1, _)] dX2_addTurned_20 rfl (by decide) rfl ?_
    refine j_goto h 7 dX2_addTurned_23 (by decide) ?_
    refine j_S (S2 := setT S t (zs ++ [gz ys z.toNat])) (by rw [setT_T]) ?_
    exact ih (z + -1) _ (by omega) (by omega) (by omega) (by simp only [List.length_append, List.length_cons, List.length_nil]; omega) (by rw [← hv, show (z + 1).toNat = (z + -1 + 1).toNat + 1 by omega, rv, show (z + -1 + 1).toNat = z.toNat by omega, List.append_assoc]; rfl)
end
section
/-! Text: what is asked of it -/
theorem c_asTold_raw {E : EV} (hE : EOK E) {τ : Type} {Rp : τ → GH → Prop} {S : τ} (x : Int32) (cs : Bool) : Ct E Rp yX3_asTold wsX3_asTold rX3_asTold [.int x, .int (iI (bI cs))] S (some (.int (tl cs x))) S := by
  have := c_X3_asTold hE (Rp := Rp) (S := S) (okI_of x) cs
  rwa [iI_of] at this
theorem c_isLoose_raw {E : EV} (hE : EOK E) {τ : Type} {Rp : τ → GH → Prop} {S : τ} (x : Int32) (b : Bool) : Ct E Rp yX3_isLoose wsX3_isLoose rX3_isLoose [.int x, .int (iI (bI b))] S (some (.int (iI (bI (lsb b x.toInt))))) S := by
  have := c_X3_isLoose hE (Rp := Rp) (S := S) (okI_of x) b
  rwa [iI_of] at this
def sgz (a b : Int) : Int := if b < a then 1 else if a = b then 0 else -1
theorem okI_sgz (a b : Int) : okI (sgz a b) := by unfold sgz okI; split <;> (try split) <;> omega
theorem sgz_gt {a b : Int} : 0 < sgz a b ↔ b < a := by unfold sgz; split <;> (try split) <;> omega
theorem sgz_le {a b : Int} : sgz a b ≤ 0 ↔ a ≤ b := by unfold sgz; split <;> (try split) <;> omega
theorem lI_inj {a b : Int} (ha : okL a) (hb : okL b) : lI a = lI b ↔ a = b := ⟨fun h => by rw [← lI_toInt ha, ← lI_toInt hb, h], fun h => by rw [h]⟩
theorem lg_cmp_lI {a b : Int} (ha : okL a) (hb : okL b) : lg_cmp (lI a) (lI b) = iI (sgz a b) := by
  unfold lg_cmp sgz
  have h1 : (lI a > lI b) ↔ b < a := by
    show lI b < lI a ↔ _
    rw [Int64.lt_iff_toInt_lt, lI_toInt ha, lI_toInt hb]
  by_cases q : b < a
  · rw [if_pos (h1.mpr q), if_pos q]; rfl
  · rw [if_neg (fun z => q (h1.mp z)), if_neg q]
    by_cases w : a = b
    · rw [if_pos ((lI_inj ha hb).mpr w), if_pos w]; rfl
    · rw [if_neg (fun z => w ((lI_inj ha hb).mp z)), if_neg w]; rfl
theorem lg_cmp_0 {x y : Int64} : lg_cmp x y = 0 ↔ x = y := by
  unfold lg_cmp
  by_cases q : x > y
  · rw [if_pos q]
    refine ⟨fun h => absurd h (by decide), fun h => ?_⟩
    subst h
    exact absurd q (by rw [gt_iff_lt, Int64.lt_iff_toInt_lt]; omega)
  · rw [if_neg q]
    by_cases w : x = y
    · rw [if_pos w]; exact ⟨fun _ => w, fun _ => rfl⟩
    · rw [if_neg w]; exact ⟨fun h => absurd h (by decide), fun h => absurd h w⟩
theorem iI_sub0 {a b : Int} : iI (a - b) = 0 ↔ iI a = iI b := by
  rw [← iI_sub]
  refine ⟨fun h => ?_, fun h => by rw [h, Int32.sub_self]⟩
  have := congrArg (· + iI b) h
  simpa [Int32.sub_add_cancel, Int32.zero_add] using this
theorem lo_step {P : Nat → Bool} {z : Int} {n : Nat} (h0 : 0 ≤ z) (h1 : z < n) : lo P z.toNat (n - z.toNat) = if P z.toNat then z else lo P (z + 1).toNat (n - (z + 1).toNat) := by
  rw [show n - z.toNat = n - (z + 1).toNat + 1 by omega, lo, show z.toNat + 1 = (z + 1).toNat by omega, show ((z.toNat : Nat) : Int) = z by omega]
theorem lo_end {P : Nat → Bool} {z : Int} {n : Nat} (h1 : (n : Int) ≤ z) : lo P z.toNat (n - z.toNat) = -1 := by
  rw [show n - z.toNat = 0 by omega]; rfl
theorem hi_step {P : Nat → Bool} {z : Int} (h0 : 0 ≤ z) : hi P (z + 1).toNat = if P z.toNat then z else hi P (z + -1 + 1).toNat := by
  rw [show (z + 1).toNat = z.toNat + 1 by omega, hi, show (z + -1 + 1).toNat = z.toNat by omega, show ((z.toNat : Nat) : Int) = z by omega]
theorem hi_end {P : Nat → Bool} {z : Int} (h0 : z < 0) : hi P (z + 1).toNat = -1 := by
  rw [show (z + 1).toNat = 0 by omega]; rfl
set_option maxHeartbeats 400000 in
set_option maxRecDepth 20000 in
theorem c_X2_signFrom {E : EV} (hE : EOK E) {S : SC} {g0 : GH} {t : Nat} (ht : t < 30) {xs : List Int32} (hx : S.1 t = xs) {x : Int32} {f : Int} (hf : okI f) : Ct E (RC E g0) yX2_signFrom wsX2_signFrom rX2_signFrom [eA E t, .int x, .int (iI f)] S (some (.int (iI (sgF xs x f)))) S := by
  refine ct_of [(0, _), (1, _), (2, _)] hE (by decide) rfl (Nat.le_of_ble_eq_true rfl) rfl (fun X h hq => ?_)
  refine j_of (fun G hG => RC_len hG ht) (fun hl => ?_)
  rw [hx] at hl
  have hc := cap_le t
  have hmx : ∀ a b : Int, (a ≤ mxI a b ∧ b ≤ mxI a b ∧ (mxI a b = a ∨ mxI a b = b)) := fun a b => by unfold mxI; split <;> omega
  have hmn : ∀ a b : Int, (mnI a b ≤ a ∧ mnI a b ≤ b ∧ (mnI a b = a ∨ mnI a b = b)) := fun a b => by unfold mnI; split <;> omega
  have hf2 := hf
  unfold okI at hf2
  refine j_iconst h dX2_signFrom_0 ?_
  refine j_iload_n h 2 dX2_signFrom_1 rfl rfl ?_
  refine j_max h (by first | exact okI_of _ | exact okI_b _ | exact okI_sgz _ _ | assumption | (unfold okI; omega)) (by first | exact okI_of _ | exact okI_b _ | exact okI_sgz _ _ | assumption | (unfold okI; omega)) a_l_X2_9 ⟨Nat.le_of_ble_eq_true rfl, Nat.le_of_ble_eq_true rfl⟩ (Nat.le_of_ble_eq_true rfl) dX2_signFrom_2 ?_
  refine j_istore_n h [(3, _), (0, _), (1, _), (2, _)] dX2_signFrom_5 rfl (by decide) rfl ?_
  refine j_sub [0, 1, 2] rfl ?_
  have hm := hmx 0 f
  refine lpA1 (fun z : Int => (xs.length - z).toNat) (fun z : Int => 0 ≤ z → z < 2147483648 → lo (fun k => decide (gz xs k = x)) z.toNat (xs.length - z.toNat) = sgF xs x f → JL E (RC E g0) X 6 [(3, .int (iI z)), (0, eA E t), (1, .int x)] [] S) (fun z ih h0 hb hv => ?_) _ (by omega) (by omega) rfl
  refine j_iload_n h 0 dX2_signFrom_6 rfl rfl ?_
  refine j_aload_n h 1 dX2_signFrom_7 rfl rfl ?_
  refine jx_Tsize h hx a_f_X2_21 (by omega) dX2_signFrom_8 ?_
  refine j_icmp_ge h 31 dX2_signFrom_11 (by decide) (by first | exact okI_of _ | exact okI_b _ | exact okI_sgz _ _ | assumption | (unfold okI; omega)) (by first | exact okI_of _ | exact okI_b _ | exact okI_sgz _ _ | assumption | (unfold okI; omega)) (fun c11 => ?_) (fun c11 => ?_)
  · refine j_iconst h dX2_signFrom_31 ?_
    exact j_iret h hq (by rw [← hv, lo_end (by omega)]) dX2_signFrom_32
  · refine j_aload_n h 1 dX2_signFrom_14 rfl rfl ?_
    refine j_iload_n h 0 dX2_signFrom_15 rfl rfl ?_
    refine j_callV h (c_X2_at hE ht hx h0 (by omega)) m_X2_at a_l_X2_25 rfl rfl ⟨Nat.le_of_ble_eq_true rfl, Nat.le_of_ble_eq_true rfl⟩ (ci := 2) rfl (by omega) (rcT (by omega)) rfl rfl (Nat.le_of_ble_eq_true rfl) dX2_signFrom_16 ?_
    refine j_iload_n h 2 dX2_signFrom_19 rfl rfl ?_
    refine j_rcmp_ne h 25 dX2_signFrom_20 (by decide) (fun c20 => ?_) (fun c20 => ?_)
    · refine j_iinc h 0 [(3, _), (0, _), (1, _)] dX2_signFrom_25 rfl (by decide) rfl ?_
      refine j_goto h 6 dX2_signFrom_28 (by decide) ?_
      exact ih (z + 1) (by omega) (by omega) (by omega) (by rw [lo_step h0 (by omega), if_neg (by simpa using c20)] at hv; exact hv)
    · refine j_iload_n h 0 dX2_signFrom_23 rfl rfl ?_
      exact j_iret h hq (by rw [← hv, lo_step h0 (by omega), if_pos (by simpa using c20)]) dX2_signFrom_24
set_option maxHeartbeats 400000 in
set_option maxRecDepth 20000 in
theorem c_X2_signBack {E : EV} (hE : EOK E) {S : SC} {g0 : GH} {t : Nat} (ht : t < 30) {xs : List Int32} (hx : S.1 t = xs) {x : Int32} {f : Int} (hf : okI f) : Ct E (RC E g0) yX2_signBack wsX2_signBack rX2_signBack [eA E t, .int x, .int (iI f)] S (some (.int (iI (sgB xs x f)))) S := by
  refine ct_of [(0, _), (1, _), (2, _)] hE (by decide) rfl (Nat.le_of_ble_eq_true rfl) rfl (fun X h hq => ?_)
  refine j_of (fun G hG => RC_len hG ht) (fun hl => ?_)
  rw [hx] at hl
  have hc := cap_le t
  have hmx : ∀ a b : Int, (a ≤ mxI a b ∧ b ≤ mxI a b ∧ (mxI a b = a ∨ mxI a b = b)) := fun a b => by unfold mxI; split <;> omega
  have hmn : ∀ a b : Int, (mnI a b ≤ a ∧ mnI a b ≤ b ∧ (mnI a b = a ∨ mnI a b = b)) := fun a b => by unfold mnI; split <;> omega
  have hf2 := hf
  unfold okI at hf2
  refine j_iload_n h 2 dX2_signBack_0 rfl rfl ?_
  refine j_aload_n h 0 dX2_signBack_1 rfl rfl ?_
  refine jx_Tsize h hx a_f_X2_21 (by omega) dX2_signBack_2 ?_
  refine j_iconst h dX2_signBack_5 ?_
  refine j_isub h dX2_signBack_6 ?_
  refine j_min h (by first | exact okI_of _ | exact okI_b _ | exact okI_sgz _ _ | assumption | (unfold okI; omega)) (by first | exact okI_of _ | exact okI_b _ | exact okI_sgz _ _ | assumption | (unfold okI; omega)) a_l_X2_54 ⟨Nat.le_of_ble_eq_true rfl, Nat.le_of_ble_eq_true rfl⟩ (Nat.le_of_ble_eq_true rfl) dX2_signBack_7 ?_
  refine j_istore_n h [(3, _), (0, _), (1, _), (2, _)] dX2_signBack_10 rfl (by decide) rfl ?_
  refine j_sub [0, 1, 2] rfl ?_
  have hm := hmn f (xs.length - 1)
  refine lpA1 (fun z : Int => (z + 1).toNat) (fun z : Int => z < xs.length → -2147483648 ≤ z → hi (fun k => decide (gz xs k = x)) (z + 1).toNat = sgB xs x f → JL E (RC E g0) X 11 [(3, .int (iI z)), (0, eA E t), (1, .int x)] [] S) (fun z ih h0 hb hv => ?_) _ (by omega) (by omega) rfl
  refine j_iload_n h 0 dX2_signBack_11 rfl rfl ?_
  refine j_if_lt h 32 dX2_signBack_12 (by decide) (by first | exact okI_of _ | exact okI_b _ | exact okI_sgz _ _ | assumption | (unfold okI; omega)) (fun c12 => ?_) (fun c12 => ?_)
  · refine j_iconst h dX2_signBack_32 ?_
    exact j_iret h hq (by rw [← hv, hi_end (by omega)]) dX2_signBack_33
  · refine j_aload_n h 1 dX2_signBack_15 rfl rfl ?_
    refine j_iload_n h 0 dX2_signBack_16 rfl rfl ?_
    refine j_callV h (c_X2_at hE ht hx (by omega) (by omega)) m_X2_at a_l_X2_25 rfl rfl ⟨Nat.le_of_ble_eq_true rfl, Nat.le_of_ble_eq_true rfl⟩ (ci := 2) rfl (by omega) (rcT (by omega)) rfl rfl (Nat.le_of_ble_eq_true rfl) dX2_signBack_17 ?_
    refine j_iload_n h 2 dX2_signBack_20 rfl rfl ?_
    refine j_rcmp_ne h 26 dX2_signBack_21 (by decide) (fun c21 => ?_) (fun c21 => ?_)
    · refine j_iinc h 0 [(3, _), (0, _), (1, _)] dX2_signBack_26 rfl (by decide) rfl ?_
      refine j_goto h 11 dX2_signBack_29 (by decide) ?_
      exact ih (z + -1) (by omega) (by omega) (by omega) (by rw [hi_step (by omega), if_neg (by simpa using c21)] at hv; exact hv)
    · refine j_iload_n h 0 dX2_signBack_24 rfl rfl ?_
      exact j_iret h hq (by rw [← hv, hi_step (by omega), if_pos (by simpa using c21)]) dX2_signBack_25
set_option maxHeartbeats 400000 in
set_option maxRecDepth 20000 in
theorem c_X2_agrees {E : EV} (hE : EOK E) {S : SC} {g0 : GH} {t : Nat} (ht : t < 30) {xs : List Int32} (hx : S.1 t = xs) {u : Nat} (hu : u < 30) {ys : List Int32} (hy : S.1 u = ys) {p q n : Int} (hp : okI p) (hq0 : okI q) (hn : okI n) (cs : Bool) : Ct E (RC E g0) yX2_agrees wsX2_agrees rX2_agrees [eA E t, .int (iI p), eA E u, .int (iI q), .int (iI n), .int (iI (bI cs))] S (some (.int (iI (bI (agr cs xs ys p q n))))) S := by
  refine ct_of [(0, _), (1, _), (2, _), (3, _), (4, _), (5, _)] hE (by decide) rfl (Nat.le_of_ble_eq_true rfl) rfl (fun X h hq => ?_)
  refine j_of (fun G hG => RC_len hG ht) (fun hl => ?_)
  rw [hx] at hl
  have hc := cap_le t
  refine j_of (fun G hG => RC_len hG hu) (fun hlu => ?_)
  rw [hy] at hlu
  have hcu := cap_le u
  have hp2 := hp
  have hq2 := hq0
  have hn2 := hn
  unfold okI at hp2 hq2 hn2
  refine j_iload_n h 1 dX2_agrees_0 rfl rfl ?_
  refine j_if_lt h 8 dX2_agrees_1 (by decide) (by first | exact okI_of _ | exact okI_b _ | exact okI_sgz _ _ | assumption | (unfold okI; omega)) (fun c1 => ?_) (fun c1 => ?_)
  · refine j_iconst h dX2_agrees_8 ?_
    exact j_zret h hq (bf (by unfold agr; rw [decide_eq_false (by omega)]; rfl)) (by first | exact nzb true | exact nzb false | exact nzb _) dX2_agrees_9
  · refine j_iload_n h 3 dX2_agrees_4 rfl rfl ?_
    refine j_if_ge h 10 dX2_agrees_5 (by decide) (by first | exact okI_of _ | exact okI_b _ | exact okI_sgz _ _ | assumption | (unfold okI; omega)) (fun c5 => ?_) (fun c5 => ?_)
    · refine j_iload_n h 1 dX2_agrees_10 rfl rfl ?_
      refine j_i2l h (lI p) dX2_agrees_11 (iI_i2l hp) ?_
      refine j_iload h 4 dX2_agrees_12 rfl ?_
      refine j_i2l h (lI n) dX2_agrees_14 (iI_i2l hn) ?_
      refine j_ladd h dX2_agrees_15 ?_
      refine j_aload_n h 0 dX2_agrees_16 rfl rfl ?_
      refine jx_Tsize h hx a_f_X2_21 (by omega) dX2_agrees_17 ?_
      refine j_i2l h (lI xs.length) dX2_agrees_20 (iI_i2l (by unfold okI; omega)) ?_
      refine j_lcmp h (iI (sgz (p + n) xs.length)) dX2_agrees_21 (lg_cmp_lI (by unfold okL; omega) (by unfold okL; omega)) ?_
      refine j_if_gt h 40 dX2_agrees_22 (by decide) (by first | exact okI_of _ | exact okI_b _ | exact okI_sgz _ _ | assumption | (unfold okI; omega)) (fun c22 => ?_) (fun c22 => ?_)
      · rw [sgz_gt] at c22
        refine j_iconst h dX2_agrees_40 ?_
        exact j_zret h hq (bf (by unfold agr; rw [decide_eq_false (by omega)]; rfl)) (by first | exact nzb true | exact nzb false | exact nzb _) dX2_agrees_41
      · rw [sgz_le] at c22
        refine j_iload_n h 3 dX2_agrees_25 rfl rfl ?_
        refine j_i2l h (lI q) dX2_agrees_26 (iI_i2l hq0) ?_
        refine j_iload h 4 dX2_agrees_27 rfl ?_
        refine j_i2l h (lI n) dX2_agrees_29 (iI_i2l hn) ?_
        refine j_ladd h dX2_agrees_30 ?_
        refine j_aload_n h 2 dX2_agrees_31 rfl rfl ?_
        refine jx_Tsize h hy a_f_X2_21 (by omega) dX2_agrees_32 ?_
        refine j_i2l h (lI ys.length) dX2_agrees_35 (iI_i2l (by unfold okI; omega)) ?_
        refine j_lcmp h (iI (sgz (q + n) ys.length)) dX2_agrees_36 (lg_cmp_lI (by unfold okL; omega) (by unfold okL; omega)) ?_
        refine j_if_le h 42 dX2_agrees_37 (by decide) (by first | exact okI_of _ | exact okI_b _ | exact okI_sgz _ _ | assumption | (unfold okI; omega)) (fun c37 => ?_) (fun c37 => ?_)
        · rw [sgz_le] at c37
          refine j_iconst h dX2_agrees_42 ?_
          refine j_istore h [(6, _), (0, _), (1, _), (2, _), (3, _), (4, _), (5, _)] dX2_agrees_43 (by decide) rfl ?_
          refine j_sub [0, 1, 2, 3, 4, 5, 6] rfl ?_
          refine lpA1 (fun z : Int => (n - z).toNat) (fun z : Int => 0 ≤ z → (z = 0 ∨ z ≤ n) → agr cs xs ys p q n = eqs cs xs ys (p + z).toNat (q + z).toNat (n - z).toNat → JL E (RC E g0) X 45 [(6, .int (iI z)), (0, eA E t), (1, .int (iI p)), (2, eA E u), (3, .int (iI q)), (4, .int (iI n)), (5, .int (iI (bI cs)))] [] S) (fun z ih h0 hb hv => ?_) 0 (Int.le_refl 0) (Or.inl rfl) (by unfold agr; rw [decide_eq_true (by omega), Bool.true_and]; simp)
          refine j_iload h 0 dX2_agrees_45 rfl ?_
          refine j_iload h 5 dX2_agrees_47 rfl ?_
          refine j_icmp_ge h 93 dX2_agrees_49 (by decide) (by first | exact okI_of _ | exact okI_b _ | exact okI_sgz _ _ | assumption | (unfold okI; omega)) (by first | exact okI_of _ | exact okI_b _ | exact okI_sgz _ _ | assumption | (unfold okI; omega)) (fun c49 => ?_) (fun c49 => ?_)
          · refine j_iconst h dX2_agrees_93 ?_
            exact j_zret h hq (bt (by rw [hv, show (n - z).toNat = 0 by omega]; rfl)) (by first | exact nzb true | exact nzb false | exact nzb _) dX2_agrees_94
          · refine j_aload_n h 1 dX2_agrees_52 rfl rfl ?_
            refine j_iload_n h 2 dX2_agrees_53 rfl rfl ?_
            refine j_iload h 0 dX2_agrees_54 rfl ?_
            refine j_iadd h dX2_agrees_56 ?_
            refine j_callV h (c_X2_at hE ht hx (by omega) (by omega)) m_X2_at a_l_X2_25 rfl rfl ⟨Nat.le_of_ble_eq_true rfl, Nat.le_of_ble_eq_true rfl⟩ (ci := 2) rfl (by omega) (rcT (by omega)) rfl rfl (Nat.le_of_ble_eq_true rfl) dX2_agrees_57 ?_
            refine j_iload h 6 dX2_agrees_60 rfl ?_
            refine j_callN (host := "TextShelves") h (c_asTold_raw hE _ cs) m_X3_asTold (by decide) rfl rfl ⟨Nat.le_of_ble_eq_true rfl, Nat.le_of_ble_eq_true rfl⟩ rfl rfl (Nat.le_of_ble_eq_true rfl) dX2_agrees_62 ?_
            refine j_istore h [(7, _), (6, _), (0, _), (1, _), (2, _), (3, _), (4, _), (5, _)] dX2_agrees_65 (by decide) rfl ?_
            refine j_iload h 0 dX2_agrees_67 rfl ?_
            refine j_aload_n h 4 dX2_agrees_69 rfl rfl ?_
            refine j_iload_n h 5 dX2_agrees_70 rfl rfl ?_
            refine j_iload h 1 dX2_agrees_71 rfl ?_
            refine j_iadd h dX2_agrees_73 ?_
            refine j_callV h (c_X2_at hE hu hy (by omega) (by omega)) m_X2_at a_l_X2_25 rfl rfl ⟨Nat.le_of_ble_eq_true rfl, Nat.le_of_ble_eq_true rfl⟩ (ci := 2) rfl (by omega) (rcT (by omega)) rfl rfl (Nat.le_of_ble_eq_true rfl) dX2_agrees_74 ?_
            refine j_iload h 7 dX2_agrees_77 rfl ?_
            refine j_callN (host := "TextShelves") h (c_asTold_raw hE _ cs) m_X3_asTold (by decide) rfl rfl ⟨Nat.le_of_ble_eq_true rfl, Nat.le_of_ble_eq_true rfl⟩ rfl rfl (Nat.le_of_ble_eq_true rfl) dX2_agrees_79 ?_
            refine j_rcmp_eq h 87 dX2_agrees_82 (by decide) (fun c82 => ?_) (fun c82 => ?_)
            · refine j_iinc h 1 [(6, _), (7, _), (0, _), (1, _), (2, _), (3, _), (4, _), (5, _)] dX2_agrees_87 rfl (by decide) rfl ?_
              refine j_goto h 45 dX2_agrees_90 (by decide) ?_
              refine j_sub [0, 2, 3, 4, 5, 6, 7] rfl ?_
              exact ih (z + 1) (by omega) (by omega) (by omega) (by rw [hv, show (n - z).toNat = (n - (z + 1)).toNat + 1 by omega, eqs, decide_eq_true c82, Bool.true_and, show (p + z).toNat + 1 = (p + (z + 1)).toNat by omega, show (q + z).toNat + 1 = (q + (z + 1)).toNat by omega])
            · refine j_iconst h dX2_agrees_85 ?_
              exact j_zret h hq (bf (by rw [hv, show (n - z).toNat = (n - (z + 1)).toNat + 1 by omega, eqs, decide_eq_false c82]; rfl)) (by first | exact nzb true | exact nzb false | exact nzb _) dX2_agrees_86
        · have c37b : ¬ sgz (q + n) ys.length ≤ 0 := by omega
          rw [sgz_le] at c37b
          refine j_iconst h dX2_agrees_40 ?_
          exact j_zret h hq (bf (by unfold agr; rw [decide_eq_false (by omega)]; rfl)) (by first | exact nzb true | exact nzb false | exact nzb _) dX2_agrees_41
    · refine j_iconst h dX2_agrees_8 ?_
      exact j_zret h hq (bf (by unfold agr; rw [decide_eq_false (by omega)]; rfl)) (by first | exact nzb true | exact nzb false | exact nzb _) dX2_agrees_9
set_option maxHeartbeats 400000 in
set_option maxRecDepth 20000 in
theorem c_X2_bears {E : EV} (hE : EOK E) {S : SC} {g0 : GH} {t : Nat} (ht : t < 30) {xs : List Int32} (hx : S.1 t = xs) {u : Nat} (hu : u < 30) {ys : List Int32} (hy : S.1 u = ys) {z : Int} (hz : okI z) : Ct E (RC E g0) yX2_bears wsX2_bears rX2_bears [eA E t, eA E u, .int (iI z)] S (some (.int (iI (bI (bz xs ys z))))) S := by
  refine ct_of [(0, _), (1, _), (2, _)] hE (by decide) rfl (Nat.le_of_ble_eq_true rfl) rfl (fun X h hq => ?_)
  refine j_of (fun G hG => RC_len hG ht) (fun hl => ?_)
  rw [hx] at hl
  have hc := cap_le t
  refine j_of (fun G hG => RC_len hG hu) (fun hlu => ?_)
  rw [hy] at hlu
  have hcu := cap_le u
  refine j_aload_n h 0 dX2_bears_0 rfl rfl ?_
  refine j_iload_n h 2 dX2_bears_1 rfl rfl ?_
  refine j_aload_n h 1 dX2_bears_2 rfl rfl ?_
  refine j_iconst h dX2_bears_3 ?_
  refine j_aload_n h 1 dX2_bears_4 rfl rfl ?_
  refine jx_Tsize h hy a_f_X2_21 (by omega) dX2_bears_5 ?_
  refine j_iconst h dX2_bears_8 ?_
  refine j_callV h (c_X2_agrees hE ht hx hu hy hz ⟨by decide, by decide⟩ (by unfold okI; omega) true) m_X2_agrees a_l_X2_57 rfl rfl ⟨Nat.le_of_ble_eq_true rfl, Nat.le_of_ble_eq_true rfl⟩ (ci := 2) rfl (by omega) (rcT (by omega)) rfl rfl (Nat.le_of_ble_eq_true rfl) dX2_bears_9 ?_
  exact j_zret h hq rfl (by first | exact nzb true | exact nzb false | exact nzb _) dX2_bears_12
set_option maxHeartbeats 400000 in
set_option maxRecDepth 20000 in
theorem c_X2_agreesWholly {E : EV} (hE : EOK E) {S : SC} {g0 : GH} {t : Nat} (ht : t < 30) {xs : List Int32} (hx : S.1 t = xs) {u : Nat} (hu : u < 30) {ys : List Int32} (hy : S.1 u = ys) (cs : Bool) : Ct E (RC E g0) yX2_agreesWholly wsX2_agreesWholly rX2_agreesWholly [eA E t, eA E u, .int (iI (bI cs))] S (some (.int (iI (bI (who cs xs ys))))) S := by
  refine ct_of [(0, _), (1, _), (2, _)] hE (by decide) rfl (Nat.le_of_ble_eq_true rfl) rfl (fun X h hq => ?_)
  refine j_of (fun G hG => RC_len hG ht) (fun hl => ?_)
  rw [hx] at hl
  have hc := cap_le t
  refine j_of (fun G hG => RC_len hG hu) (fun hlu => ?_)
  rw [hy] at hlu
  have hcu := cap_le u
  refine j_aload_n h 0 dX2_agreesWholly_0 rfl rfl ?_
  refine jx_Tsize h hx a_f_X2_21 (by omega) dX2_agreesWholly_1 ?_
  refine j_aload_n h 1 dX2_agreesWholly_4 rfl rfl ?_
  refine jx_Tsize h hy a_f_X2_21 (by omega) dX2_agreesWholly_5 ?_
  refine j_icmp_ne h 30 dX2_agreesWholly_8 (by decide) (by first | exact okI_of _ | exact okI_b _ | exact okI_sgz _ _ | assumption | (unfold okI; omega)) (by first | exact okI_of _ | exact okI_b _ | exact okI_sgz _ _ | assumption | (unfold okI; omega)) (fun c8 => ?_) (fun c8 => ?_)
  · refine j_iconst h dX2_agreesWholly_30 ?_
    exact j_zret h hq (by first | exact bt (by unfold who; rw [decide_eq_true (by omega), c23]; rfl) | exact bf (by unfold who; rw [c23, Bool.and_false]) | exact bf (by unfold who; rw [decide_eq_false (by omega)]; rfl)) (by first | exact nzb true | exact nzb false | exact nzb _) dX2_agreesWholly_31
  · refine j_aload_n h 0 dX2_agreesWholly_11 rfl rfl ?_
    refine j_iconst h dX2_agreesWholly_12 ?_
    refine j_aload_n h 1 dX2_agreesWholly_13 rfl rfl ?_
    refine j_iconst h dX2_agreesWholly_14 ?_
    refine j_aload_n h 0 dX2_agreesWholly_15 rfl rfl ?_
    refine jx_Tsize h hx a_f_X2_21 (by omega) dX2_agreesWholly_16 ?_
    refine j_iload_n h 2 dX2_agreesWholly_19 rfl rfl ?_
    refine j_callV h (c_X2_agrees hE ht hx hu hy ⟨by decide, by decide⟩ ⟨by decide, by decide⟩ (by unfold okI; omega) cs) m_X2_agrees a_l_X2_57 rfl rfl ⟨Nat.le_of_ble_eq_true rfl, Nat.le_of_ble_eq_true rfl⟩ (ci := 2) rfl (by omega) (rcT (by omega)) rfl rfl (Nat.le_of_ble_eq_true rfl) dX2_agreesWholly_20 ?_
    refine j_if_eq h 30 dX2_agreesWholly_23 (by decide) (by first | exact okI_of _ | exact okI_b _ | exact okI_sgz _ _ | assumption | (unfold okI; omega)) (fun c23 => ?_) (fun c23 => ?_)
    · rw [bI_0] at c23
      refine j_iconst h dX2_agreesWholly_30 ?_
      exact j_zret h hq (by first | exact bt (by unfold who; rw [decide_eq_true (by omega), c23]; rfl) | exact bf (by unfold who; rw [c23, Bool.and_false]) | exact bf (by unfold who; rw [decide_eq_false (by omega)]; rfl)) (by first | exact nzb true | exact nzb false | exact nzb _) dX2_agreesWholly_31
    · rw [bI_n0] at c23
      refine j_iconst h dX2_agreesWholly_26 ?_
      refine j_goto h 31 dX2_agreesWholly_27 (by decide) ?_
      exact j_zret h hq (by first | exact bt (by unfold who; rw [decide_eq_true (by omega), c23]; rfl) | exact bf (by unfold who; rw [c23, Bool.and_false]) | exact bf (by unfold who; rw [decide_eq_false (by omega)]; rfl)) (by first | exact nzb true | exact nzb false | exact nzb _) dX2_agreesWholly_31
end
section
/-! Text: what is asked of it, on -/
set_option maxHeartbeats 400000 in
set_option maxRecDepth 20000 in
theorem c_X2_placeFrom {E : EV} (hE : EOK E) {S : SC} {g0 : GH} {t : Nat} (ht : t < 30) {xs : List Int32} (hx : S.1 t = xs) {u : Nat} (hu : u < 30) {ys : List Int32} (hy : S.1 u = ys) {f : Int} (hf : okI f) : Ct E (RC E g0) yX2_placeFrom wsX2_placeFrom rX2_placeFrom [eA E t, eA E u, .int (iI f)] S (some (.int (iI (plF xs ys f)))) S := by
  refine ct_of [(0, _), (1, _), (2, _)] hE (by decide) rfl (Nat.le_of_ble_eq_true rfl) rfl (fun X h hq => ?_)
  refine j_of (fun G hG => RC_len hG ht) (fun hl => ?_)
  rw [hx] at hl
  have hc := cap_le t
  refine j_of (fun G hG => RC_len hG hu) (fun hlu => ?_)
  rw [hy] at hlu
  have hcu := cap_le u
  have hmx : ∀ a b : Int, (a ≤ mxI a b ∧ b ≤ mxI a b ∧ (mxI a b = a ∨ mxI a b = b)) := fun a b => by unfold mxI; split <;> omega
  have hmn : ∀ a b : Int, (mnI a b ≤ a ∧ mnI a b ≤ b ∧ (mnI a b = a ∨ mnI a b = b)) := fun a b => by unfold mnI; split <;> omega
  have hf2 := hf
  unfold okI at hf2
  have hm := hmn f xs.length
  have hm2 := hmx 0 (mnI f xs.length)
  refine j_iconst h dX2_placeFrom_0 ?_
  refine j_iload_n h 2 dX2_placeFrom_1 rfl rfl ?_
  refine j_aload_n h 0 dX2_placeFrom_2 rfl rfl ?_
  refine jx_Tsize h hx a_f_X2_21 (by omega) dX2_placeFrom_3 ?_
  refine j_min h (by first | exact okI_of _ | exact okI_b _ | exact okI_sgz _ _ | assumption | (unfold okI; omega)) (by first | exact okI_of _ | exact okI_b _ | exact okI_sgz _ _ | assumption | (unfold okI; omega)) a_l_X2_54 ⟨Nat.le_of_ble_eq_true rfl, Nat.le_of_ble_eq_true rfl⟩ (Nat.le_of_ble_eq_true rfl) dX2_placeFrom_6 ?_
  refine j_max h (by first | exact okI_of _ | exact okI_b _ | exact okI_sgz _ _ | assumption | (unfold okI; omega)) (by first | exact okI_of _ | exact okI_b _ | exact okI_sgz _ _ | assumption | (unfold okI; omega)) a_l_X2_9 ⟨Nat.le_of_ble_eq_true rfl, Nat.le_of_ble_eq_true rfl⟩ (Nat.le_of_ble_eq_true rfl) dX2_placeFrom_9 ?_
  refine j_istore_n h [(3, _), (0, _), (1, _), (2, _)] dX2_placeFrom_12 rfl (by decide) rfl ?_
  refine j_iload_n h 0 dX2_placeFrom_13 rfl rfl ?_
  refine j_istore h [(4, _), (3, _), (0, _), (1, _), (2, _)] dX2_placeFrom_14 (by decide) rfl ?_
  refine j_sub [0, 2, 3] rfl ?_
  refine lpA1 (fun z : Int => (xs.length + 1 - z).toNat) (fun z : Int => 0 ≤ z → z ≤ xs.length + 1 → lo (fun k => bz xs ys k) z.toNat (xs.length + 1 - z.toNat) = plF xs ys f → JL E (RC E g0) X 16 [(4, .int (iI z)), (0, eA E t), (1, eA E u)] [] S) (fun z ih h0 hb hv => ?_) _ (by omega) (by omega) rfl
  refine j_iload h 0 dX2_placeFrom_16 rfl ?_
  refine j_aload_n h 1 dX2_placeFrom_18 rfl rfl ?_
  refine jx_Tsize h hx a_f_X2_21 (by omega) dX2_placeFrom_19 ?_
  refine j_aload_n h 2 dX2_placeFrom_22 rfl rfl ?_
  refine jx_Tsize h hy a_f_X2_21 (by omega) dX2_placeFrom_23 ?_
  refine j_isub h dX2_placeFrom_26 ?_
  refine j_icmp_gt h 49 dX2_placeFrom_27 (by decide) (by first | exact okI_of _ | exact okI_b _ | exact okI_sgz _ _ | assumption | (unfold okI; omega)) (by first | exact okI_of _ | exact okI_b _ | exact okI_sgz _ _ | assumption | (unfold okI; omega)) (fun c27 => ?_) (fun c27 => ?_)
  · refine j_iconst h dX2_placeFrom_49 ?_
    exact j_iret h hq (by rw [← hv, lo_none _ _ (fun k h1 h2 => bz_out (Or.inr (by omega)))]) dX2_placeFrom_50
  · refine j_aload_n h 1 dX2_placeFrom_30 rfl rfl ?_
    refine j_aload_n h 2 dX2_placeFrom_31 rfl rfl ?_
    refine j_iload h 0 dX2_placeFrom_32 rfl ?_
    refine j_callV h (c_X2_bears hE ht hx hu hy (by unfold okI; omega)) m_X2_bears a_l_X2_43 rfl rfl ⟨Nat.le_of_ble_eq_true rfl, Nat.le_of_ble_eq_true rfl⟩ (ci := 2) rfl (by omega) (rcT (by omega)) rfl rfl (Nat.le_of_ble_eq_true rfl) dX2_placeFrom_34 ?_
    refine j_if_eq h 43 dX2_placeFrom_37 (by decide) (by first | exact okI_of _ | exact okI_b _ | exact okI_sgz _ _ | assumption | (unfold okI; omega)) (fun c37 => ?_) (fun c37 => ?_)
    · rw [bI_0] at c37
      refine j_iinc h 0 [(4, _), (0, _), (1, _)] dX2_placeFrom_43 rfl (by decide) rfl ?_
      refine j_goto h 16 dX2_placeFrom_46 (by decide) ?_
      exact ih (z + 1) (by omega) (by omega) (by omega) (by rw [lo_step h0 (by omega), if_neg (by rw [show ((z.toNat : Nat) : Int) = z by omega, c37]; simp)] at hv; exact hv)
    · rw [bI_n0] at c37
      refine j_iload h 0 dX2_placeFrom_40 rfl ?_
      exact j_iret h hq (by rw [← hv, lo_step h0 (by omega), if_pos (by rw [show ((z.toNat : Nat) : Int) = z by omega, c37])]) dX2_placeFrom_42
set_option maxHeartbeats 400000 in
set_option maxRecDepth 20000 in
theorem c_X2_placeBack {E : EV} (hE : EOK E) {S : SC} {g0 : GH} {t : Nat} (ht : t < 30) {xs : List Int32} (hx : S.1 t = xs) {u : Nat} (hu : u < 30) {ys : List Int32} (hy : S.1 u = ys) {f : Int} (hf : okI f) : Ct E (RC E g0) yX2_placeBack wsX2_placeBack rX2_placeBack [eA E t, eA E u, .int (iI f)] S (some (.int (iI (plB xs ys f)))) S := by
  refine ct_of [(0, _), (1, _), (2, _)] hE (by decide) rfl (Nat.le_of_ble_eq_true rfl) rfl (fun X h hq => ?_)
  refine j_of (fun G hG => RC_len hG ht) (fun hl => ?_)
  rw [hx] at hl
  have hc := cap_le t
  refine j_of (fun G hG => RC_len hG hu) (fun hlu => ?_)
  rw [hy] at hlu
  have hcu := cap_le u
  have hmx : ∀ a b : Int, (a ≤ mxI a b ∧ b ≤ mxI a b ∧ (mxI a b = a ∨ mxI a b = b)) := fun a b => by unfold mxI; split <;> omega
  have hmn : ∀ a b : Int, (mnI a b ≤ a ∧ mnI a b ≤ b ∧ (mnI a b = a ∨ mnI a b = b)) := fun a b => by unfold mnI; split <;> omega
  have hf2 := hf
  unfold okI at hf2
  have hm := hmn f xs.length
  have hm2 := hmn f ((xs.length : Int) - ys.length)
  refine j_iload_n h 2 dX2_placeBack_0 rfl rfl ?_
  refine j_aload_n h 0 dX2_placeBack_1 rfl rfl ?_
  refine jx_Tsize h hx a_f_X2_21 (by omega) dX2_placeBack_2 ?_
  refine j_aload_n h 1 dX2_placeBack_5 rfl rfl ?_
  refine jx_Tsize h hy a_f_X2_21 (by omega) dX2_placeBack_6 ?_
  refine j_isub h dX2_placeBack_9 ?_
  refine j_min h (by first | exact okI_of _ | exact okI_b _ | exact okI_sgz _ _ | assumption | (unfold okI; omega)) (by first | exact okI_of _ | exact okI_b _ | exact okI_sgz _ _ | assumption | (unfold okI; omega)) a_l_X2_54 ⟨Nat.le_of_ble_eq_true rfl, Nat.le_of_ble_eq_true rfl⟩ (Nat.le_of_ble_eq_true rfl) dX2_placeBack_10 ?_
  refine j_istore_n h [(3, _), (0, _), (1, _), (2, _)] dX2_placeBack_13 rfl (by decide) rfl ?_
  refine j_sub [0, 1, 2] rfl ?_
  refine lpA1 (fun z : Int => (z + 1).toNat) (fun z : Int => z ≤ xs.length → -2147483648 ≤ z → hi (fun k => bz xs ys k) (z + 1).toNat = plB xs ys f → JL E (RC E g0) X 14 [(3, .int (iI z)), (0, eA E t), (1, eA E u)] [] S) (fun z ih h0 hb hv => ?_) _ (by omega) (by omega) (by unfold plB; exact (hi_skip _ (by omega) (fun k h1 h2 => bz_out (Or.inr (by omega)))).symm)
  refine j_iload_n h 0 dX2_placeBack_14 rfl rfl ?_
  refine j_if_lt h 35 dX2_placeBack_15 (by decide) (by first | exact okI_of _ | exact okI_b _ | exact okI_sgz _ _ | assumption | (unfold okI; omega)) (fun c15 => ?_) (fun c15 => ?_)
  · refine j_iconst h dX2_placeBack_35 ?_
    exact j_iret h hq (by rw [← hv, hi_end (by omega)]) dX2_placeBack_36
  · refine j_aload_n h 1 dX2_placeBack_18 rfl rfl ?_
    refine j_aload_n h 2 dX2_placeBack_19 rfl rfl ?_
    refine j_iload_n h 0 dX2_placeBack_20 rfl rfl ?_
    refine j_callV h (c_X2_bears hE ht hx hu hy (by unfold okI; omega)) m_X2_bears a_l_X2_43 rfl rfl ⟨Nat.le_of_ble_eq_true rfl, Nat.le_of_ble_eq_true rfl⟩ (ci := 2) rfl (by omega) (rcT (by omega)) rfl rfl (Nat.le_of_ble_eq_true rfl) dX2_placeBack_21 ?_
    refine j_if_eq h 29 dX2_placeBack_24 (by decide) (by first | exact okI_of _ | exact okI_b _ | exact okI_sgz _ _ | assumption | (unfold okI; omega)) (fun c24 => ?_) (fun c24 => ?_)
    · rw [bI_0] at c24
      refine j_iinc h 0 [(3, _), (0, _), (1, _)] dX2_placeBack_29 rfl (by decide) rfl ?_
      refine j_goto h 14 dX2_placeBack_32 (by decide) ?_
      exact ih (z + -1) (by omega) (by omega) (by omega) (by rw [hi_step (by omega), if_neg (by rw [show ((z.toNat : Nat) : Int) = z by omega, c24]; simp)] at hv; exact hv)
    · rw [bI_n0] at c24
      refine j_iload_n h 0 dX2_placeBack_27 rfl rfl ?_
      exact j_iret h hq (by rw [← hv, hi_step (by omega), if_pos (by rw [show ((z.toNat : Nat) : Int) = z by omega, c24])]) dX2_placeBack_28
theorem ord_step {cs : Bool} {xs ys : List Int32} {z : Int} {m : Nat} (h0 : 0 ≤ z) (h1 : z < m) : ord cs xs ys z.toNat (m - z.toNat) = if tl cs (gz xs z.toNat) = tl cs (gz ys z.toNat) then ord cs xs ys (z + 1).toNat (m - (z + 1).toNat) else iI (tlz cs (gz xs z.toNat).toInt - tlz cs (gz ys z.toNat).toInt) := by
  rw [show m - z.toNat = m - (z + 1).toNat + 1 by omega, ord, show z.toNat + 1 = (z + 1).toNat by omega]
theorem ord_end {cs : Bool} {xs ys : List Int32} {z : Int} {m : Nat} (h1 : (m : Int) ≤ z) : ord cs xs ys z.toNat (m - z.toNat) = iI ((xs.length : Int) - ys.length) := by
  rw [show m - z.toNat = 0 by omega]; rfl
set_option maxHeartbeats 400000 in
set_option maxRecDepth 20000 in
theorem c_X2_order {E : EV} (hE : EOK E) {S : SC} {g0 : GH} {t : Nat} (ht : t < 30) {xs : List Int32} (hx : S.1 t = xs) {u : Nat} (hu : u < 30) {ys : List Int32} (hy : S.1 u = ys) (cs : Bool) : Ct E (RC E g0) yX2_order wsX2_order rX2_order [eA E t, eA E u, .int (iI (bI cs))] S (some (.int (orI cs xs ys))) S := by
  refine ct_of [(0, _), (1, _), (2, _)] hE (by decide) rfl (Nat.le_of_ble_eq_true rfl) rfl (fun X h hq => ?_)
  refine j_of (fun G hG => RC_len hG ht) (fun hl => ?_)
  rw [hx] at hl
  have hc := cap_le t
  refine j_of (fun G hG => RC_len hG hu) (fun hlu => ?_)
  rw [hy] at hlu
  have hcu := cap_le u
  refine j_iconst h dX2_order_0 ?_
  refine j_istore_n h [(3, _), (0, _), (1, _), (2, _)] dX2_order_1 rfl (by decide) rfl ?_
  refine j_sub [0, 1, 2, 3] rfl ?_
  refine lpA1 (fun z : Int => (xs.length - z).toNat) (fun z : Int => 0 ≤ z → z ≤ xs.length → ord cs xs ys z.toNat (min xs.length ys.length - z.toNat) = orI cs xs ys → JL E (RC E g0) X 2 [(3, .int (iI z)), (0, eA E t), (1, eA E u), (2, .int (iI (bI cs)))] [] S) (fun z ih h0 hb hv => ?_) 0 (Int.le_refl 0) (by omega) rfl
  refine j_iload_n h 0 dX2_order_2 rfl rfl ?_
  refine j_aload_n h 1 dX2_order_3 rfl rfl ?_
  refine jx_Tsize h hx a_f_X2_21 (by omega) dX2_order_4 ?_
  refine j_icmp_ge h 53 dX2_order_7 (by decide) (by first | exact okI_of _ | exact okI_b _ | exact okI_sgz _ _ | assumption | (unfold okI; omega)) (by first | exact okI_of _ | exact okI_b _ | exact okI_sgz _ _ | assumption | (unfold okI; omega)) (fun c7 => ?_) (fun c7 => ?_)
  · refine j_aload_n h 1 dX2_order_53 rfl rfl ?_
    refine jx_Tsize h hx a_f_X2_21 (by omega) dX2_order_54 ?_
    refine j_aload_n h 2 dX2_order_57 rfl rfl ?_
    refine jx_Tsize h hy a_f_X2_21 (by omega) dX2_order_58 ?_
    refine j_isub h dX2_order_61 ?_
    exact j_iret h hq (by rw [← hv, ord_end (by omega)]) dX2_order_62
  · refine j_iload_n h 0 dX2_order_10 rfl rfl ?_
    refine j_aload_n h 2 dX2_order_11 rfl rfl ?_
    refine jx_Tsize h hy a_f_X2_21 (by omega) dX2_order_12 ?_
    refine j_icmp_ge h 53 dX2_order_15 (by decide) (by first | exact okI_of _ | exact okI_b _ | exact okI_sgz _ _ | assumption | (unfold okI; omega)) (by first | exact okI_of _ | exact okI_b _ | exact okI_sgz _ _ | assumption | (unfold okI; omega)) (fun c15 => ?_) (fun c15 => ?_)
    · refine j_aload_n h 1 dX2_order_53 rfl rfl ?_
      refine jx_Tsize h hx a_f_X2_21 (by omega) dX2_order_54 ?_
      refine j_aload_n h 2 dX2_order_57 rfl rfl ?_
      refine jx_Tsize h hy a_f_X2_21 (by omega) dX2_order_58 ?_
      refine j_isub h dX2_order_61 ?_
      exact j_iret h hq (by rw [← hv, ord_end (by omega)]) dX2_order_62
    · refine j_aload_n h 1 dX2_order_18 rfl rfl ?_
      refine j_iload_n h 0 dX2_order_19 rfl rfl ?_
      refine j_callV h (c_X2_at hE ht hx h0 (by omega)) m_X2_at a_l_X2_25 rfl rfl ⟨Nat.le_of_ble_eq_true rfl, Nat.le_of_ble_eq_true rfl⟩ (ci := 2) rfl (by omega) (rcT (by omega)) rfl rfl (Nat.le_of_ble_eq_true rfl) dX2_order_20 ?_
      refine j_iload_n h 3 dX2_order_23 rfl rfl ?_
      refine j_callN (host := "TextShelves") h (c_asTold_raw hE _ cs) m_X3_asTold (by decide) rfl rfl ⟨Nat.le_of_ble_eq_true rfl, Nat.le_of_ble_eq_true rfl⟩ rfl rfl (Nat.le_of_ble_eq_true rfl) dX2_order_24 ?_
      refine j_aload_n h 2 dX2_order_27 rfl rfl ?_
      refine j_iload_n h 0 dX2_order_28 rfl rfl ?_
      refine j_callV h (c_X2_at hE hu hy h0 (by omega)) m_X2_at a_l_X2_25 rfl rfl ⟨Nat.le_of_ble_eq_true rfl, Nat.le_of_ble_eq_true rfl⟩ (ci := 2) rfl (by omega) (rcT (by omega)) rfl rfl (Nat.le_of_ble_eq_true rfl) dX2_order_29 ?_
      refine j_iload_n h 3 dX2_order_32 rfl rfl ?_
      refine j_callN (host := "TextShelves") h (c_asTold_raw hE _ cs) m_X3_asTold (by decide) rfl rfl ⟨Nat.le_of_ble_eq_true rfl, Nat.le_of_ble_eq_true rfl⟩ rfl rfl (Nat.le_of_ble_eq_true rfl) dX2_order_33 ?_
      refine j_isub h dX2_order_36 ?_
      refine j_istore h [(4, _), (3, _), (0, _), (1, _), (2, _)] dX2_order_37 (by decide) rfl ?_
      refine j_iload h 0 dX2_order_39 rfl ?_
      refine j_rif_eq h 47 dX2_order_41 (by decide) (fun c41 => ?_) (fun c41 => ?_)
      · refine j_iinc h 1 [(3, _), (4, _), (0, _), (1, _), (2, _)] dX2_order_47 rfl (by decide) rfl ?_
        refine j_goto h 2 dX2_order_50 (by decide) ?_
        refine j_sub [0, 2, 3, 4] rfl ?_
        exact ih (z + 1) (by omega) (by omega) (by omega) (by rw [ord_step h0 (by omega), if_pos (show tl cs _ = tl cs _ from iI_sub0.mp c41)] at hv; exact hv)
      · refine j_iload h 0 dX2_order_44 rfl ?_
        exact j_iret h hq (by rw [← hv, ord_step h0 (by omega), if_neg (fun q : tl cs _ = tl cs _ => c41 (iI_sub0.mpr q))]) dX2_order_46
set_option maxHeartbeats 400000 in
set_option maxRecDepth 20000 in
theorem c_X2_finds {E : EV} (hE : EOK E) {S : SC} {g0 : GH} {t : Nat} (ht : t < 30) {xs : List Int32} (hx : S.1 t = xs) {u : Nat} (hu : u < 30) {ys : List Int32} (hy : S.1 u = ys) : Ct E (RC E g0) yX2_finds wsX2_finds rX2_finds [eA E t, eA E u] S (some (.int (iI (fdc xs ys (xs.length + 1) 0 : Nat)))) S := by
  refine ct_of [(0, _), (1, _)] hE (by decide) rfl (Nat.le_of_ble_eq_true rfl) rfl (fun X h hq => ?_)
  refine j_of (fun G hG => RC_len hG ht) (fun hl => ?_)
  rw [hx] at hl
  have hc := cap_le t
  refine j_of (fun G hG => RC_len hG hu) (fun hlu => ?_)
  rw [hy] at hlu
  have hcu := cap_le u
  have hm1 : mxI 1 ys.length = ((max 1 ys.length : Nat) : Int) := by unfold mxI; split <;> omega
  refine j_iconst h dX2_finds_0 ?_
  refine j_istore_n h [(2, _), (0, _), (1, _)] dX2_finds_1 rfl (by decide) rfl ?_
  refine j_iconst h dX2_finds_2 ?_
  refine j_istore_n h [(3, _), (2, _), (0, _), (1, _)] dX2_finds_3 rfl (by decide) rfl ?_
  refine j_sub [0, 1, 2, 3] rfl ?_
  refine lpA3 (fun (z a : Int) (f : Nat) => f) (fun (z a : Int) (f : Nat) => 0 ≤ z → z ≤ 1300 → 0 ≤ a → a ≤ z → (xs.length : Int) - z < f → a + fdc xs ys f z.toNat = fdc xs ys (xs.length + 1) 0 → JL E (RC E g0) X 4 [(3, .int (iI z)), (2, .int (iI a)), (0, eA E t), (1, eA E u)] [] S) (fun z a f ih h0 hb ha hb2 hf hv => ?_) 0 0 (xs.length + 1) (Int.le_refl 0) (by omega) (by omega) (by omega) (by omega) (by simp)
  refine j_iload_n h 0 dX2_finds_4 rfl rfl ?_
  refine j_aload_n h 2 dX2_finds_5 rfl rfl ?_
  refine jx_Tsize h hx a_f_X2_21 (by omega) dX2_finds_6 ?_
  refine j_icmp_ge h 44 dX2_finds_9 (by decide) (by first | exact okI_of _ | exact okI_b _ | exact okI_sgz _ _ | assumption | (unfold okI; omega)) (by first | exact okI_of _ | exact okI_b _ | exact okI_sgz _ _ | assumption | (unfold okI; omega)) (fun c9 => ?_) (fun c9 => ?_)
  · refine j_iload_n h 1 dX2_finds_44 rfl rfl ?_
    exact j_iret h hq (by rw [← hv]; cases f with | zero => simp [fdc] | succ f => rw [fdc, if_neg (by omega)]; simp) dX2_finds_45
  · refine j_aload_n h 2 dX2_finds_12 rfl rfl ?_
    refine j_aload_n h 3 dX2_finds_13 rfl rfl ?_
    refine j_iload_n h 0 dX2_finds_14 rfl rfl ?_
    refine j_callV h (c_X2_bears hE ht hx hu hy (by unfold okI; omega)) m_X2_bears a_l_X2_43 rfl rfl ⟨Nat.le_of_ble_eq_true rfl, Nat.le_of_ble_eq_true rfl⟩ (ci := 2) rfl (by omega) (rcT (by omega)) rfl rfl (Nat.le_of_ble_eq_true rfl) dX2_finds_15 ?_
    refine j_if_eq h 38 dX2_finds_18 (by decide) (by first | exact okI_of _ | exact okI_b _ | exact okI_sgz _ _ | assumption | (unfold okI; omega)) (fun c18 => ?_) (fun c18 => ?_)
    · rw [bI_0] at c18
      refine j_iinc h 0 [(3, _), (2, _), (0, _), (1, _)] dX2_finds_38 rfl (by decide) rfl ?_
      refine j_goto h 4 dX2_finds_41 (by decide) ?_
      obtain ⟨f, rfl⟩ : ∃ f2, f = f2 + 1 := ⟨f - 1, by omega⟩
      rw [fdc, if_pos (by omega), show ((z.toNat : Nat) : Int) = z by omega, c18] at hv
      first | exact ih (z + 1) a f (by omega) (by omega) (by omega) (by omega) (by omega) (by omega) (by rw [show (z + 1).toNat = z.toNat + 1 by omega]; simpa using hv) | exact ih (z + mxI 1 ys.length) (a + 1) f (by omega) (by omega) (by omega) (by omega) (by omega) (by omega) (by rw [show (z + mxI 1 ys.length).toNat = z.toNat + max 1 ys.length by omega]; simp only [if_true] at hv; omega)
    · rw [bI_n0] at c18
      refine j_iinc h 1 [(2, _), (3, _), (0, _), (1, _)] dX2_finds_21 rfl (by decide) rfl ?_
      refine j_iload_n h 1 dX2_finds_24 rfl rfl ?_
      refine j_iconst h dX2_finds_25 ?_
      refine j_aload_n h 3 dX2_finds_26 rfl rfl ?_
      refine jx_Tsize h hy a_f_X2_21 (by omega) dX2_finds_27 ?_
      refine j_max h (by first | exact okI_of _ | exact okI_b _ | exact okI_sgz _ _ | assumption | (unfold okI; omega)) (by first | exact okI_of _ | exact okI_b _ | exact okI_sgz _ _ | assumption | (unfold okI; omega)) a_l_X2_9 ⟨Nat.le_of_ble_eq_true rfl, Nat.le_of_ble_eq_true rfl⟩ (Nat.le_of_ble_eq_true rfl) dX2_finds_30 ?_
      refine j_iadd h dX2_finds_33 ?_
      refine j_istore_n h [(3, _), (2, _), (0, _), (1, _)] dX2_finds_34 rfl (by decide) rfl ?_
      refine j_goto h 4 dX2_finds_35 (by decide) ?_
      obtain ⟨f, rfl⟩ : ∃ f2, f = f2 + 1 := ⟨f - 1, by omega⟩
      rw [fdc, if_pos (by omega), show ((z.toNat : Nat) : Int) = z by omega, c18] at hv
      first | exact ih (z + 1) a f (by omega) (by omega) (by omega) (by omega) (by omega) (by omega) (by rw [show (z + 1).toNat = z.toNat + 1 by omega]; simpa using hv) | exact ih (z + mxI 1 ys.length) (a + 1) f (by omega) (by omega) (by omega) (by omega) (by omega) (by omega) (by rw [show (z + mxI 1 ys.length).toNat = z.toNat + max 1 ys.length by omega]; simp only [if_true] at hv; omega)
set_option maxHeartbeats 400000 in
set_option maxRecDepth 20000 in
theorem c_X2_sharedFront {E : EV} (hE : EOK E) {S : SC} {g0 : GH} {t : Nat} (ht : t < 30) {xs : List Int32} (hx : S.1 t = xs) {u : Nat} (hu : u < 30) {ys : List Int32} (hy : S.1 u = ys) : Ct E (RC E g0) yX2_sharedFront wsX2_sharedFront rX2_sharedFront [eA E t, eA E u] S (some (.int (iI (sfr xs ys 0 (min xs.length ys.length) : Nat)))) S := by
  refine ct_of [(0, _), (1, _)] hE (by decide) rfl (Nat.le_of_ble_eq_true rfl) rfl (fun X h hq => ?_)
  refine j_of (fun G hG => RC_len hG ht) (fun hl => ?_)
  rw [hx] at hl
  have hc := cap_le t
  refine j_of (fun G hG => RC_len hG hu) (fun hlu => ?_)
  rw [hy] at hlu
  have hcu := cap_le u
  have hmm : mnI xs.length ys.length = ((min xs.length ys.length : Nat) : Int) := by unfold mnI; split <;> omega
  refine j_aload_n h 0 dX2_sharedFront_0 rfl rfl ?_
  refine jx_Tsize h hx a_f_X2_21 (by omega) dX2_sharedFront_1 ?_
  refine j_aload_n h 1 dX2_sharedFront_4 rfl rfl ?_
  refine jx_Tsize h hy a_f_X2_21 (by omega) dX2_sharedFront_5 ?_
  refine j_min h (by first | exact okI_of _ | exact okI_b _ | exact okI_sgz _ _ | assumption | (unfold okI; omega)) (by first | exact okI_of _ | exact okI_b _ | exact okI_sgz _ _ | assumption | (unfold okI; omega)) a_l_X2_54 ⟨Nat.le_of_ble_eq_true rfl, Nat.le_of_ble_eq_true rfl⟩ (Nat.le_of_ble_eq_true rfl) dX2_sharedFront_8 ?_
  refine j_istore_n h [(2, _), (0, _), (1, _)] dX2_sharedFront_11 rfl (by decide) rfl ?_
  refine j_iconst h dX2_sharedFront_12 ?_
  refine j_istore_n h [(3, _), (2, _), (0, _), (1, _)] dX2_sharedFront_13 rfl (by decide) rfl ?_
  refine j_sub [0, 1, 2, 3] rfl ?_
  rw [hmm]
  refine lpA1 (fun z : Int => (xs.length - z).toNat) (fun z : Int => 0 ≤ z → z ≤ (min xs.length ys.length : Nat) → sfr xs ys z.toNat (min xs.length ys.length - z.toNat) = sfr xs ys 0 (min xs.length ys.length) → JL E (RC E g0) X 14 [(3, .int (iI z)), (2, .int (iI (min xs.length ys.length : Nat))), (0, eA E t), (1, eA E u)] [] S) (fun z ih h0 hb hv => ?_) 0 (Int.le_refl 0) (by omega) rfl
  refine j_iload_n h 0 dX2_sharedFront_14 rfl rfl ?_
  refine j_iload_n h 1 dX2_sharedFront_15 rfl rfl ?_
  refine j_icmp_ge h 38 dX2_sharedFront_16 (by decide) (by first | exact okI_of _ | exact okI_b _ | exact okI_sgz _ _ | assumption | (unfold okI; omega)) (by first | exact okI_of _ | exact okI_b _ | exact okI_sgz _ _ | assumption | (unfold okI; omega)) (fun c16 => ?_) (fun c16 => ?_)
  · refine j_iload_n h 0 dX2_sharedFront_38 rfl rfl ?_
    exact j_iret h hq (by rw [← hv]; first | rw [show min xs.length ys.length - z.toNat = 0 by omega, sfr, show ((z.toNat : Nat) : Int) = z by omega] | rw [show min xs.length ys.length - z.toNat = min xs.length ys.length - (z + 1).toNat + 1 by omega, sfr, if_neg c29, show ((z.toNat : Nat) : Int) = z by omega]) dX2_sharedFront_39
  · refine j_aload_n h 2 dX2_sharedFront_19 rfl rfl ?_
    refine j_iload_n h 0 dX2_sharedFront_20 rfl rfl ?_
    refine j_callV h (c_X2_at hE ht hx h0 (by omega)) m_X2_at a_l_X2_25 rfl rfl ⟨Nat.le_of_ble_eq_true rfl, Nat.le_of_ble_eq_true rfl⟩ (ci := 2) rfl (by omega) (rcT (by omega)) rfl rfl (Nat.le_of_ble_eq_true rfl) dX2_sharedFront_21 ?_
    refine j_aload_n h 3 dX2_sharedFront_24 rfl rfl ?_
    refine j_iload_n h 0 dX2_sharedFront_25 rfl rfl ?_
    refine j_callV h (c_X2_at hE hu hy h0 (by omega)) m_X2_at a_l_X2_25 rfl rfl ⟨Nat.le_of_ble_eq_true rfl, Nat.le_of_ble_eq_true rfl⟩ (ci := 2) rfl (by omega) (rcT (by omega)) rfl rfl (Nat.le_of_ble_eq_true rfl) dX2_sharedFront_26 ?_
    refine j_rcmp_ne h 38 dX2_sharedFront_29 (by decide) (fun c29 => ?_) (fun c29 => ?_)
    · refine j_iload_n h 0 dX2_sharedFront_38 rfl rfl ?_
      exact j_iret h hq (by rw [← hv]; first | rw [show min xs.length ys.length - z.toNat = 0 by omega, sfr, show ((z.toNat : Nat) : Int) = z by omega] | rw [show min xs.length ys.length - z.toNat = min xs.length ys.length - (z + 1).toNat + 1 by omega, sfr, if_neg c29, show ((z.toNat : Nat) : Int) = z by omega]) dX2_sharedFront_39
    · refine j_iinc h 0 [(3, _), (2, _), (0, _), (1, _)] dX2_sharedFront_32 rfl (by decide) rfl ?_
      refine j_goto h 14 dX2_sharedFront_35 (by decide) ?_
      exact ih (z + 1) (by omega) (by omega) (by omega) (by rw [show min xs.length ys.length - z.toNat = min xs.length ys.length - (z + 1).toNat + 1 by omega, sfr, if_pos c29, show z.toNat + 1 = (z + 1).toNat by omega] at hv; exact hv)
set_option maxHeartbeats 400000 in
set_option maxRecDepth 20000 in
theorem c_X2_sharedRear {E : EV} (hE : EOK E) {S : SC} {g0 : GH} {t : Nat} (ht : t < 30) {xs : List Int32} (hx : S.1 t = xs) {u : Nat} (hu : u < 30) {ys : List Int32} (hy : S.1 u = ys) : Ct E (RC E g0) yX2_sharedRear wsX2_sharedRear rX2_sharedRear [eA E t, eA E u] S (some (.int (iI (srr xs ys 0 (min xs.length ys.length) : Nat)))) S := by
  refine ct_of [(0, _), (1, _)] hE (by decide) rfl (Nat.le_of_ble_eq_true rfl) rfl (fun X h hq => ?_)
  refine j_of (fun G hG => RC_len hG ht) (fun hl => ?_)
  rw [hx] at hl
  have hc := cap_le t
  refine j_of (fun G hG => RC_len hG hu) (fun hlu => ?_)
  rw [hy] at hlu
  have hcu := cap_le u
  have hmm : mnI xs.length ys.length = ((min xs.length ys.length : Nat) : Int) := by unfold mnI; split <;> omega
  refine j_aload_n h 0 dX2_sharedRear_0 rfl rfl ?_
  refine jx_Tsize h hx a_f_X2_21 (by omega) dX2_sharedRear_1 ?_
  refine j_aload_n h 1 dX2_sharedRear_4 rfl rfl ?_
  refine jx_Tsize h hy a_f_X2_21 (by omega) dX2_sharedRear_5 ?_
  refine j_min h (by first | exact okI_of _ | exact okI_b _ | exact okI_sgz _ _ | assumption | (unfold okI; omega)) (by first | exact okI_of _ | exact okI_b _ | exact okI_sgz _ _ | assumption | (unfold okI; omega)) a_l_X2_54 ⟨Nat.le_of_ble_eq_true rfl, Nat.le_of_ble_eq_true rfl⟩ (Nat.le_of_ble_eq_true rfl) dX2_sharedRear_8 ?_
  refine j_istore_n h [(2, _), (0, _), (1, _)] dX2_sharedRear_11 rfl (by decide) rfl ?_
  refine j_iconst h dX2_sharedRear_12 ?_
  refine j_istore_n h [(3, _), (2, _), (0, _), (1, _)] dX2_sharedRear_13 rfl (by decide) rfl ?_
  refine j_sub [0, 1, 2, 3] rfl ?_
  rw [hmm]
  refine lpA1 (fun z : Int => (xs.length - z).toNat) (fun z : Int => 0 ≤ z → z ≤ (min xs.length ys.length : Nat) → srr xs ys z.toNat (min xs.length ys.length - z.toNat) = srr xs ys 0 (min xs.length ys.length) → JL E (RC E g0) X 14 [(3, .int (iI z)), (2, .int (iI (min xs.length ys.length : Nat))), (0, eA E t), (1, eA E u)] [] S) (fun z ih h0 hb hv => ?_) 0 (Int.le_refl 0) (by omega) rfl
  refine j_iload_n h 0 dX2_sharedRear_14 rfl rfl ?_
  refine j_iload_n h 1 dX2_sharedRear_15 rfl rfl ?_
  refine j_icmp_ge h 52 dX2_sharedRear_16 (by decide) (by first | exact okI_of _ | exact okI_b _ | exact okI_sgz _ _ | assumption | (unfold okI; omega)) (by first | exact okI_of _ | exact okI_b _ | exact okI_sgz _ _ | assumption | (unfold okI; omega)) (fun c16 => ?_) (fun c16 => ?_)
  · refine j_iload_n h 0 dX2_sharedRear_52 rfl rfl ?_
    exact j_iret h hq (by rw [← hv]; first | rw [show min xs.length ys.length - z.toNat = 0 by omega, srr, show ((z.toNat : Nat) : Int) = z by omega] | rw [show min xs.length ys.length - z.toNat = min xs.length ys.length - (z + 1).toNat + 1 by omega, srr, if_neg (by rw [show xs.length - 1 - z.toNat = ((xs.length : Int) - 1 - z).toNat by omega, show ys.length - 1 - z.toNat = ((ys.length : Int) - 1 - z).toNat by omega]; exact c43), show ((z.toNat : Nat) : Int) = z by omega]) dX2_sharedRear_53
  · refine j_aload_n h 2 dX2_sharedRear_19 rfl rfl ?_
    refine j_aload_n h 2 dX2_sharedRear_20 rfl rfl ?_
    refine jx_Tsize h hx a_f_X2_21 (by omega) dX2_sharedRear_21 ?_
    refine j_iconst h dX2_sharedRear_24 ?_
    refine j_isub h dX2_sharedRear_25 ?_
    refine j_iload_n h 0 dX2_sharedRear_26 rfl rfl ?_
    refine j_isub h dX2_sharedRear_27 ?_
    refine j_callV h (c_X2_at hE ht hx (by omega) (by omega)) m_X2_at a_l_X2_25 rfl rfl ⟨Nat.le_of_ble_eq_true rfl, Nat.le_of_ble_eq_true rfl⟩ (ci := 2) rfl (by omega) (rcT (by omega)) rfl rfl (Nat.le_of_ble_eq_true rfl) dX2_sharedRear_28 ?_
    refine j_aload_n h 3 dX2_sharedRear_31 rfl rfl ?_
    refine j_aload_n h 3 dX2_sharedRear_32 rfl rfl ?_
    refine jx_Tsize h hy a_f_X2_21 (by omega) dX2_sharedRear_33 ?_
    refine j_iconst h dX2_sharedRear_36 ?_
    refine j_isub h dX2_sharedRear_37 ?_
    refine j_iload_n h 0 dX2_sharedRear_38 rfl rfl ?_
    refine j_isub h dX2_sharedRear_39 ?_
    refine j_callV h (c_X2_at hE hu hy (by omega) (by omega)) m_X2_at a_l_X2_25 rfl rfl ⟨Nat.le_of_ble_eq_true rfl, Nat.le_of_ble_eq_true rfl⟩ (ci := 2) rfl (by omega) (rcT (by omega)) rfl rfl (Nat.le_of_ble_eq_true rfl) dX2_sharedRear_40 ?_
    refine j_rcmp_ne h 52 dX2_sharedRear_43 (by decide) (fun c43 => ?_) (fun c43 => ?_)
    · refine j_iload_n h 0 dX2_sharedRear_52 rfl rfl ?_
      exact j_iret h hq (by rw [← hv]; first | rw [show min xs.length ys.length - z.toNat = 0 by omega, srr, show ((z.toNat : Nat) : Int) = z by omega] | rw [show min xs.length ys.length - z.toNat = min xs.length ys.length - (z + 1).toNat + 1 by omega, srr, if_neg (by rw [show xs.length - 1 - z.toNat = ((xs.length : Int) - 1 - z).toNat by omega, show ys.length - 1 - z.toNat = ((ys.length : Int) - 1 - z).toNat by omega]; exact c43), show ((z.toNat : Nat) : Int) = z by omega]) dX2_sharedRear_53
    · refine j_iinc h 0 [(3, _), (2, _), (0, _), (1, _)] dX2_sharedRear_46 rfl (by decide) rfl ?_
      refine j_goto h 14 dX2_sharedRear_49 (by decide) ?_
      exact ih (z + 1) (by omega) (by omega) (by omega) (by rw [show min xs.length ys.length - z.toNat = min xs.length ys.length - (z + 1).toNat + 1 by omega, srr, if_pos (by rw [show xs.length - 1 - z.toNat = ((xs.length : Int) - 1 - z).toNat by omega, show ys.length - 1 - z.toNat = ((ys.length : Int) - 1 - z).toNat by omega]; exact c43), show z.toNat + 1 = (z + 1).toNat by omega] at hv; exact hv)
set_option maxHeartbeats 400000 in
set_option maxRecDepth 20000 in
theorem c_X2_endOfFront {E : EV} (hE : EOK E) {S : SC} {g0 : GH} {t : Nat} (ht : t < 30) {xs : List Int32} (hx : S.1 t = xs) (b : Bool) : Ct E (RC E g0) yX2_endOfFront wsX2_endOfFront rX2_endOfFront [eA E t, .int (iI (bI b))] S (some (.int (iI (eof b xs 0 xs.length : Nat)))) S := by
  refine ct_of [(0, _), (1, _)] hE (by decide) rfl (Nat.le_of_ble_eq_true rfl) rfl (fun X h hq => ?_)
  refine j_of (fun G hG => RC_len hG ht) (fun hl => ?_)
  rw [hx] at hl
  have hc := cap_le t
  refine j_iconst h dX2_endOfFront_0 ?_
  refine j_istore_n h [(2, _), (0, _), (1, _)] dX2_endOfFront_1 rfl (by decide) rfl ?_
  refine j_sub [0, 1, 2] rfl ?_
  refine lpA1 (fun z : Int => (xs.length - z).toNat) (fun z : Int => 0 ≤ z → z ≤ xs.length → eof b xs z.toNat (xs.length - z.toNat) = eof b xs 0 xs.length → JL E (RC E g0) X 2 [(2, .int (iI z)), (0, eA E t), (1, .int (iI (bI b)))] [] S) (fun z ih h0 hb hv => ?_) 0 (Int.le_refl 0) (by omega) rfl
  refine j_iload_n h 0 dX2_endOfFront_2 rfl rfl ?_
  refine j_aload_n h 1 dX2_endOfFront_3 rfl rfl ?_
  refine jx_Tsize h hx a_f_X2_21 (by omega) dX2_endOfFront_4 ?_
  refine j_icmp_ge h 28 dX2_endOfFront_7 (by decide) (by first | exact okI_of _ | exact okI_b _ | exact okI_sgz _ _ | assumption | (unfold okI; omega)) (by first | exact okI_of _ | exact okI_b _ | exact okI_sgz _ _ | assumption | (unfold okI; omega)) (fun c7 => ?_) (fun c7 => ?_)
  · refine j_iload_n h 0 dX2_endOfFront_28 rfl rfl ?_
    exact j_iret h hq (by rw [← hv]; first | rw [show xs.length - z.toNat = 0 by omega, eof, show ((z.toNat : Nat) : Int) = z by omega] | rw [show xs.length - z.toNat = xs.length - (z + 1).toNat + 1 by omega, eof, if_neg (by rw [c19]; simp), show ((z.toNat : Nat) : Int) = z by omega]) dX2_endOfFront_29
  · refine j_aload_n h 1 dX2_endOfFront_10 rfl rfl ?_
    refine j_iload_n h 0 dX2_endOfFront_11 rfl rfl ?_
    refine j_callV h (c_X2_at hE ht hx h0 (by omega)) m_X2_at a_l_X2_25 rfl rfl ⟨Nat.le_of_ble_eq_true rfl, Nat.le_of_ble_eq_true rfl⟩ (ci := 2) rfl (by omega) (rcT (by omega)) rfl rfl (Nat.le_of_ble_eq_true rfl) dX2_endOfFront_12 ?_
    refine j_iload_n h 2 dX2_endOfFront_15 rfl rfl ?_
    refine j_callN (host := "TextShelves") h (c_isLoose_raw hE _ b) m_X3_isLoose (by decide) rfl rfl ⟨Nat.le_of_ble_eq_true rfl, Nat.le_of_ble_eq_true rfl⟩ rfl rfl (Nat.le_of_ble_eq_true rfl) dX2_endOfFront_16 ?_
    refine j_if_eq h 28 dX2_endOfFront_19 (by decide) (by first | exact okI_of _ | exact okI_b _ | exact okI_sgz _ _ | assumption | (unfold okI; omega)) (fun c19 => ?_) (fun c19 => ?_)
    · rw [bI_0] at c19
      refine j_iload_n h 0 dX2_endOfFront_28 rfl rfl ?_
      exact j_iret h hq (by rw [← hv]; first | rw [show xs.length - z.toNat = 0 by omega, eof, show ((z.toNat : Nat) : Int) = z by omega] | rw [show xs.length - z.toNat = xs.length - (z + 1).toNat + 1 by omega, eof, if_neg (by rw [c19]; simp), show ((z.toNat : Nat) : Int) = z by omega]) dX2_endOfFront_29
    · rw [bI_n0] at c19
      refine j_iinc h 0 [(2, _), (0, _), (1, _)] dX2_endOfFront_22 rfl (by decide) rfl ?_
      refine j_goto h 2 dX2_endOfFront_25 (by decide) ?_
      exact ih (z + 1) (by omega) (by omega) (by omega) (by rw [show xs.length - z.toNat = xs.length - (z + 1).toNat + 1 by omega, eof, if_pos c19, show z.toNat + 1 = (z + 1).toNat by omega] at hv; exact hv)
set_option maxHeartbeats 400000 in
set_option maxRecDepth 20000 in
theorem c_X2_startOfRear {E : EV} (hE : EOK E) {S : SC} {g0 : GH} {t : Nat} (ht : t < 30) {xs : List Int32} (hx : S.1 t = xs) (b : Bool) {f : Nat} (hf : f ≤ xs.length) : Ct E (RC E g0) yX2_startOfRear wsX2_startOfRear rX2_startOfRear [eA E t, .int (iI (f : Int)), .int (iI (bI b))] S (some (.int (iI (sor b xs f (xs.length - f) : Nat)))) S := by
  refine ct_of [(0, _), (1, _), (2, _)] hE (by decide) rfl (Nat.le_of_ble_eq_true rfl) rfl (fun X h hq => ?_)
  refine j_of (fun G hG => RC_len hG ht) (fun hl => ?_)
  rw [hx] at hl
  have hc := cap_le t
  refine j_aload_n h 0 dX2_startOfRear_0 rfl rfl ?_
  refine jx_Tsize h hx a_f_X2_21 (by omega) dX2_startOfRear_1 ?_
  refine j_istore_n h [(3, _), (0, _), (1, _), (2, _)] dX2_startOfRear_4 rfl (by decide) rfl ?_
  refine j_sub [0, 1, 2, 3] rfl ?_
  refine lpA1 (fun z : Int => z.toNat) (fun z : Int => f ≤ z → z ≤ xs.length → sor b xs f (z - f).toNat = sor b xs f (xs.length - f) → JL E (RC E g0) X 5 [(3, .int (iI z)), (0, eA E t), (1, .int (iI (f : Int))), (2, .int (iI (bI b)))] [] S) (fun z ih h0 hb hv => ?_) _ (by omega) (by omega) (by rw [show ((xs.length : Int) - f).toNat = xs.length - f by omega])
  refine j_iload_n h 0 dX2_startOfRear_5 rfl rfl ?_
  refine j_iload_n h 2 dX2_startOfRear_6 rfl rfl ?_
  refine j_icmp_le h 30 dX2_startOfRear_7 (by decide) (by first | exact okI_of _ | exact okI_b _ | exact okI_sgz _ _ | assumption | (unfold okI; omega)) (by first | exact okI_of _ | exact okI_b _ | exact okI_sgz _ _ | assumption | (unfold okI; omega)) (fun c7 => ?_) (fun c7 => ?_)
  · refine j_iload_n h 0 dX2_startOfRear_30 rfl rfl ?_
    exact j_iret h hq (by rw [← hv]; first | rw [show (z - f).toNat = 0 by omega, sor, show (f : Int) = z by omega] | rw [show (z - f).toNat = (z + -1 - f).toNat + 1 by omega, sor, if_neg (by rw [show f + (z + -1 - f).toNat = (z - 1).toNat by omega, c21]; simp), show ((f + (z + -1 - f).toNat + 1 : Nat) : Int) = z by omega]) dX2_startOfRear_31
  · refine j_aload_n h 1 dX2_startOfRear_10 rfl rfl ?_
    refine j_iload_n h 0 dX2_startOfRear_11 rfl rfl ?_
    refine j_iconst h dX2_startOfRear_12 ?_
    refine j_isub h dX2_startOfRear_13 ?_
    refine j_callV h (c_X2_at hE ht hx (by omega) (by omega)) m_X2_at a_l_X2_25 rfl rfl ⟨Nat.le_of_ble_eq_true rfl, Nat.le_of_ble_eq_true rfl⟩ (ci := 2) rfl (by omega) (rcT (by omega)) rfl rfl (Nat.le_of_ble_eq_true rfl) dX2_startOfRear_14 ?_
    refine j_iload_n h 3 dX2_startOfRear_17 rfl rfl ?_
    refine j_callN (host := "TextShelves") h (c_isLoose_raw hE _ b) m_X3_isLoose (by decide) rfl rfl ⟨Nat.le_of_ble_eq_true rfl, Nat.le_of_ble_eq_true rfl⟩ rfl rfl (Nat.le_of_ble_eq_true rfl) dX2_startOfRear_18 ?_
    refine j_if_eq h 30 dX2_startOfRear_21 (by decide) (by first | exact okI_of _ | exact okI_b _ | exact okI_sgz _ _ | assumption | (unfold okI; omega)) (fun c21 => ?_) (fun c21 => ?_)
    · rw [bI_0] at c21
      refine j_iload_n h 0 dX2_startOfRear_30 rfl rfl ?_
      exact j_iret h hq (by rw [← hv]; first | rw [show (z - f).toNat = 0 by omega, sor, show (f : Int) = z by omega] | rw [show (z - f).toNat = (z + -1 - f).toNat + 1 by omega, sor, if_neg (by rw [show f + (z + -1 - f).toNat = (z - 1).toNat by omega, c21]; simp), show ((f + (z + -1 - f).toNat + 1 : Nat) : Int) = z by omega]) dX2_startOfRear_31
    · rw [bI_n0] at c21
      refine j_iinc h 0 [(3, _), (0, _), (1, _), (2, _)] dX2_startOfRear_24 rfl (by decide) rfl ?_
      refine j_goto h 5 dX2_startOfRear_27 (by decide) ?_
      exact ih (z + -1) (by omega) (by omega) (by omega) (by rw [show (z - f).toNat = (z + -1 - f).toNat + 1 by omega, sor, if_pos (by rw [show f + (z + -1 - f).toNat = (z - 1).toNat by omega]; exact c21)] at hv; exact hv)
end
section
/-! Text: replaced, folded, changed, digits -/
theorem gz_set (us : List Int32) (k : Nat) : us.set k (gz us k) = us := by
  by_cases h : k < us.length
  · have : gz us k = us[k] := by simp [gz, List.getD, h]
    rw [this]
    exact List.set_getElem_self h
  · exact List.set_eq_of_length_le (by omega)
theorem tOK_put {E : EV} {G : GH} {t k : Nat} {xs : List Int32} {f : Nat → Int32} {x : Int32} (ht : t < 30) (h0 : G t = .inr (2, [eA E (30 + t), .int (iI xs.length)])) (hl : xs.length ≤ cap t) (hf : G (30 + t) = .inl (eI E, cap t, .inl f)) (hv : ∀ j, j < xs.length → f j = xs.getD j 0) (hk : k < xs.length) : tOK E (va_up G (30 + t) (.inl (eI E, cap t, .inl (upd f k x)))) t (xs.set k x) := by
  refine ⟨?_, by rw [List.length_set]; exact hl, _, va_up_self _ _ _, fun j hj => ?_⟩
  · rw [va_up_ne _ _ (by omega), List.length_set]
    exact h0
  · rw [List.length_set] at hj
    by_cases q : j = k
    · subst q; simp [upd, List.getD, hj]
    · rw [show upd f k x j = f j from if_neg q, hv j hj]
      simp [List.getD, List.getElem?_set_ne (Ne.symm q)]
set_option maxHeartbeats 400000 in
set_option maxRecDepth 20000 in
theorem c_X2_addReplaced {E : EV} (hE : EOK E) {S : SC} {g0 : GH} {t : Nat} (ht : t < 30) {ws : List Int32} (hx : S.1 t = ws) {u : Nat} (hu : u < 30) {xs : List Int32} (hx2 : S.1 u = xs) {v : Nat} (hv0 : v < 30) {ys : List Int32} (hy : S.1 v = ys) {w : Nat} (hw0 : w < 30) {zs : List Int32} (hz : S.1 w = zs) (hne : u ≠ t) (hne2 : v ≠ t) (hne3 : w ≠ t) (hcp : ws.length + (rpl xs ys zs (xs.length + 1) 0).length ≤ cap t) : Ct E (RC E g0) yX2_addReplaced wsX2_addReplaced rX2_addReplaced [eA E t, eA E u, eA E v, eA E w] S none (setT S t (ws ++ rpl xs ys zs (xs.length + 1) 0)) := by
  refine ct_of [(0, _), (1, _), (2, _), (3, _)] hE (by decide) rfl (Nat.le_of_ble_eq_true rfl) rfl (fun X h hq => ?_)
  refine j_of (fun G hG => RC_len hG ht) (fun hl => ?_)
  rw [hx] at hl
  have hc := cap_le t
  refine j_of (fun G hG => RC_len hG hu) (fun hlu => ?_)
  rw [hx2] at hlu
  have hcu := cap_le u
  refine j_of (fun G hG => RC_len hG hv0) (fun hlv => ?_)
  rw [hy] at hlv
  have hcv := cap_le v
  have hm1 : mxI 1 ys.length = ((max 1 ys.length : Nat) : Int) := by unfold mxI; split <;> omega
  refine j_iconst h dX2_addReplaced_0 ?_
  refine j_istore h [(4, _), (0, _), (1, _), (2, _), (3, _)] dX2_addReplaced_1 (by decide) rfl ?_
  refine j_sub [0, 1, 2, 3, 4] rfl ?_
  refine j_S (S2 := setT S t ws) (by rw [← hx, setT_id]) ?_
  refine lpA3 (fun (z : Int) (us : List Int32) (f : Nat) => f) (fun (z : Int) (us : List Int32) (f : Nat) => 0 ≤ z → z ≤ 1300 → (xs.length : Int) - z < f → us ++ rpl xs ys zs f z.toNat = ws ++ rpl xs ys zs (xs.length + 1) 0 → JL E (RC E g0) X 3 [(4, .int (iI z)), (0, eA E t), (1, eA E u), (2, eA E v), (3, eA E w)] [] (setT S t us)) (fun z us f ih h0 hb hf hv => ?_) 0 ws (xs.length + 1) (Int.le_refl 0) (by omega) (by omega) rfl
  have eu : (setT S t us).1 u = xs := by rw [setT_1n _ _ hne]; exact hx2
  have ev : (setT S t us).1 v = ys := by rw [setT_1n _ _ hne2]; exact hy
  have ew : (setT S t us).1 w = zs := by rw [setT_1n _ _ hne3]; exact hz
  have hlen := congrArg List.length hv
  simp only [List.length_append] at hlen
  refine j_iload h 0 dX2_addReplaced_3 rfl ?_
  refine j_aload_n h 2 dX2_addReplaced_5 rfl rfl ?_
  refine jx_Tsize h eu a_f_X2_21 (by omega) dX2_addReplaced_6 ?_
  refine j_icmp_ge h 59 dX2_addReplaced_9 (by decide) (by first | exact okI_of _ | exact okI_b _ | exact okI_sgz _ _ | assumption | (unfold okI; omega)) (by first | exact okI_of _ | exact okI_b _ | exact okI_sgz _ _ | assumption | (unfold okI; omega)) (fun c9 => ?_) (fun c9 => ?_)
  · have e : rpl xs ys zs f z.toNat = [] := by cases f with | zero => rfl | succ f => rw [rpl, if_neg (by omega)]
    rw [e, List.append_nil] at hv
    rw [← hv] at hq
    exact j_vret h hq rfl dX2_addReplaced_59
  · refine j_aload_n h 2 dX2_addReplaced_12 rfl rfl ?_
    refine j_aload_n h 3 dX2_addReplaced_13 rfl rfl ?_
    refine j_iload h 0 dX2_addReplaced_14 rfl ?_
    refine j_callV h (c_X2_bears hE hu eu hv0 ev (by unfold okI; omega)) m_X2_bears a_l_X2_43 rfl rfl ⟨Nat.le_of_ble_eq_true rfl, Nat.le_of_ble_eq_true rfl⟩ (ci := 2) rfl (by omega) (rcT (by omega)) rfl rfl (Nat.le_of_ble_eq_true rfl) dX2_addReplaced_16 ?_
    refine j_if_eq h 43 dX2_addReplaced_19 (by decide) (by first | exact okI_of _ | exact okI_b _ | exact okI_sgz _ _ | assumption | (unfold okI; omega)) (fun c19 => ?_) (fun c19 => ?_)
    · rw [bI_0] at c19
      obtain ⟨f, rfl⟩ : ∃ f2, f = f2 + 1 := ⟨f - 1, by omega⟩
      rw [rpl, if_pos (by omega), show ((z.toNat : Nat) : Int) = z by omega, c19, if_neg (by simp), List.append_cons, show z.toNat + 1 = (z + 1).toNat by omega] at hv
      have hlen := congrArg List.length hv
      simp only [List.length_append, List.length_cons, List.length_nil] at hlen
      refine j_aload_n h 1 dX2_addReplaced_43 rfl rfl ?_
      refine j_aload_n h 2 dX2_addReplaced_44 rfl rfl ?_
      refine j_iload h 0 dX2_addReplaced_45 rfl ?_
      refine j_callV h (c_X2_at hE hu eu h0 (by omega)) m_X2_at a_l_X2_25 rfl rfl ⟨Nat.le_of_ble_eq_true rfl, Nat.le_of_ble_eq_true rfl⟩ (ci := 2) rfl (by omega) (rcT (by omega)) rfl rfl (Nat.le_of_ble_eq_true rfl) dX2_addReplaced_47 ?_
      refine j_callVv h (c_X2_add hE ht (xs := us) (setT_1s _ _ _) (by omega)) m_X2_add a_l_X2_29 rfl rfl ⟨Nat.le_of_ble_eq_true rfl, Nat.le_of_ble_eq_true rfl⟩ (ci := 2) rfl (by omega) (rcT (by omega)) rfl rfl (Nat.le_of_ble_eq_true rfl) dX2_addReplaced_50 ?_
      refine j_S (S2 := setT S t (us ++ [gz xs z.toNat])) (by rw [setT_T]) ?_
      refine j_iinc h 0 [(4, _), (0, _), (1, _), (2, _), (3, _)] dX2_addReplaced_53 rfl (by decide) rfl ?_
      refine j_goto h 3 dX2_addReplaced_56 (by decide) ?_
      exact ih _ _ f (by omega) (by omega) (by omega) (by omega) hv
    · rw [bI_n0] at c19
      obtain ⟨f, rfl⟩ : ∃ f2, f = f2 + 1 := ⟨f - 1, by omega⟩
      rw [rpl, if_pos (by omega), show ((z.toNat : Nat) : Int) = z by omega, c19, if_pos rfl, ← List.append_assoc, show z.toNat + max 1 ys.length = (z + mxI 1 ys.length).toNat by omega] at hv
      have hlen := congrArg List.length hv
      simp only [List.length_append] at hlen
      refine j_aload_n h 1 dX2_addReplaced_22 rfl rfl ?_
      refine j_aload_n h 4 dX2_addReplaced_23 rfl rfl ?_
      refine j_callVv h (c_X2_addText hE ht (xs := us) (setT_1s _ _ _) hw0 ew hne3 (by omega)) m_X2_addText a_l_X2_47 rfl rfl ⟨Nat.le_of_ble_eq_true rfl, Nat.le_of_ble_eq_true rfl⟩ (ci := 2) rfl (by omega) (rcT (by omega)) rfl rfl (Nat.le_of_ble_eq_true rfl) dX2_addReplaced_24 ?_
      refine j_S (S2 := setT S t (us ++ zs)) (by rw [setT_T]) ?_
      refine j_iload h 0 dX2_addReplaced_27 rfl ?_
      refine j_iconst h dX2_addReplaced_29 ?_
      refine j_aload_n h 3 dX2_addReplaced_30 rfl rfl ?_
      refine jx_Tsize h (xs := ys) (by rw [setT_1n _ _ hne2]; exact hy) a_f_X2_21 (by omega) dX2_addReplaced_31 ?_
      refine j_max h (by first | exact okI_of _ | exact okI_b _ | exact okI_sgz _ _ | assumption | (unfold okI; omega)) (by first | exact okI_of _ | exact okI_b _ | exact okI_sgz _ _ | assumption | (unfold okI; omega)) a_l_X2_9 ⟨Nat.le_of_ble_eq_true rfl, Nat.le_of_ble_eq_true rfl⟩ (Nat.le_of_ble_eq_true rfl) dX2_addReplaced_34 ?_
      refine j_iadd h dX2_addReplaced_37 ?_
      refine j_istore h [(4, _), (0, _), (1, _), (2, _), (3, _)] dX2_addReplaced_38 (by decide) rfl ?_
      refine j_goto h 3 dX2_addReplaced_40 (by decide) ?_
      exact ih _ _ f (by omega) (by omega) (by omega) (by omega) hv
set_option maxHeartbeats 400000 in
set_option maxRecDepth 20000 in
theorem c_X2_foldSpan {E : EV} (hE : EOK E) {S : SC} {g0 : GH} {t : Nat} (ht : t < 30) {xs : List Int32} (hx : S.1 t = xs) {h0 : Int} {a b : Int} (ha : 0 ≤ a) (hab : a ≤ b) (hb : b ≤ xs.length) : Ct E (RC E g0) yX2_foldSpan wsX2_foldSpan rX2_foldSpan [eA E t, .long (lI h0), .int (iI a), .int (iI b)] S (some (.long (lI (fld xs (31 * h0 + (b - a)) a.toNat (b - a).toNat)))) S := by
  refine ct_of [(0, _), (1, _), (3, _), (4, _)] hE (by decide) rfl (Nat.le_of_ble_eq_true rfl) rfl (fun X h hq => ?_)
  refine j_of (fun G hG => RC_len hG ht) (fun hl => ?_)
  rw [hx] at hl
  have hc := cap_le t
  refine j_ldc2 h (31) a_k_X2_69 (by decide) dX2_foldSpan_0 ?_
  refine j_lload_n h 1 dX2_foldSpan_3 rfl rfl ?_
  refine j_lmul h dX2_foldSpan_4 ?_
  refine j_iload h 3 dX2_foldSpan_5 rfl ?_
  refine j_iload_n h 2 dX2_foldSpan_7 rfl rfl ?_
  refine j_isub h dX2_foldSpan_8 ?_
  refine j_i2l h (lI (b - a)) dX2_foldSpan_9 (iI_i2l (by unfold okI; omega)) ?_
  refine j_ladd h dX2_foldSpan_10 ?_
  refine j_lstore h [(5, _), (0, _), (1, _), (3, _), (4, _)] dX2_foldSpan_11 (by decide) rfl ?_
  refine j_iload_n h 3 dX2_foldSpan_13 rfl rfl ?_
  refine j_istore h [(7, _), (5, _), (0, _), (1, _), (3, _), (4, _)] dX2_foldSpan_14 (by decide) rfl ?_
  refine j_sub [0, 1, 2, 5] rfl ?_
  refine lpA2 (fun (z k : Int) => (b - z).toNat) (fun (z k : Int) => a ≤ z → z ≤ b → fld xs k z.toNat (b - z).toNat = fld xs (31 * h0 + (b - a)) a.toNat (b - a).toNat → JL E (RC E g0) X 16 [(7, .int (iI z)), (5, .long (lI k)), (0, eA E t), (4, .int (iI b))] [] S) (fun z k ih h1 h2 hv => ?_) a _ (Int.le_refl a) hab rfl
  refine j_iload h 0 dX2_foldSpan_16 rfl ?_
  refine j_iload h 3 dX2_foldSpan_18 rfl ?_
  refine j_icmp_ge h 45 dX2_foldSpan_20 (by decide) (by first | exact okI_of _ | exact okI_b _ | exact okI_sgz _ _ | assumption | (unfold okI; omega)) (by first | exact okI_of _ | exact okI_b _ | exact okI_sgz _ _ | assumption | (unfold okI; omega)) (fun c20 => ?_) (fun c20 => ?_)
  · refine j_lload h 1 dX2_foldSpan_45 rfl ?_
    exact j_lret h hq (by rw [← hv, show (b - z).toNat = 0 by omega, fld]) dX2_foldSpan_47
  · refine j_ldc2 h (31) a_k_X2_69 (by decide) dX2_foldSpan_23 ?_
    refine j_lload h 1 dX2_foldSpan_26 rfl ?_
    refine j_lmul h dX2_foldSpan_28 ?_
    refine j_aload_n h 2 dX2_foldSpan_29 rfl rfl ?_
    refine j_iload h 0 dX2_foldSpan_30 rfl ?_
    refine j_callV h (c_X2_at hE ht hx (by omega) (by omega)) m_X2_at a_l_X2_25 rfl rfl ⟨Nat.le_of_ble_eq_true rfl, Nat.le_of_ble_eq_true rfl⟩ (ci := 2) rfl (by omega) (rcT (by omega)) rfl rfl (Nat.le_of_ble_eq_true rfl) dX2_foldSpan_32 ?_
    refine j_i2l h _ dX2_foldSpan_35 (i2l_raw _) ?_
    refine j_ladd h dX2_foldSpan_36 ?_
    refine j_lstore h [(5, _), (7, _), (0, _), (4, _)] dX2_foldSpan_37 (by decide) rfl ?_
    refine j_iinc h 1 [(7, _), (5, _), (0, _), (4, _)] dX2_foldSpan_39 rfl (by decide) rfl ?_
    refine j_goto h 16 dX2_foldSpan_42 (by decide) ?_
    exact ih (z + 1) _ (by omega) (by omega) (by omega) (by rw [show (b - z).toNat = (b - (z + 1)).toNat + 1 by omega, fld, show z.toNat + 1 = (z + 1).toNat by omega] at hv; exact hv)
set_option maxHeartbeats 400000 in
set_option maxRecDepth 20000 in
theorem c_X2_change {E : EV} (hE : EOK E) {S : SC} {g0 : GH} {t : Nat} (ht : t < 30) {xs : List Int32} (hx : S.1 t = xs) {p q : Int32} : Ct E (RC E g0) yX2_change wsX2_change rX2_change [eA E t, .int p, .int q] S none (setT S t (chg p q xs 0 xs.length)) := by
  refine ct_of [(0, _), (1, _), (2, _)] hE (by decide) rfl (Nat.le_of_ble_eq_true rfl) rfl (fun X h hq => ?_)
  refine j_of (fun G hG => RC_len hG ht) (fun hl => ?_)
  rw [hx] at hl
  have hc := cap_le t
  refine j_iconst h dX2_change_0 ?_
  refine j_istore_n h [(3, _), (0, _), (1, _), (2, _)] dX2_change_1 rfl (by decide) rfl ?_
  refine j_sub [0, 1, 2, 3] rfl ?_
  refine j_S (S2 := setT S t xs) (by rw [← hx, setT_id]) ?_
  refine lpA2 (fun (z : Int) (us : List Int32) => (xs.length - z).toNat) (fun (z : Int) (us : List Int32) => 0 ≤ z → z ≤ xs.length → us.length = xs.length → chg p q us z.toNat (xs.length - z.toNat) = chg p q xs 0 xs.length → JL E (RC E g0) X 2 [(3, .int (iI z)), (0, eA E t), (1, .int p), (2, .int q)] [] (setT S t us)) (fun z us ih h0 hb hlu hv => ?_) 0 xs (Int.le_refl 0) (by omega) rfl rfl
  refine j_iload_n h 0 dX2_change_2 rfl rfl ?_
  refine j_aload_n h 1 dX2_change_3 rfl rfl ?_
  refine jx_Tsize h (setT_1s _ _ _) a_f_X2_21 (by omega) dX2_change_4 ?_
  refine j_icmp_ge h 42 dX2_change_7 (by decide) (by first | exact okI_of _ | exact okI_b _ | exact okI_sgz _ _ | assumption | (unfold okI; omega)) (by first | exact okI_of _ | exact okI_b _ | exact okI_sgz _ _ | assumption | (unfold okI; omega)) (fun c7 => ?_) (fun c7 => ?_)
  · rw [show xs.length - z.toNat = 0 by omega, chg] at hv
    rw [← hv] at hq
    exact j_vret h hq rfl dX2_change_42
  · refine j_iload_n h 0 dX2_change_10 rfl rfl ?_
    refine j_aload_n h 1 dX2_change_11 rfl rfl ?_
    refine jg_Tsigns h a_f_X2_15 (by omega) dX2_change_12 ?_
    refine j_alen h (cap t) (by omega) (fun G hG => by obtain ⟨_, _, f, e1, _⟩ := hG.1 t ht; exact ⟨f, e1⟩) dX2_change_15 ?_
    refine j_icmp_ge h 42 dX2_change_16 (by decide) (by first | exact okI_of _ | exact okI_b _ | exact okI_sgz _ _ | assumption | (unfold okI; omega)) (by first | exact okI_of _ | exact okI_b _ | exact okI_sgz _ _ | assumption | (unfold okI; omega)) (fun c16 => ?_) (fun c16 => ?_)
    · exact absurd c16 (by omega)
    · refine j_aload_n h 1 dX2_change_19 rfl rfl ?_
      refine jg_Tsigns h a_f_X2_15 (by omega) dX2_change_20 ?_
      refine j_iload_n h 0 dX2_change_23 rfl rfl ?_
      refine j_iald h (gz us z.toNat) (by omega) ⟨by omega, by omega⟩ (fun G hG => by have hh := hG.1 t ht; rw [setT_1s] at hh; obtain ⟨_, _, f, e1, e2⟩ := hh; exact ⟨cap t, f, e1, by omega, e2 _ (by omega)⟩) dX2_change_24 ?_
      refine j_iload_n h 2 dX2_change_25 rfl rfl ?_
      refine j_rcmp_ne h 36 dX2_change_26 (by decide) (fun c26 => ?_) (fun c26 => ?_)
      · refine j_iinc h 0 [(3, _), (0, _), (1, _), (2, _)] dX2_change_36 rfl (by decide) rfl ?_
        refine j_goto h 2 dX2_change_39 (by decide) ?_
        rw [show xs.length - z.toNat = xs.length - (z + 1).toNat + 1 by omega, chg, show z.toNat + 1 = (z + 1).toNat by omega] at hv
        first | (rw [if_pos c26] at hv; exact ih (z + 1) _ (by omega) (by omega) (by omega) (by simpa using hlu) hv) | (rw [if_neg c26] at hv; refine j_S (S2 := setT S t (us.set z.toNat (gz us z.toNat))) (by rw [gz_set]) ?_; exact ih (z + 1) _ (by omega) (by omega) (by omega) (by simpa using hlu) hv)
      · refine j_aload_n h 1 dX2_change_29 rfl rfl ?_
        refine jg_Tsigns h a_f_X2_15 (by omega) dX2_change_30 ?_
        refine j_iload_n h 0 dX2_change_33 rfl rfl ?_
        refine j_iload_n h 3 dX2_change_34 rfl rfl ?_
        refine j_iast h (S' := setT S t (us.set z.toNat q)) (by omega) ⟨by omega, by omega⟩ (fun G hG => by have hh := hG.1 t ht; rw [setT_1s] at hh; obtain ⟨e0, e9, f, e1, e2⟩ := hh; refine ⟨cap t, f, e1, by omega, ?_⟩; rw [← setT_T S t us]; exact RC_setT ht hG (tOK_put ht e0 e9 e1 e2 (by omega)) (fun i h1 h2 => va_up_ne _ _ h2)) dX2_change_35 ?_
        refine j_iinc h 0 [(3, _), (0, _), (1, _), (2, _)] dX2_change_36 rfl (by decide) rfl ?_
        refine j_goto h 2 dX2_change_39 (by decide) ?_
        rw [show xs.length - z.toNat = xs.length - (z + 1).toNat + 1 by omega, chg, show z.toNat + 1 = (z + 1).toNat by omega] at hv
        first | (rw [if_pos c26] at hv; exact ih (z + 1) _ (by omega) (by omega) (by omega) (by simpa using hlu) hv) | (rw [if_neg c26] at hv; refine j_S (S2 := setT S t (us.set z.toNat (gz us z.toNat))) (by rw [gz_set]) ?_; exact ih (z + 1) _ (by omega) (by omega) (by omega) (by simpa using hlu) hv)
set_option maxHeartbeats 400000 in
set_option maxRecDepth 20000 in
theorem c_X2_addDigitsFromLowest {E : EV} (hE : EOK E) {S : SC} {g0 : GH} {t : Nat} (ht : t < 30) {xs : List Int32} (hx : S.1 t = xs) {L : Int64} (h3 : xs.length + 19 ≤ cap t) : Ct E (RC E g0) yX2_addDigitsFromLowest wsX2_addDigitsFromLowest rX2_addDigitsFromLowest [eA E t, .long L] S none (setT S t (xs ++ dgs 19 L)) := by
  refine ct_of [(0, _), (1, _)] hE (by decide) rfl (Nat.le_of_ble_eq_true rfl) rfl (fun X h hq => ?_)
  refine j_of (fun G hG => RC_len hG ht) (fun hl => ?_)
  rw [hx] at hl
  have hc := cap_le t
  refine j_lload_n h 1 dX2_addDigitsFromLowest_0 rfl rfl ?_
  refine j_lstore_n h [(3, _), (0, _), (1, _)] dX2_addDigitsFromLowest_1 rfl (by decide) rfl ?_
  refine j_iconst h dX2_addDigitsFromLowest_2 ?_
  refine j_istore h [(5, _), (3, _), (0, _), (1, _)] dX2_addDigitsFromLowest_3 (by decide) rfl ?_
  refine j_sub [0, 1, 2] rfl ?_
  refine j_S (S2 := setT S t xs) (by rw [← hx, setT_id]) ?_
  refine lpA3 (fun (z : Int) (us : List Int32) (r : Int64) => (19 - z).toNat) (fun (z : Int) (us : List Int32) (r : Int64) => 0 ≤ z → z ≤ 19 → us.length + (19 - z).toNat ≤ cap t → us ++ dgs (19 - z).toNat r = xs ++ dgs 19 L → JL E (RC E g0) X 5 [(5, .int (iI z)), (3, .long r), (0, eA E t)] [] (setT S t us)) (fun z us r ih h0 hb hcp hv => ?_) 0 xs L (Int.le_refl 0) (by omega) (by omega) rfl
  refine j_iload h 0 dX2_addDigitsFromLowest_5 rfl ?_
  refine j_bipush h dX2_addDigitsFromLowest_7 (by decide) ?_
  refine j_icmp_ge h 51 dX2_addDigitsFromLowest_9 (by decide) (by first | exact okI_of _ | exact okI_b _ | exact okI_sgz _ _ | assumption | (unfold okI; omega)) (by first | exact okI_of _ | exact okI_b _ | exact okI_sgz _ _ | assumption | (unfold okI; omega)) (fun c9 => ?_) (fun c9 => ?_)
  · have e : dgs (19 - z).toNat r = [] := by first | (rw [show (19 - z).toNat = 0 by omega]; rfl) | (rw [show (19 - z).toNat = (19 - (z + 1)).toNat + 1 by omega, dgs, if_neg (fun q => q.elim (fun w => by omega) (fun w => w c20))])
    rw [e, List.append_nil] at hv
    rw [← hv] at hq
    exact j_vret h hq rfl dX2_addDigitsFromLowest_51
  · refine j_iload h 0 dX2_addDigitsFromLowest_12 rfl ?_
    refine j_if_eq h 23 dX2_addDigitsFromLowest_14 (by decide) (by first | exact okI_of _ | exact okI_b _ | exact okI_sgz _ _ | assumption | (unfold okI; omega)) (fun c14 => ?_) (fun c14 => ?_)
    · refine j_aload_n h 2 dX2_addDigitsFromLowest_23 rfl rfl ?_
      refine j_bipush h dX2_addDigitsFromLowest_24 (by decide) ?_
      refine j_lload_n h 1 dX2_addDigitsFromLowest_26 rfl rfl ?_
      refine j_ldc2 h (10) a_k_X2_37 (by decide) dX2_addDigitsFromLowest_27 ?_
      refine j_lrem h _ dX2_addDigitsFromLowest_30 (by decide) rfl ?_
      refine j_abs h a_l_X2_39 ⟨Nat.le_of_ble_eq_true rfl, Nat.le_of_ble_eq_true rfl⟩ (Nat.le_of_ble_eq_true rfl) dX2_addDigitsFromLowest_31 ?_
      refine j_l2i h _ dX2_addDigitsFromLowest_34 rfl ?_
      refine j_top (iI_of _).symm ?_
      refine j_iadd h dX2_addDigitsFromLowest_35 ?_
      refine j_callVv h (c_X2_add hE ht (xs := us) (x := dig r) (setT_1s _ _ _) (by omega)) m_X2_add a_l_X2_29 rfl rfl ⟨Nat.le_of_ble_eq_true rfl, Nat.le_of_ble_eq_true rfl⟩ (ci := 2) rfl (by omega) (rcT (by omega)) rfl rfl (Nat.le_of_ble_eq_true rfl) dX2_addDigitsFromLowest_36 ?_
      refine j_lload_n h 1 dX2_addDigitsFromLowest_39 rfl rfl ?_
      refine j_ldc2 h (10) a_k_X2_37 (by decide) dX2_addDigitsFromLowest_40 ?_
      refine j_ldiv h _ dX2_addDigitsFromLowest_43 (by decide) rfl ?_
      refine j_lstore_n h [(3, _), (5, _), (0, _)] dX2_addDigitsFromLowest_44 rfl (by decide) rfl ?_
      refine j_iinc h 1 [(5, _), (3, _), (0, _)] dX2_addDigitsFromLowest_45 rfl (by decide) rfl ?_
      refine j_goto h 5 dX2_addDigitsFromLowest_48 (by decide) ?_
      rw [show (19 - z).toNat = (19 - (z + 1)).toNat + 1 by omega, dgs, if_pos (by first | exact Or.inl (by omega) | exact Or.inr c20), List.append_cons] at hv
      refine j_S (S2 := setT S t (us ++ [dig r])) (by rw [setT_T]) ?_
      exact ih (z + 1) _ _ (by omega) (by omega) (by omega) (by simp only [List.length_append, List.length_cons, List.length_nil]; omega) hv
    · refine j_lload_n h 1 dX2_addDigitsFromLowest_17 rfl rfl ?_
      refine j_lconst h 0 dX2_addDigitsFromLowest_18 (by decide) ?_
      refine j_lcmp h _ dX2_addDigitsFromLowest_19 rfl ?_
      refine j_rif_eq h 51 dX2_addDigitsFromLowest_20 (by decide) (fun c20 => ?_) (fun c20 => ?_)
      · rw [lg_cmp_0] at c20
        have e : dgs (19 - z).toNat r = [] := by first | (rw [show (19 - z).toNat = 0 by omega]; rfl) | (rw [show (19 - z).toNat = (19 - (z + 1)).toNat + 1 by omega, dgs, if_neg (fun q => q.elim (fun w => by omega) (fun w => w c20))])
        rw [e, List.append_nil] at hv
        rw [← hv] at hq
        exact j_vret h hq rfl dX2_addDigitsFromLowest_51
      · rw [lg_cmp_0] at c20
        refine j_aload_n h 2 dX2_addDigitsFromLowest_23 rfl rfl ?_
        refine j_bipush h dX2_addDigitsFromLowest_24 (by decide) ?_
        refine j_lload_n h 1 dX2_addDigitsFromLowest_26 rfl rfl ?_
        refine j_ldc2 h (10) a_k_X2_37 (by decide) dX2_addDigitsFromLowest_27 ?_
        refine j_lrem h _ dX2_addDigitsFromLowest_30 (by decide) rfl ?_
        refine j_abs h a_l_X2_39 ⟨Nat.le_of_ble_eq_true rfl, Nat.le_of_ble_eq_true rfl⟩ (Nat.le_of_ble_eq_true rfl) dX2_addDigitsFromLowest_31 ?_
        refine j_l2i h _ dX2_addDigitsFromLowest_34 rfl ?_
        refine j_top (iI_of _).symm ?_
        refine j_iadd h dX2_addDigitsFromLowest_35 ?_
        refine j_callVv h (c_X2_add hE ht (xs := us) (x := dig r) (setT_1s _ _ _) (by omega)) m_X2_add a_l_X2_29 rfl rfl ⟨Nat.le_of_ble_eq_true rfl, Nat.le_of_ble_eq_true rfl⟩ (ci := 2) rfl (by omega) (rcT (by omega)) rfl rfl (Nat.le_of_ble_eq_true rfl) dX2_addDigitsFromLowest_36 ?_
        refine j_lload_n h 1 dX2_addDigitsFromLowest_39 rfl rfl ?_
        refine j_ldc2 h (10) a_k_X2_37 (by decide) dX2_addDigitsFromLowest_40 ?_
        refine j_ldiv h _ dX2_addDigitsFromLowest_43 (by decide) rfl ?_
        refine j_lstore_n h [(3, _), (5, _), (0, _)] dX2_addDigitsFromLowest_44 rfl (by decide) rfl ?_
        refine j_iinc h 1 [(5, _), (3, _), (0, _)] dX2_addDigitsFromLowest_45 rfl (by decide) rfl ?_
        refine j_goto h 5 dX2_addDigitsFromLowest_48 (by decide) ?_
        rw [show (19 - z).toNat = (19 - (z + 1)).toNat + 1 by omega, dgs, if_pos (by first | exact Or.inl (by omega) | exact Or.inr c20), List.append_cons] at hv
        refine j_S (S2 := setT S t (us ++ [dig r])) (by rw [setT_T]) ?_
        exact ih (z + 1) _ _ (by omega) (by omega) (by omega) (by simp only [List.length_append, List.length_cons, List.length_nil]; omega) hv
end
section
/-! pure: pieces, told by their ends in one row -/
abbrev eg (es : List Nat) (k : Nat) : Nat := es.getD k 0
def stN (es : List Nat) (k : Nat) : Nat := if k = 0 then 0 else eg es (k - 1)
def enI (es : List Nat) (z : Int) : Int := if 0 ≤ z ∧ z < es.length then (eg es z.toNat : Int) else 0
def eOK (es : List Nat) (n : Nat) : Prop := ∀ k, k < es.length → stN es k ≤ eg es k ∧ eg es k ≤ n
def pce (as : List Int32) (es : List Nat) (k : Nat) : List Int32 := sl as (stN es k) (eg es k - stN es k)
def jn (as : List Int32) (es : List Nat) (x : Int32) (i : Nat) : Nat → List Int32
  | 0 => []
  | d + 1 => (if i = 0 then [] else [x]) ++ (pce as es i ++ jn as es x (i + 1) d)
def pfd (as : List Int32) (es : List Nat) (acc : Int) (i : Nat) : Nat → Int
  | 0 => acc
  | d + 1 => pfd as es (fld as (31 * acc + ((eg es i : Int) - stN es i)) (stN es i) (eg es i - stN es i)) (i + 1) d
def loe (es : List Nat) : Nat → Nat
  | 0 => 0
  | n + 1 => if stN es n = eg es n then loe es n else n + 1
def prt (ys : List Int32) (x : Int32) (L : Int) (i : Nat) (q : List Int32 × List Nat) : Nat → List Int32 × List Nat
  | 0 => q
  | d + 1 => if gz ys i = x ∧ (L ≤ 0 ∨ (q.2.length : Int) < L - 1) then prt ys x L (i + 1) (q.1, q.2 ++ [q.1.length]) d else prt ys x L (i + 1) (q.1 ++ [gz ys i], q.2) d
/-- the row of signs and the ends when a text has been parted -/
def prtE (es : List Nat) (L : Int) : List Nat := if L = 0 ∧ 1 < es.length then es.take (loe es es.length) else es
def prtA (ys : List Int32) (x : Int32) (L : Int) : List Int32 := (prt ys x L 0 ([], []) ys.length).1
def prtP (ys : List Int32) (x : Int32) (L : Int) : List Nat := prtE ((prt ys x L 0 ([], []) ys.length).2 ++ [(prt ys x L 0 ([], []) ys.length).1.length]) L
theorem eg_app_l {es fs : List Nat} {k : Nat} (h : k < es.length) : eg (es ++ fs) k = eg es k := by simp [eg, List.getD, List.getElem?_append_left h]
theorem eg_last (es : List Nat) (e : Nat) : eg (es ++ [e]) es.length = e := by simp [eg, List.getD]
theorem stN_app {es fs : List Nat} {k : Nat} (h : k ≤ es.length) : stN (es ++ fs) k = stN es k := by
  unfold stN
  split
  · rfl
  · exact eg_app_l (by omega)
theorem enI_st {es : List Nat} {k : Nat} (h : k ≤ es.length) : enI es ((k : Int) - 1) = (stN es k : Int) := by
  unfold enI stN
  by_cases q : k = 0
  · rw [if_neg (by omega), if_pos q]; rfl
  · rw [if_pos (by omega), if_neg q, show ((k : Int) - 1).toNat = k - 1 by omega]
theorem enI_en {es : List Nat} {k : Nat} (h : k < es.length) : enI es (k : Int) = (eg es k : Int) := by
  unfold enI
  rw [if_pos (by omega), Int.toNat_natCast]
theorem eg_take {es : List Nat} {n k : Nat} (h : k < n) : eg (es.take n) k = eg es k := by simp [eg, List.getD, List.getElem?_take, h]
theorem stN_take {es : List Nat} {n k : Nat} (h : k ≤ n) : stN (es.take n) k = stN es k := by
  unfold stN
  split
  · rfl
  · exact eg_take (by omega)
theorem loe_le (es : List Nat) : ∀ n, loe es n ≤ n := by
  intro n
  induction n with
  | zero => exact Nat.le_refl _
  | succ n ih => rw [loe]; split <;> omega
theorem eOK_take {es : List Nat} {n : Nat} (m : Nat) (h : eOK es n) : eOK (es.take m) n := by
  intro k hk
  rw [List.length_take] at hk
  rw [stN_take (by omega), eg_take (by omega)]
  exact h k (by omega)
theorem eOK_mono {es : List Nat} {n m : Nat} (h : eOK es n) (hm : n ≤ m) : eOK es m := fun k hk => ⟨(h k hk).1, Nat.le_trans (h k hk).2 hm⟩
theorem eOK_push {es : List Nat} {n : Nat} (h : eOK es n) : eOK (es ++ [n]) n := by
  intro k hk
  rw [List.length_append, List.length_cons, List.length_nil] at hk
  by_cases q : k < es.length
  · rw [stN_app (by omega), eg_app_l q]
    exact h k q
  · have e : k = es.length := by omega
    subst e
    rw [stN_app (Nat.le_refl _), eg_last]
    refine ⟨?_, Nat.le_refl _⟩
    unfold stN
    split
    · omega
    · exact (h _ (by omega)).2
theorem prt_ok {ys : List Int32} {x : Int32} {L : Int} : ∀ (d i : Nat) (q : List Int32 × List Nat), eOK q.2 q.1.length → eOK (prt ys x L i q d).2 (prt ys x L i q d).1.length ∧ (prt ys x L i q d).1.length + (prt ys x L i q d).2.length = q.1.length + q.2.length + d := by
  intro d
  induction d with
  | zero => intro i q h; exact ⟨h, rfl⟩
  | succ d ih =>
    intro i q h
    rw [prt]
    split
    · have := ih (i + 1) (q.1, q.2 ++ [q.1.length]) (eOK_push h)
      refine ⟨this.1, ?_⟩
      rw [this.2]
      simp only [List.length_append, List.length_cons, List.length_nil]
      omega
    · have := ih (i + 1) (q.1 ++ [gz ys i], q.2) (eOK_mono h (by simp))
      refine ⟨this.1, ?_⟩
      rw [this.2]
      simp only [List.length_append, List.length_cons, List.length_nil]
      omega
theorem prtP_ok (ys : List Int32) (x : Int32) (L : Int) : eOK (prtP ys x L) (prtA ys x L).length ∧ (prtP ys x L).length ≤ ys.length + 1 ∧ (prtA ys x L).length ≤ ys.length := by
  have h := prt_ok (ys := ys) (x := x) (L := L) ys.length 0 ([], []) (fun k hk => absurd hk (Nat.not_lt_zero _))
  have h2 := eOK_push h.1
  simp only [List.length_nil] at h
  unfold prtP prtA prtE
  split
  · refine ⟨eOK_take _ h2, ?_, by omega⟩
    rw [List.length_take]
    simp only [List.length_append, List.length_cons, List.length_nil]
    omega
  · refine ⟨h2, ?_, by omega⟩
    simp only [List.length_append, List.length_cons, List.length_nil]
    omega
end
section
/-! Pieces -/
theorem jx_Psize {E : EV} {X : TX} {cc : ByteArray} {own : String} {ret : Option FieldType} {rm : Room} {nL : Nat} {g0 : GH} {pc index : Nat} {lv : List (Nat × Value)} {rest : List Value} {S : SC} (h : CX E X cc own ret rm nL) {p : Nat} {es : List Nat} (hx : S.2.2 p = es) (hw : Cond.fieldLink own index "TextShelves$Pieces" "size" "I" ∈ AW) (ht : p < 4) (hd : decode cc pc = .ok (.getfield index, 3)) (K : JL E (RC E g0) X (pc + 3) lv (.int (iI es.length) :: rest) S) : JL E (RC E g0) X pc lv (eA E (66 + p) :: rest) S := by
  subst hx
  exact jg_Psize h hw ht hd K
theorem setE_id (S : SC) (p : Nat) : setE S p (S.2.2 p) = S := by simp [setE, up_id]
theorem pOK_size {E : EV} {G : GH} {p : Nat} {fs : List Nat} {f : Nat → Int32} (hf : G (70 + p) = .inl (eI E, 301, .inl f)) (hl : fs.length ≤ 301) (hv : ∀ j, j < fs.length → f j = iI (fs.getD j 0 : Nat)) (hp : p < 4) : pOK E (va_up G (66 + p) (.inr (1, [eA E (26 + p), eA E (70 + p), .int (iI fs.length)]))) p fs := by
  refine ⟨va_up_self _ _ _, hl, f, ?_, hv⟩
  rw [va_up_ne _ _ (by omega)]
  exact hf
/-- the size of Pieces set lower -/
theorem j_Pput {E : EV} {X : TX} {cc : ByteArray} {own : String} {ret : Option FieldType} {rm : Room} {nL : Nat} {g0 : GH} {pc index : Nat} {lv : List (Nat × Value)} {rest : List Value} {S : SC} (h : CX E X cc own ret rm nL) {p : Nat} {es : List Nat} (n : Nat) {z : Int} (hz : z = n) (hs : S.2.2 p = es) (hn : n ≤ es.length) (hw : Cond.fieldLink own index "TextShelves$Pieces" "size" "I" ∈ AW) (hp : p < 4) (hd : decode cc pc = .ok (.putfield index, 3)) (K : JL E (RC E g0) X (pc + 3) lv rest (setE S p (es.take n))) : JL E (RC E g0) X pc lv (.int (iI z) :: eA E (66 + p) :: rest) S := by
  subst hz
  refine j_put h (T := TX1) (S' := setE S p (es.take n)) (fs := [eA E (26 + p), eA E (70 + p), .int (iI es.length)]) 2 inX1 tyX1 tyX1_ok nmX1 (ci := 1) rfl (by decide) hw rfl rfl rfl rfl rfl (by omega) (fun G hG => ?_) (Nat.le_of_ble_eq_true rfl) hd K
  obtain ⟨a, b, f, e1, e2⟩ := hG.2.1 p hp
  rw [hs] at a b e2
  refine ⟨a, RC_setE hp hG ?_ (fun i h1 h2 => va_up_ne _ _ h1)⟩
  have hl : (es.take n).length = n := by rw [List.length_take]; omega
  have := pOK_size (fs := es.take n) e1 (by omega) (fun j hj => by rw [e2 j (by omega)]; have := eg_take (es := es) (n := n) (k := j) (by omega); unfold eg at this; rw [this]) hp
  rw [hl] at this
  exact this
set_option maxHeartbeats 400000 in
set_option maxRecDepth 20000 in
theorem c_X1_size {E : EV} (hE : EOK E) {S : SC} {g0 : GH} {p : Nat} (hp : p < 4) {es : List Nat} (hs : S.2.2 p = es) : Ct E (RC E g0) yX1_size wsX1_size rX1_size [eA E (66 + p)] S (some (.int (iI es.length))) S := by
  refine ct_of [(0, _)] hE (by decide) rfl (Nat.le_of_ble_eq_true rfl) rfl (fun X h hq => ?_)
  refine j_aload_n h 0 dX1_size_0 rfl rfl ?_
  refine jx_Psize h hs a_f_X1_24 (by omega) dX1_size_1 ?_
  exact j_iret h hq rfl dX1_size_4
set_option maxHeartbeats 400000 in
set_option maxRecDepth 20000 in
theorem c_X1_endOf {E : EV} (hE : EOK E) {S : SC} {g0 : GH} {p : Nat} (hp : p < 4) {es : List Nat} (hs : S.2.2 p = es) {z : Int} (hz : okI z) : Ct E (RC E g0) yX1_endOf wsX1_endOf rX1_endOf [eA E (66 + p), .int (iI z)] S (some (.int (iI (enI es z)))) S := by
  refine ct_of [(0, _), (1, _)] hE (by decide) rfl (Nat.le_of_ble_eq_true rfl) rfl (fun X h hq => ?_)
  refine j_of (fun G hG => (hG.2.1 p hp).2.1) (fun hle => ?_)
  rw [hs] at hle
  have hz2 := hz
  unfold okI at hz2
  refine j_iload_n h 1 dX1_endOf_0 rfl rfl ?_
  refine j_if_lt h 12 dX1_endOf_1 (by decide) (by first | exact okI_of _ | exact okI_b _ | exact okI_sgz _ _ | assumption | (unfold okI; omega)) (fun c1 => ?_) (fun c1 => ?_)
  · refine j_iconst h dX1_endOf_12 ?_
    exact j_iret h hq (by unfold enI; rw [if_neg (by omega)]) dX1_endOf_13
  · refine j_iload_n h 1 dX1_endOf_4 rfl rfl ?_
    refine j_aload_n h 0 dX1_endOf_5 rfl rfl ?_
    refine jx_Psize h hs a_f_X1_24 (by omega) dX1_endOf_6 ?_
    refine j_icmp_lt h 14 dX1_endOf_9 (by decide) (by first | exact okI_of _ | exact okI_b _ | exact okI_sgz _ _ | assumption | (unfold okI; omega)) (by first | exact okI_of _ | exact okI_b _ | exact okI_sgz _ _ | assumption | (unfold okI; omega)) (fun c9 => ?_) (fun c9 => ?_)
    · refine j_aload_n h 0 dX1_endOf_14 rfl rfl ?_
      refine jg_Pends h a_f_X1_20 (by omega) dX1_endOf_15 ?_
      refine j_iload_n h 1 dX1_endOf_18 rfl rfl ?_
      refine j_iald h (iI (eg es z.toNat : Nat)) (by omega) ⟨by omega, by omega⟩ (fun G hG => by obtain ⟨_, _, f, e1, e2⟩ := hG.2.1 p hp; rw [hs] at e2; exact ⟨301, f, e1, by omega, e2 _ (by omega)⟩) dX1_endOf_19 ?_
      exact j_iret h hq (by unfold enI; rw [if_pos (by omega)]) dX1_endOf_20
    · refine j_iconst h dX1_endOf_12 ?_
      exact j_iret h hq (by unfold enI; rw [if_neg (by omega)]) dX1_endOf_13
set_option maxHeartbeats 400000 in
set_option maxRecDepth 20000 in
theorem c_X1_startOf {E : EV} (hE : EOK E) {S : SC} {g0 : GH} {p : Nat} (hp : p < 4) {es : List Nat} (hs : S.2.2 p = es) {z : Int} (hz : 0 ≤ z) (hz2 : z < 2147483648) : Ct E (RC E g0) yX1_startOf wsX1_startOf rX1_startOf [eA E (66 + p), .int (iI z)] S (some (.int (iI (enI es (z - 1))))) S := by
  refine ct_of [(0, _), (1, _)] hE (by decide) rfl (Nat.le_of_ble_eq_true rfl) rfl (fun X h hq => ?_)
  refine j_aload_n h 0 dX1_startOf_0 rfl rfl ?_
  refine j_iload_n h 1 dX1_startOf_1 rfl rfl ?_
  refine j_iconst h dX1_startOf_2 ?_
  refine j_isub h dX1_startOf_3 ?_
  refine j_callV h (c_X1_endOf hE hp hs (by unfold okI; omega)) m_X1_endOf a_l_X1_50 rfl rfl ⟨Nat.le_of_ble_eq_true rfl, Nat.le_of_ble_eq_true rfl⟩ (ci := 1) rfl (by omega) (rcP (by omega)) rfl rfl (Nat.le_of_ble_eq_true rfl) dX1_startOf_4 ?_
  exact j_iret h hq rfl dX1_startOf_7
set_option maxHeartbeats 400000 in
set_option maxRecDepth 20000 in
theorem c_X1_addEnd {E : EV} (hE : EOK E) {S : SC} {g0 : GH} {p : Nat} (hp : p < 4) {es : List Nat} (hs : S.2.2 p = es) {e : Nat} (h1 : es.length < 301) : Ct E (RC E g0) yX1_addEnd wsX1_addEnd rX1_addEnd [eA E (66 + p), .int (iI (e : Nat))] S none (setE S p (es ++ [e])) := by
  refine ct_of [(0, _), (1, _)] hE (by decide) rfl (Nat.le_of_ble_eq_true rfl) rfl (fun X h hq => ?_)
  subst hs
  refine j_aload_n h 0 dX1_addEnd_0 rfl rfl ?_
  refine jg_Psize h a_f_X1_24 (by omega) dX1_addEnd_1 ?_
  refine j_aload_n h 0 dX1_addEnd_4 rfl rfl ?_
  refine jg_Pends h a_f_X1_20 (by omega) dX1_addEnd_5 ?_
  refine j_alen h 301 (by omega) (fun G hG => by obtain ⟨_, _, f, e1, _⟩ := hG.2.1 p hp; exact ⟨f, e1⟩) dX1_addEnd_8 ?_
  refine j_icmp_ge h 32 dX1_addEnd_9 (by decide) (by first | exact okI_of _ | exact okI_b _ | exact okI_sgz _ _ | assumption | (unfold okI; omega)) (by first | exact okI_of _ | exact okI_b _ | exact okI_sgz _ _ | assumption | (unfold okI; omega)) (fun c9 => ?_) (fun c9 => ?_)
  · exact absurd c9 (by omega)
  · refine j_aload_n h 0 dX1_addEnd_12 rfl rfl ?_
    refine jg_Pends h a_f_X1_20 (by omega) dX1_addEnd_13 ?_
    refine j_aload_n h 0 dX1_addEnd_16 rfl rfl ?_
    refine jg_Psize h a_f_X1_24 (by omega) dX1_addEnd_17 ?_
    refine j_iload_n h 1 dX1_addEnd_20 rfl rfl ?_
    refine j_eq (fun G0 hG0 => ?_)
    obtain ⟨a0, b0, f0, e0, v0⟩ := hG0.2.1 p hp
    refine j_iast h (S' := va_up G0 (70 + p) (.inl (eI E, 301, .inl (upd f0 (S.2.2 p).length (iI (e : Nat)))))) (by omega) ⟨by omega, by omega⟩ (fun G hG => by subst hG; exact ⟨301, f0, e0, by omega, by rw [Int.toNat_natCast]⟩) dX1_addEnd_21 ?_
    refine j_aload_n h 0 dX1_addEnd_22 rfl rfl ?_
    refine j_dup h dX1_addEnd_23 rfl ?_
    refine j_get h (T := TX1) 2 inX1 (ci := 1) rfl (by decide) a_f_X1_24 rfl (by omega) (fun G hG => by rw [← hG, va_up_ne _ _ (by omega)]; exact a0) rfl dX1_addEnd_24 ?_
    refine j_iconst h dX1_addEnd_27 ?_
    refine j_iadd h dX1_addEnd_28 ?_
    refine j_put h (T := TX1) (S' := va_up (va_up G0 (70 + p) (.inl (eI E, 301, .inl (upd f0 (S.2.2 p).length (iI (e : Nat)))))) (66 + p) (.inr (1, [eA E (26 + p), eA E (70 + p), .int (iI (((S.2.2 p).length : Int) + 1))]))) 2 inX1 tyX1 tyX1_ok nmX1 (ci := 1) rfl (by decide) a_f_X1_24 rfl rfl rfl rfl rfl (by omega) (fun G hG => by subst hG; exact ⟨by rw [va_up_ne _ _ (by omega)]; exact a0, rfl⟩) (Nat.le_of_ble_eq_true rfl) dX1_addEnd_29 ?_
    refine j_re (Rp2 := RC E g0) (S2 := setE S p (S.2.2 p ++ [e])) (fun G hG => ?_) ?_
    · subst hG
      have hz : (((S.2.2 p).length : Int) + 1) = ((S.2.2 p ++ [e]).length : Int) := by simp
      rw [hz]
      refine RC_setE hp hG0 (pOK_size (va_up_self _ _ _) (by simp; omega) (fun j hj => ?_) hp) (fun i h1 h2 => by rw [va_up_ne _ _ h1, va_up_ne _ _ h2])
      by_cases q : j = (S.2.2 p).length
      · subst q; simp [upd, List.getD]
      · have q2 : j < (S.2.2 p).length := by simp at hj; omega
        rw [show upd f0 (S.2.2 p).length (iI (e : Nat)) j = f0 j from if_neg q, v0 j q2]
        simp [List.getD, List.getElem?_append_left q2]
    exact j_vret h hq rfl dX1_addEnd_32
set_option maxHeartbeats 400000 in
set_option maxRecDepth 20000 in
theorem c_X1_endPiece {E : EV} (hE : EOK E) {S : SC} {g0 : GH} {p : Nat} (hp : p < 4) {es : List Nat} (hs : S.2.2 p = es) {as : List Int32} (ha : S.1 (26 + p) = as) (h1 : es.length < 301) : Ct E (RC E g0) yX1_endPiece wsX1_endPiece rX1_endPiece [eA E (66 + p)] S none (setE S p (es ++ [as.length])) := by
  refine ct_of [(0, _)] hE (by decide) rfl (Nat.le_of_ble_eq_true rfl) rfl (fun X h hq => ?_)
  refine j_aload_n h 0 dX1_endPiece_0 rfl rfl ?_
  refine j_aload_n h 0 dX1_endPiece_1 rfl rfl ?_
  refine jg_Pall h a_f_X1_14 (by omega) dX1_endPiece_2 ?_
  refine j_callV h (c_X2_size hE (show 26 + p < 30 by omega) ha) m_X2_size a_l_X1_31 rfl rfl ⟨Nat.le_of_ble_eq_true rfl, Nat.le_of_ble_eq_true rfl⟩ (ci := 2) rfl (by omega) (rcT (by omega)) rfl rfl (Nat.le_of_ble_eq_true rfl) dX1_endPiece_5 ?_
  refine j_callVv h (c_X1_addEnd hE hp hs h1) m_X1_addEnd a_l_X1_71 rfl rfl ⟨Nat.le_of_ble_eq_true rfl, Nat.le_of_ble_eq_true rfl⟩ (ci := 1) rfl (by omega) (rcP (by omega)) rfl rfl (Nat.le_of_ble_eq_true rfl) dX1_endPiece_8 ?_
  exact j_vret h hq rfl dX1_endPiece_11
set_option maxHeartbeats 400000 in
set_option maxRecDepth 20000 in
theorem c_X1_addPieceTo {E : EV} (hE : EOK E) {S : SC} {g0 : GH} {p : Nat} (hp : p < 4) {es : List Nat} (hs : S.2.2 p = es) {as : List Int32} (ha : S.1 (26 + p) = as) {t : Nat} (ht : t < 30) {xs : List Int32} (hx : S.1 t = xs) (hne : 26 + p ≠ t) {k : Nat} (hk : k < es.length) (hok : eOK es as.length) (hcp : xs.length + (eg es k - stN es k) ≤ cap t) : Ct E (RC E g0) yX1_addPieceTo wsX1_addPieceTo rX1_addPieceTo [eA E (66 + p), eA E t, .int (iI (k : Int))] S none (setT S t (xs ++ pce as es k)) := by
  refine ct_of [(0, _), (1, _), (2, _)] hE (by decide) rfl (Nat.le_of_ble_eq_true rfl) rfl (fun X h hq => ?_)
  refine j_of (fun G hG => (hG.2.1 p hp).2.1) (fun hle => ?_)
  rw [hs] at hle
  refine j_of (fun G hG => RC_len hG (show 26 + p < 30 by omega)) (fun hla => ?_)
  rw [ha] at hla
  have hca : cap (26 + p) = 300 := by unfold cap; rw [if_neg (by omega), if_neg (by omega)]
  have hokk := hok k hk
  refine j_aload_n h 1 dX1_addPieceTo_0 rfl rfl ?_
  refine j_aload_n h 0 dX1_addPieceTo_1 rfl rfl ?_
  refine jg_Pall h a_f_X1_14 (by omega) dX1_addPieceTo_2 ?_
  refine j_aload_n h 0 dX1_addPieceTo_5 rfl rfl ?_
  refine j_iload_n h 2 dX1_addPieceTo_6 rfl rfl ?_
  refine j_callV h (c_X1_startOf hE hp hs (by omega) (by omega)) m_X1_startOf a_l_X1_47 rfl rfl ⟨Nat.le_of_ble_eq_true rfl, Nat.le_of_ble_eq_true rfl⟩ (ci := 1) rfl (by omega) (rcP (by omega)) rfl rfl (Nat.le_of_ble_eq_true rfl) dX1_addPieceTo_7 ?_
  rw [enI_st (by omega)]
  refine j_aload_n h 0 dX1_addPieceTo_10 rfl rfl ?_
  refine j_iload_n h 2 dX1_addPieceTo_11 rfl rfl ?_
  refine j_callV h (c_X1_endOf hE hp hs (by unfold okI; omega)) m_X1_endOf a_l_X1_50 rfl rfl ⟨Nat.le_of_ble_eq_true rfl, Nat.le_of_ble_eq_true rfl⟩ (ci := 1) rfl (by omega) (rcP (by omega)) rfl rfl (Nat.le_of_ble_eq_true rfl) dX1_addPieceTo_12 ?_
  rw [enI_en hk]
  refine j_callVv h (c_X2_addSpan hE ht hx (show 26 + p < 30 by omega) ha hne (by omega) (by omega) (by omega) (by omega)) m_X2_addSpan a_l_X1_53 rfl rfl ⟨Nat.le_of_ble_eq_true rfl, Nat.le_of_ble_eq_true rfl⟩ (ci := 2) rfl (by omega) (rcT (by omega)) rfl rfl (Nat.le_of_ble_eq_true rfl) dX1_addPieceTo_15 ?_
  refine j_S (S2 := setT S t (xs ++ pce as es k)) (by unfold pce; rw [Int.toNat_natCast, show ((eg es k : Int) - stN es k).toNat = eg es k - stN es k by omega]) ?_
  exact j_vret h hq rfl dX1_addPieceTo_18
set_option maxHeartbeats 400000 in
set_option maxRecDepth 20000 in
theorem c_X1_addJoinedTo {E : EV} (hE : EOK E) {S : SC} {g0 : GH} {p : Nat} (hp : p < 4) {es : List Nat} (hs : S.2.2 p = es) {as : List Int32} (ha : S.1 (26 + p) = as) {t : Nat} (ht : t < 30) {xs : List Int32} (hx : S.1 t = xs) (hne : 26 + p ≠ t) {x : Int32} (hok : eOK es as.length) (hcp : xs.length + (jn as es x 0 es.length).length ≤ cap t) : Ct E (RC E g0) yX1_addJoinedTo wsX1_addJoinedTo rX1_addJoinedTo [eA E (66 + p), eA E t, .int x] S none (setT S t (xs ++ jn as es x 0 es.length)) := by
  refine ct_of [(0, _), (1, _), (2, _)] hE (by decide) rfl (Nat.le_of_ble_eq_true rfl) rfl (fun X h hq => ?_)
  refine j_of (fun G hG => (hG.2.1 p hp).2.1) (fun hle => ?_)
  rw [hs] at hle
  refine j_of (fun G hG => RC_len hG (show 26 + p < 30 by omega)) (fun hla => ?_)
  rw [ha] at hla
  have hca : cap (26 + p) = 300 := by unfold cap; rw [if_neg (by omega), if_neg (by omega)]
  refine j_iconst h dX1_addJoinedTo_0 ?_
  refine j_istore_n h [(3, _), (0, _), (1, _), (2, _)] dX1_addJoinedTo_1 rfl (by decide) rfl ?_
  refine j_sub [0, 1, 2, 3] rfl ?_
  refine j_S (S2 := setT S t xs) (by rw [← hx, setT_id]) ?_
  refine lpA2 (fun (z : Int) (us : List Int32) => (es.length - z).toNat) (fun (z : Int) (us : List Int32) => 0 ≤ z → z ≤ es.length → us ++ jn as es x z.toNat (es.length - z.toNat) = xs ++ jn as es x 0 es.length → JL E (RC E g0) X 2 [(3, .int (iI z)), (0, eA E (66 + p)), (1, eA E t), (2, .int x)] [] (setT S t us)) (fun z us ih h0 hb hv => ?_) 0 xs (Int.le_refl 0) (by omega) rfl
  refine j_iload_n h 0 dX1_addJoinedTo_2 rfl rfl ?_
  refine j_aload_n h 1 dX1_addJoinedTo_3 rfl rfl ?_
  refine jx_Psize h hs a_f_X1_24 (by omega) dX1_addJoinedTo_4 ?_
  refine j_icmp_ge h 31 dX1_addJoinedTo_7 (by decide) (by first | exact okI_of _ | exact okI_b _ | exact okI_sgz _ _ | assumption | (unfold okI; omega)) (by first | exact okI_of _ | exact okI_b _ | exact okI_sgz _ _ | assumption | (unfold okI; omega)) (fun c7 => ?_) (fun c7 => ?_)
  · rw [show es.length - z.toNat = 0 by omega, jn, List.append_nil] at hv
    rw [← hv] at hq
    exact j_vret h hq rfl dX1_addJoinedTo_31
  · have hv0 := hv
    have hlen := congrArg List.length hv
    obtain ⟨k, rfl⟩ : ∃ k : Nat, z = k := ⟨z.toNat, by omega⟩
    rw [show es.length - ((k : Int)).toNat = es.length - ((k : Int) + 1).toNat + 1 by omega, jn, Int.toNat_natCast, show k + 1 = ((k : Int) + 1).toNat by omega] at hv
    rw [show es.length - ((k : Int)).toNat = es.length - ((k : Int) + 1).toNat + 1 by omega, jn, Int.toNat_natCast] at hlen
    simp only [List.length_append, pce, sl_len] at hlen
    refine j_iload_n h 0 dX1_addJoinedTo_10 rfl rfl ?_
    refine j_if_le h 19 dX1_addJoinedTo_11 (by decide) (by first | exact okI_of _ | exact okI_b _ | exact okI_sgz _ _ | assumption | (unfold okI; omega)) (fun c11 => ?_) (fun c11 => ?_)
    · rw [if_pos (by omega), List.nil_append, ← List.append_assoc] at hv
      rw [if_pos (by omega)] at hlen
      simp only [List.length_nil] at hlen
      have eh : (setT S t us).1 t = us := setT_1s _ _ _
      refine j_aload_n h 1 dX1_addJoinedTo_19 rfl rfl ?_
      refine j_aload_n h 2 dX1_addJoinedTo_20 rfl rfl ?_
      refine j_iload_n h 0 dX1_addJoinedTo_21 rfl rfl ?_
      refine j_callVv h (c_X1_addPieceTo hE hp (S := setT S t _) hs (as := as) (by rw [setT_1n _ _ hne]; exact ha) ht eh hne (by omega) hok (by first | omega | (simp only [List.length_append, List.length_cons, List.length_nil]; omega))) m_X1_addPieceTo a_l_X1_57 rfl rfl ⟨Nat.le_of_ble_eq_true rfl, Nat.le_of_ble_eq_true rfl⟩ (ci := 1) rfl (by omega) (rcP (by omega)) rfl rfl (Nat.le_of_ble_eq_true rfl) dX1_addJoinedTo_22 ?_
      rw [setT_T]
      refine j_iinc h 0 [(3, _), (0, _), (1, _), (2, _)] dX1_addJoinedTo_25 rfl (by decide) rfl ?_
      refine j_goto h 2 dX1_addJoinedTo_28 (by decide) ?_
      exact ih ((k : Int) + 1) _ (by omega) (by omega) (by omega) hv
    · rw [if_neg (by omega), ← List.append_assoc, ← List.append_assoc] at hv
      rw [if_neg (by omega)] at hlen
      simp only [List.length_cons, List.length_nil] at hlen
      refine j_aload_n h 2 dX1_addJoinedTo_14 rfl rfl ?_
      refine j_iload_n h 3 dX1_addJoinedTo_15 rfl rfl ?_
      refine j_callVv h (c_X2_add hE ht (xs := us) (setT_1s _ _ _) (by omega)) m_X2_add a_l_X1_41 rfl rfl ⟨Nat.le_of_ble_eq_true rfl, Nat.le_of_ble_eq_true rfl⟩ (ci := 2) rfl (by omega) (rcT (by omega)) rfl rfl (Nat.le_of_ble_eq_true rfl) dX1_addJoinedTo_16 ?_
      refine j_S (S2 := setT S t (us ++ [x])) (by rw [setT_T]) ?_
      have eh : (setT S t (us ++ [x])).1 t = us ++ [x] := setT_1s _ _ _
      refine j_aload_n h 1 dX1_addJoinedTo_19 rfl rfl ?_
      refine j_aload_n h 2 dX1_addJoinedTo_20 rfl rfl ?_
      refine j_iload_n h 0 dX1_addJoinedTo_21 rfl rfl ?_
      refine j_callVv h (c_X1_addPieceTo hE hp (S := setT S t _) hs (as := as) (by rw [setT_1n _ _ hne]; exact ha) ht eh hne (by omega) hok (by first | omega | (simp only [List.length_append, List.length_cons, List.length_nil]; omega))) m_X1_addPieceTo a_l_X1_57 rfl rfl ⟨Nat.le_of_ble_eq_true rfl, Nat.le_of_ble_eq_true rfl⟩ (ci := 1) rfl (by omega) (rcP (by omega)) rfl rfl (Nat.le_of_ble_eq_true rfl) dX1_addJoinedTo_22 ?_
      rw [setT_T]
      refine j_iinc h 0 [(3, _), (0, _), (1, _), (2, _)] dX1_addJoinedTo_25 rfl (by decide) rfl ?_
      refine j_goto h 2 dX1_addJoinedTo_28 (by decide) ?_
      exact ih ((k : Int) + 1) _ (by omega) (by omega) (by omega) hv
set_option maxHeartbeats 400000 in
set_option maxRecDepth 20000 in
theorem c_X1_sizeJoined {E : EV} (hE : EOK E) {S : SC} {g0 : GH} {p : Nat} (hp : p < 4) {es : List Nat} (hs : S.2.2 p = es) {as : List Int32} (ha : S.1 (26 + p) = as) : Ct E (RC E g0) yX1_sizeJoined wsX1_sizeJoined rX1_sizeJoined [eA E (66 + p)] S (some (.int (iI (as.length + mxI 0 (es.length - 1))))) S := by
  refine ct_of [(0, _)] hE (by decide) rfl (Nat.le_of_ble_eq_true rfl) rfl (fun X h hq => ?_)
  refine j_of (fun G hG => (hG.2.1 p hp).2.1) (fun hle => ?_)
  rw [hs] at hle
  refine j_of (fun G hG => RC_len hG (show 26 + p < 30 by omega)) (fun hla => ?_)
  rw [ha] at hla
  have hca : cap (26 + p) = 300 := by unfold cap; rw [if_neg (by omega), if_neg (by omega)]
  refine j_aload_n h 0 dX1_sizeJoined_0 rfl rfl ?_
  refine jg_Pall h a_f_X1_14 (by omega) dX1_sizeJoined_1 ?_
  refine j_callV h (c_X2_size hE (show 26 + p < 30 by omega) ha) m_X2_size a_l_X1_31 rfl rfl ⟨Nat.le_of_ble_eq_true rfl, Nat.le_of_ble_eq_true rfl⟩ (ci := 2) rfl (by omega) (rcT (by omega)) rfl rfl (Nat.le_of_ble_eq_true rfl) dX1_sizeJoined_4 ?_
  refine j_iconst h dX1_sizeJoined_7 ?_
  refine j_aload_n h 0 dX1_sizeJoined_8 rfl rfl ?_
  refine jx_Psize h hs a_f_X1_24 (by omega) dX1_sizeJoined_9 ?_
  refine j_iconst h dX1_sizeJoined_12 ?_
  refine j_isub h dX1_sizeJoined_13 ?_
  refine j_max h (by first | exact okI_of _ | exact okI_b _ | exact okI_sgz _ _ | assumption | (unfold okI; omega)) (by first | exact okI_of _ | exact okI_b _ | exact okI_sgz _ _ | assumption | (unfold okI; omega)) a_l_X1_61 ⟨Nat.le_of_ble_eq_true rfl, Nat.le_of_ble_eq_true rfl⟩ (Nat.le_of_ble_eq_true rfl) dX1_sizeJoined_14 ?_
  refine j_iadd h dX1_sizeJoined_17 ?_
  exact j_iret h hq rfl dX1_sizeJoined_18
set_option maxHeartbeats 400000 in
set_option maxRecDepth 20000 in
theorem c_X1_foldAll {E : EV} (hE : EOK E) {S : SC} {g0 : GH} {p : Nat} (hp : p < 4) {es : List Nat} (hs : S.2.2 p = es) {as : List Int32} (ha : S.1 (26 + p) = as) {h0 : Int} (hok : eOK es as.length) : Ct E (RC E g0) yX1_foldAll wsX1_foldAll rX1_foldAll [eA E (66 + p), .long (lI h0)] S (some (.long (lI (pfd as es h0 0 es.length)))) S := by
  refine ct_of [(0, _), (1, _)] hE (by decide) rfl (Nat.le_of_ble_eq_true rfl) rfl (fun X h hq => ?_)
  refine j_of (fun G hG => (hG.2.1 p hp).2.1) (fun hle => ?_)
  rw [hs] at hle
  refine j_of (fun G hG => RC_len hG (show 26 + p < 30 by omega)) (fun hla => ?_)
  rw [ha] at hla
  have hca : cap (26 + p) = 300 := by unfold cap; rw [if_neg (by omega), if_neg (by omega)]
  refine j_lload_n h 1 dX1_foldAll_0 rfl rfl ?_
  refine j_lstore_n h [(3, _), (0, _), (1, _)] dX1_foldAll_1 rfl (by decide) rfl ?_
  refine j_iconst h dX1_foldAll_2 ?_
  refine j_istore h [(5, _), (3, _), (0, _), (1, _)] dX1_foldAll_3 (by decide) rfl ?_
  refine j_sub [0, 1, 2] rfl ?_
  refine lpA2 (fun (z a : Int) => (es.length - z).toNat) (fun (z a : Int) => 0 ≤ z → z ≤ es.length → pfd as es a z.toNat (es.length - z.toNat) = pfd as es h0 0 es.length → JL E (RC E g0) X 5 [(5, .int (iI z)), (3, .long (lI a)), (0, eA E (66 + p))] [] S) (fun z a ih hz hb hv => ?_) 0 h0 (Int.le_refl 0) (by omega) rfl
  refine j_iload h 0 dX1_foldAll_5 rfl ?_
  refine j_aload_n h 2 dX1_foldAll_7 rfl rfl ?_
  refine jx_Psize h hs a_f_X1_24 (by omega) dX1_foldAll_8 ?_
  refine j_icmp_ge h 41 dX1_foldAll_11 (by decide) (by first | exact okI_of _ | exact okI_b _ | exact okI_sgz _ _ | assumption | (unfold okI; omega)) (by first | exact okI_of _ | exact okI_b _ | exact okI_sgz _ _ | assumption | (unfold okI; omega)) (fun c11 => ?_) (fun c11 => ?_)
  · refine j_lload_n h 1 dX1_foldAll_41 rfl rfl ?_
    exact j_lret h hq (by rw [← hv, show es.length - z.toNat = 0 by omega, pfd]) dX1_foldAll_42
  · obtain ⟨k, rfl⟩ : ∃ k : Nat, z = k := ⟨z.toNat, by omega⟩
    have hokk := hok k (by omega)
    rw [show es.length - ((k : Int)).toNat = es.length - ((k : Int) + 1).toNat + 1 by omega, pfd, Int.toNat_natCast, show k + 1 = ((k : Int) + 1).toNat by omega] at hv
    refine j_aload_n h 2 dX1_foldAll_14 rfl rfl ?_
    refine jg_Pall h a_f_X1_14 (by omega) dX1_foldAll_15 ?_
    refine j_lload_n h 1 dX1_foldAll_18 rfl rfl ?_
    refine j_aload_n h 2 dX1_foldAll_19 rfl rfl ?_
    refine j_iload h 0 dX1_foldAll_20 rfl ?_
    refine j_callV h (c_X1_startOf hE hp hs (by omega) (by omega)) m_X1_startOf a_l_X1_47 rfl rfl ⟨Nat.le_of_ble_eq_true rfl, Nat.le_of_ble_eq_true rfl⟩ (ci := 1) rfl (by omega) (rcP (by omega)) rfl rfl (Nat.le_of_ble_eq_true rfl) dX1_foldAll_22 ?_
    rw [enI_st (by omega)]
    refine j_aload_n h 2 dX1_foldAll_25 rfl rfl ?_
    refine j_iload h 0 dX1_foldAll_26 rfl ?_
    refine j_callV h (c_X1_endOf hE hp hs (by unfold okI; omega)) m_X1_endOf a_l_X1_50 rfl rfl ⟨Nat.le_of_ble_eq_true rfl, Nat.le_of_ble_eq_true rfl⟩ (ci := 1) rfl (by omega) (rcP (by omega)) rfl rfl (Nat.le_of_ble_eq_true rfl) dX1_foldAll_28 ?_
    rw [enI_en (by omega)]
    refine j_callV h (c_X2_foldSpan hE (show 26 + p < 30 by omega) ha (by omega) (by omega) (by omega)) m_X2_foldSpan a_l_X1_74 rfl rfl ⟨Nat.le_of_ble_eq_true rfl, Nat.le_of_ble_eq_true rfl⟩ (ci := 2) rfl (by omega) (rcT (by omega)) rfl rfl (Nat.le_of_ble_eq_true rfl) dX1_foldAll_31 ?_
    rw [Int.toNat_natCast, show ((eg es k : Int) - stN es k).toNat = eg es k - stN es k by omega]
    refine j_lstore_n h [(3, _), (5, _), (0, _)] dX1_foldAll_34 rfl (by decide) rfl ?_
    refine j_iinc h 1 [(5, _), (3, _), (0, _)] dX1_foldAll_35 rfl (by decide) rfl ?_
    refine j_goto h 5 dX1_foldAll_38 (by decide) ?_
    exact ih ((k : Int) + 1) _ (by omega) (by omega) (by omega) hv
end
section
/-! Pieces, on -/
theorem take_eg {fs : List Nat} {k : Nat} (h : k < fs.length) : fs.take k ++ [eg fs k] = fs.take (k + 1) := by
  rw [List.take_succ]
  congr 1
  simp [eg, List.getD, h]
set_option maxHeartbeats 400000 in
set_option maxRecDepth 20000 in
theorem c_X1_leaveOutEmptyEnd {E : EV} (hE : EOK E) {S : SC} {g0 : GH} {p : Nat} (hp : p < 4) {es : List Nat} (hs : S.2.2 p = es) {n : Nat} (hok : eOK es n) (hn : n ≤ 300) : Ct E (RC E g0) yX1_leaveOutEmptyEnd wsX1_leaveOutEmptyEnd rX1_leaveOutEmptyEnd [eA E (66 + p)] S none (setE S p (es.take (loe es es.length))) := by
  refine ct_of [(0, _)] hE (by decide) rfl (Nat.le_of_ble_eq_true rfl) rfl (fun X h hq => ?_)
  refine j_of (fun G hG => (hG.2.1 p hp).2.1) (fun hle => ?_)
  rw [hs] at hle
  refine j_S (S2 := setE S p (es.take es.length)) (by rw [List.take_length, ← hs, setE_id]) ?_
  refine lpA1 (fun k : Nat => k) (fun k : Nat => k ≤ es.length → loe es k = loe es es.length → JL E (RC E g0) X 0 [(0, eA E (66 + p))] [] (setE S p (es.take k))) (fun k ih hk hv => ?_) es.length (Nat.le_refl _) rfl
  have hsk : (setE S p (es.take k)).2.2 p = es.take k := setE_2s _ _ _
  have hlk : (es.take k).length = k := by rw [List.length_take]; omega
  refine j_aload_n h 0 dX1_leaveOutEmptyEnd_0 rfl rfl ?_
  refine jx_Psize h hsk a_f_X1_24 (by omega) dX1_leaveOutEmptyEnd_1 ?_
  refine j_if_le h 43 dX1_leaveOutEmptyEnd_4 (by decide) (by first | exact okI_of _ | exact okI_b _ | exact okI_sgz _ _ | assumption | (unfold okI; omega)) (fun c4 => ?_) (fun c4 => ?_)
  · first | (rw [show es.take (loe es es.length) = es.take k by rw [← hv, show k = 0 by omega]; rfl] at hq; exact j_vret h hq rfl dX1_leaveOutEmptyEnd_43) | (rw [show es.take (loe es es.length) = es.take (m + 1) by rw [← hv, loe, if_neg (by omega)]] at hq; exact j_vret h hq rfl dX1_leaveOutEmptyEnd_43)
  · obtain ⟨m, rfl⟩ : ∃ m, k = m + 1 := ⟨k - 1, by omega⟩
    have hokk := hok m (by omega)
    have em : (((es.take (m + 1)).length : Int) - 1) = (m : Int) := by omega
    refine j_aload_n h 0 dX1_leaveOutEmptyEnd_7 rfl rfl ?_
    refine j_aload_n h 0 dX1_leaveOutEmptyEnd_8 rfl rfl ?_
    refine jx_Psize h hsk a_f_X1_24 (by omega) dX1_leaveOutEmptyEnd_9 ?_
    refine j_iconst h dX1_leaveOutEmptyEnd_12 ?_
    refine j_isub h dX1_leaveOutEmptyEnd_13 ?_
    refine j_callV h (c_X1_startOf hE hp hsk (by omega) (by omega)) m_X1_startOf a_l_X1_47 rfl rfl ⟨Nat.le_of_ble_eq_true rfl, Nat.le_of_ble_eq_true rfl⟩ (ci := 1) rfl (by omega) (rcP (by omega)) rfl rfl (Nat.le_of_ble_eq_true rfl) dX1_leaveOutEmptyEnd_14 ?_
    rw [em, enI_st (by omega), stN_take (by omega)]
    refine j_aload_n h 0 dX1_leaveOutEmptyEnd_17 rfl rfl ?_
    refine j_aload_n h 0 dX1_leaveOutEmptyEnd_18 rfl rfl ?_
    refine jx_Psize h hsk a_f_X1_24 (by omega) dX1_leaveOutEmptyEnd_19 ?_
    refine j_iconst h dX1_leaveOutEmptyEnd_22 ?_
    refine j_isub h dX1_leaveOutEmptyEnd_23 ?_
    refine j_callV h (c_X1_endOf hE hp hsk (by unfold okI; omega)) m_X1_endOf a_l_X1_50 rfl rfl ⟨Nat.le_of_ble_eq_true rfl, Nat.le_of_ble_eq_true rfl⟩ (ci := 1) rfl (by omega) (rcP (by omega)) rfl rfl (Nat.le_of_ble_eq_true rfl) dX1_leaveOutEmptyEnd_24 ?_
    rw [em, enI_en (by omega), eg_take (by omega)]
    refine j_icmp_ne h 43 dX1_leaveOutEmptyEnd_27 (by decide) (by first | exact okI_of _ | exact okI_b _ | exact okI_sgz _ _ | assumption | (unfold okI; omega)) (by first | exact okI_of _ | exact okI_b _ | exact okI_sgz _ _ | assumption | (unfold okI; omega)) (fun c27 => ?_) (fun c27 => ?_)
    · first | (rw [show es.take (loe es es.length) = es.take k by rw [← hv, show k = 0 by omega]; rfl] at hq; exact j_vret h hq rfl dX1_leaveOutEmptyEnd_43) | (rw [show es.take (loe es es.length) = es.take (m + 1) by rw [← hv, loe, if_neg (by omega)]] at hq; exact j_vret h hq rfl dX1_leaveOutEmptyEnd_43)
    · refine j_aload_n h 0 dX1_leaveOutEmptyEnd_30 rfl rfl ?_
      refine j_dup h dX1_leaveOutEmptyEnd_31 rfl ?_
      refine jx_Psize h hsk a_f_X1_24 (by omega) dX1_leaveOutEmptyEnd_32 ?_
      refine j_iconst h dX1_leaveOutEmptyEnd_35 ?_
      refine j_isub h dX1_leaveOutEmptyEnd_36 ?_
      refine j_Pput h m em hsk (by omega) a_f_X1_24 hp dX1_leaveOutEmptyEnd_37 ?_
      refine j_S (S2 := setE S p (es.take m)) (by rw [setE_E, List.take_take, Nat.min_eq_left (by omega)]) ?_
      refine j_goto h 0 dX1_leaveOutEmptyEnd_40 (by decide) ?_
      exact ih m (by omega) (by omega) (by rw [loe, if_pos (by omega)] at hv; exact hv)
set_option maxHeartbeats 400000 in
set_option maxRecDepth 20000 in
theorem c_X1_become {E : EV} (hE : EOK E) {S : SC} {g0 : GH} {p : Nat} (hp : p < 4) {es : List Nat} (hs : S.2.2 p = es) {q : Nat} (hq0 : q < 4) {fs : List Nat} (hf : S.2.2 q = fs) (hne : q ≠ p) {bs : List Int32} (hb0 : S.1 (26 + q) = bs) {n : Nat} (hok : eOK fs n) (hn : n ≤ 300) : Ct E (RC E g0) yX1_become wsX1_become rX1_become [eA E (66 + p), eA E (66 + q)] S none (setE (setT S (26 + p) bs) p fs) := by
  refine ct_of [(0, _), (1, _)] hE (by decide) rfl (Nat.le_of_ble_eq_true rfl) rfl (fun X h hq => ?_)
  refine j_of (fun G hG => (hG.2.1 p hp).2.1) (fun hle => ?_)
  rw [hs] at hle
  refine j_of (fun G hG => (hG.2.1 q hq0).2.1) (fun hlf => ?_)
  rw [hf] at hlf
  refine j_of (fun G hG => RC_len hG (show 26 + q < 30 by omega)) (fun hla => ?_)
  rw [hb0] at hla
  have hca : cap (26 + q) = 300 := by unfold cap; rw [if_neg (by omega), if_neg (by omega)]
  have hcp : cap (26 + p) = 300 := by unfold cap; rw [if_neg (by omega), if_neg (by omega)]
  refine j_aload_n h 0 dX1_become_0 rfl rfl ?_
  refine jg_Pall h a_f_X1_14 (by omega) dX1_become_1 ?_
  refine j_aload_n h 1 dX1_become_4 rfl rfl ?_
  refine jg_Pall h a_f_X1_14 (by omega) dX1_become_5 ?_
  refine j_callVv h (c_X2_become hE (show 26 + p < 30 by omega) (show 26 + q < 30 by omega) hb0 (by omega) (by omega)) m_X2_become a_l_X1_67 rfl rfl ⟨Nat.le_of_ble_eq_true rfl, Nat.le_of_ble_eq_true rfl⟩ (ci := 2) rfl (by omega) (rcT (by omega)) rfl rfl (Nat.le_of_ble_eq_true rfl) dX1_become_8 ?_
  refine j_aload_n h 0 dX1_become_11 rfl rfl ?_
  refine j_iconst h dX1_become_12 ?_
  refine j_Pput h 0 rfl (S := setT S (26 + p) bs) hs (Nat.zero_le _) a_f_X1_24 hp dX1_become_13 ?_
  refine j_iconst h dX1_become_16 ?_
  refine j_istore_n h [(2, _), (0, _), (1, _)] dX1_become_17 rfl (by decide) rfl ?_
  refine j_sub [0, 1, 2] rfl ?_
  rw [List.take_zero]
  refine lpA2 (fun (z : Int) (gs : List Nat) => (fs.length - z).toNat) (fun (z : Int) (gs : List Nat) => 0 ≤ z → z ≤ fs.length → gs = fs.take z.toNat → JL E (RC E g0) X 18 [(2, .int (iI z)), (0, eA E (66 + p)), (1, eA E (66 + q))] [] (setE (setT S (26 + p) bs) p gs)) (fun z gs ih h0 hb hv => ?_) 0 [] (Int.le_refl 0) (by omega) rfl
  refine j_iload_n h 0 dX1_become_18 rfl rfl ?_
  refine j_aload_n h 2 dX1_become_19 rfl rfl ?_
  refine jx_Psize h (S := setE (setT S (26 + p) bs) p gs) (es := fs) (by rw [setE_2n _ _ hne]; exact hf) a_f_X1_24 (by omega) dX1_become_20 ?_
  refine j_icmp_ge h 41 dX1_become_23 (by decide) (by first | exact okI_of _ | exact okI_b _ | exact okI_sgz _ _ | assumption | (unfold okI; omega)) (by first | exact okI_of _ | exact okI_b _ | exact okI_sgz _ _ | assumption | (unfold okI; omega)) (fun c23 => ?_) (fun c23 => ?_)
  · have e : gs = fs := by rw [hv]; exact List.take_of_length_le (by omega)
    subst e
    exact j_vret h hq rfl dX1_become_41
  · obtain ⟨k, rfl⟩ : ∃ k : Nat, z = k := ⟨z.toNat, by omega⟩
    have hgk : gs = fs.take k := by rw [hv, Int.toNat_natCast]
    have hgl : gs.length = k := by rw [hgk, List.length_take]; omega
    refine j_aload_n h 1 dX1_become_26 rfl rfl ?_
    refine j_aload_n h 2 dX1_become_27 rfl rfl ?_
    refine j_iload_n h 0 dX1_become_28 rfl rfl ?_
    refine j_callV h (c_X1_endOf hE hq0 (S := setE (setT S (26 + p) bs) p gs) (es := fs) (by rw [setE_2n _ _ hne]; exact hf) (by unfold okI; omega)) m_X1_endOf a_l_X1_50 rfl rfl ⟨Nat.le_of_ble_eq_true rfl, Nat.le_of_ble_eq_true rfl⟩ (ci := 1) rfl (by omega) (rcP (by omega)) rfl rfl (Nat.le_of_ble_eq_true rfl) dX1_become_29 ?_
    rw [enI_en (by omega)]
    refine j_callVv h (c_X1_addEnd hE hp (setE_2s _ _ _) (by omega)) m_X1_addEnd a_l_X1_71 rfl rfl ⟨Nat.le_of_ble_eq_true rfl, Nat.le_of_ble_eq_true rfl⟩ (ci := 1) rfl (by omega) (rcP (by omega)) rfl rfl (Nat.le_of_ble_eq_true rfl) dX1_become_32 ?_
    refine j_S (S2 := setE (setT S (26 + p) bs) p (gs ++ [eg fs k])) (by rw [setE_E]) ?_
    refine j_iinc h 0 [(2, _), (0, _), (1, _)] dX1_become_35 rfl (by decide) rfl ?_
    refine j_goto h 18 dX1_become_38 (by decide) ?_
    exact ih ((k : Int) + 1) _ (by omega) (by omega) (by omega) (by rw [hgk, show ((k : Int) + 1).toNat = k + 1 by omega, take_eg (by omega)])
set_option maxHeartbeats 400000 in
set_option maxRecDepth 20000 in
theorem c_X1_partAnew {E : EV} (hE : EOK E) {S : SC} {g0 : GH} {p : Nat} (hp : p < 4) {u : Nat} (hu : u < 30) {ys : List Int32} (hy : S.1 u = ys) (hne : u ≠ 26 + p) (hys : ys.length ≤ 300) {x : Int32} {L : Int} (hL : okI L) : Ct E (RC E g0) yX1_partAnew wsX1_partAnew rX1_partAnew [eA E (66 + p), eA E u, .int x, .int (iI L)] S none (setE (setT S (26 + p) (prtA ys x L)) p (prtP ys x L)) := by
  refine ct_of [(0, _), (1, _), (2, _), (3, _)] hE (by decide) rfl (Nat.le_of_ble_eq_true rfl) rfl (fun X h hq => ?_)
  refine j_of (fun G hG => (hG.2.1 p hp).2.1) (fun hle => ?_)
  have hL2 := hL
  unfold okI at hL2
  have hcp : cap (26 + p) = 300 := by unfold cap; rw [if_neg (by omega), if_neg (by omega)]
  have hpu : 26 + p < 30 := by omega
  refine j_aload_n h 0 dX1_partAnew_0 rfl rfl ?_
  refine jg_Pall h a_f_X1_14 (by omega) dX1_partAnew_1 ?_
  refine j_callVv h (c_X2_clear hE hpu) m_X2_clear a_l_X1_28 rfl rfl ⟨Nat.le_of_ble_eq_true rfl, Nat.le_of_ble_eq_true rfl⟩ (ci := 2) rfl (by omega) (rcT (by omega)) rfl rfl (Nat.le_of_ble_eq_true rfl) dX1_partAnew_4 ?_
  refine j_aload_n h 0 dX1_partAnew_7 rfl rfl ?_
  refine j_iconst h dX1_partAnew_8 ?_
  refine j_Pput h 0 rfl (S := setT S (26 + p) []) rfl (Nat.zero_le _) a_f_X1_24 hp dX1_partAnew_9 ?_
  refine j_iconst h dX1_partAnew_12 ?_
  refine j_istore h [(4, _), (0, _), (1, _), (2, _), (3, _)] dX1_partAnew_13 (by decide) rfl ?_
  refine j_sub [0, 1, 2, 3, 4] rfl ?_
  rw [List.take_zero]
  refine lpA3 (fun (z : Int) (bs : List Int32) (gs : List Nat) => (ys.length - z).toNat) (fun (z : Int) (bs : List Int32) (gs : List Nat) => 0 ≤ z → z ≤ ys.length → bs.length + gs.length = z.toNat → eOK gs bs.length → prt ys x L z.toNat (bs, gs) (ys.length - z.toNat) = prt ys x L 0 ([], []) ys.length → JL E (RC E g0) X 15 [(4, .int (iI z)), (0, eA E (66 + p)), (1, eA E u), (2, .int x), (3, .int (iI L))] [] (setE (setT S (26 + p) bs) p gs)) (fun z bs gs ih h0 hb hlen hok hv => ?_) 0 [] [] (Int.le_refl 0) (by omega) rfl (fun k hk => absurd hk (Nat.not_lt_zero _)) rfl
  have eu : (setE (setT S (26 + p) bs) p gs).1 u = ys := by rw [setE_1, setT_1n _ _ hne]; exact hy
  have ea_ : (setE (setT S (26 + p) bs) p gs).1 (26 + p) = bs := by rw [setE_1, setT_1s]
  have es_ : (setE (setT S (26 + p) bs) p gs).2.2 p = gs := setE_2s _ _ _
  refine j_iload h 0 dX1_partAnew_15 rfl ?_
  refine j_aload_n h 2 dX1_partAnew_17 rfl rfl ?_
  refine j_callV h (c_X2_size hE hu eu) m_X2_size a_l_X1_31 rfl rfl ⟨Nat.le_of_ble_eq_true rfl, Nat.le_of_ble_eq_true rfl⟩ (ci := 2) rfl (by omega) (rcT (by omega)) rfl rfl (Nat.le_of_ble_eq_true rfl) dX1_partAnew_18 ?_
  refine j_icmp_ge h 74 dX1_partAnew_21 (by decide) (by first | exact okI_of _ | exact okI_b _ | exact okI_sgz _ _ | assumption | (unfold okI; omega)) (by first | exact okI_of _ | exact okI_b _ | exact okI_sgz _ _ | assumption | (unfold okI; omega)) (fun c21 => ?_) (fun c21 => ?_)
  · refine j_aload_n h 1 dX1_partAnew_74 rfl rfl ?_
    refine j_callVv h (c_X1_endPiece hE hp es_ ea_ (by omega)) m_X1_endPiece a_l_X1_38 rfl rfl ⟨Nat.le_of_ble_eq_true rfl, Nat.le_of_ble_eq_true rfl⟩ (ci := 1) rfl (by omega) (rcP (by omega)) rfl rfl (Nat.le_of_ble_eq_true rfl) dX1_partAnew_75 ?_
    rw [show ys.length - z.toNat = 0 by omega, prt] at hv
    have hbs : (prt ys x L 0 ([], []) ys.length).1 = bs := by rw [← hv]
    have hgs : (prt ys x L 0 ([], []) ys.length).2 = gs := by rw [← hv]
    have hgl9 : (gs ++ [bs.length]).length = gs.length + 1 := by simp
    have hok9 : eOK (gs ++ [bs.length]) bs.length := eOK_push hok
    refine j_S (S2 := setE (setT S (26 + p) bs) p (gs ++ [bs.length])) (by rw [setE_E]) ?_
    have fin : prtA ys x L = bs := hbs
    have fin2 : prtP ys x L = prtE (gs ++ [bs.length]) L := by unfold prtP; rw [hbs, hgs]
    rw [fin, fin2] at hq
    refine j_iload_n h 4 dX1_partAnew_78 rfl rfl ?_
    refine j_if_ne h 94 dX1_partAnew_79 (by decide) (by first | exact okI_of _ | exact okI_b _ | exact okI_sgz _ _ | assumption | (unfold okI; omega)) (fun c79 => ?_) (fun c79 => ?_)
    · have e : prtE (gs ++ [bs.length]) L = prtE (gs ++ [bs.length]) L := rfl
      first | (rw [show prtE (gs ++ [bs.length]) L = (gs ++ [bs.length]).take (loe (gs ++ [bs.length]) (gs ++ [bs.length]).length) from if_pos ⟨by omega, by omega⟩] at hq; exact j_vret h hq rfl dX1_partAnew_94) | (rw [show prtE (gs ++ [bs.length]) L = gs ++ [bs.length] from if_neg (fun w => by omega)] at hq; exact j_vret h hq rfl dX1_partAnew_94)
    · refine j_aload_n h 1 dX1_partAnew_82 rfl rfl ?_
      refine jx_Psize h (setE_2s _ _ _) a_f_X1_24 (by omega) dX1_partAnew_83 ?_
      refine j_iconst h dX1_partAnew_86 ?_
      refine j_icmp_le h 94 dX1_partAnew_87 (by decide) (by first | exact okI_of _ | exact okI_b _ | exact okI_sgz _ _ | assumption | (unfold okI; omega)) (by first | exact okI_of _ | exact okI_b _ | exact okI_sgz _ _ | assumption | (unfold okI; omega)) (fun c87 => ?_) (fun c87 => ?_)
      · have e : prtE (gs ++ [bs.length]) L = prtE (gs ++ [bs.length]) L := rfl
        first | (rw [show prtE (gs ++ [bs.length]) L = (gs ++ [bs.length]).take (loe (gs ++ [bs.length]) (gs ++ [bs.length]).length) from if_pos ⟨by omega, by omega⟩] at hq; exact j_vret h hq rfl dX1_partAnew_94) | (rw [show prtE (gs ++ [bs.length]) L = gs ++ [bs.length] from if_neg (fun w => by omega)] at hq; exact j_vret h hq rfl dX1_partAnew_94)
      · refine j_aload_n h 1 dX1_partAnew_90 rfl rfl ?_
        refine j_callVv h (c_X1_leaveOutEmptyEnd hE hp (setE_2s _ _ _) hok9 (by omega)) m_X1_leaveOutEmptyEnd a_l_X1_44 rfl rfl ⟨Nat.le_of_ble_eq_true rfl, Nat.le_of_ble_eq_true rfl⟩ (ci := 1) rfl (by omega) (rcP (by omega)) rfl rfl (Nat.le_of_ble_eq_true rfl) dX1_partAnew_91 ?_
        rw [setE_E]
        have e : prtE (gs ++ [bs.length]) L = prtE (gs ++ [bs.length]) L := rfl
        first | (rw [show prtE (gs ++ [bs.length]) L = (gs ++ [bs.length]).take (loe (gs ++ [bs.length]) (gs ++ [bs.length]).length) from if_pos ⟨by omega, by omega⟩] at hq; exact j_vret h hq rfl dX1_partAnew_94) | (rw [show prtE (gs ++ [bs.length]) L = gs ++ [bs.length] from if_neg (fun w => by omega)] at hq; exact j_vret h hq rfl dX1_partAnew_94)
  · refine j_aload_n h 2 dX1_partAnew_24 rfl rfl ?_
    refine j_iload h 0 dX1_partAnew_25 rfl ?_
    refine j_callV h (c_X2_at hE hu eu h0 (by omega)) m_X2_at a_l_X1_34 rfl rfl ⟨Nat.le_of_ble_eq_true rfl, Nat.le_of_ble_eq_true rfl⟩ (ci := 2) rfl (by omega) (rcT (by omega)) rfl rfl (Nat.le_of_ble_eq_true rfl) dX1_partAnew_27 ?_
    refine j_iload_n h 3 dX1_partAnew_30 rfl rfl ?_
    refine j_rcmp_ne h 55 dX1_partAnew_31 (by decide) (fun c31 => ?_) (fun c31 => ?_)
    · have cc : ¬ (gz ys z.toNat = x ∧ (L ≤ 0 ∨ (gs.length : Int) < L - 1)) := fun w => c31 w.1
      refine j_aload_n h 1 dX1_partAnew_55 rfl rfl ?_
      refine jg_Pall h a_f_X1_14 (by omega) dX1_partAnew_56 ?_
      refine j_aload_n h 2 dX1_partAnew_59 rfl rfl ?_
      refine j_iload h 0 dX1_partAnew_60 rfl ?_
      refine j_callV h (c_X2_at hE hu eu h0 (by omega)) m_X2_at a_l_X1_34 rfl rfl ⟨Nat.le_of_ble_eq_true rfl, Nat.le_of_ble_eq_true rfl⟩ (ci := 2) rfl (by omega) (rcT (by omega)) rfl rfl (Nat.le_of_ble_eq_true rfl) dX1_partAnew_62 ?_
      refine j_callVv h (c_X2_add hE hpu ea_ (by omega)) m_X2_add a_l_X1_41 rfl rfl ⟨Nat.le_of_ble_eq_true rfl, Nat.le_of_ble_eq_true rfl⟩ (ci := 2) rfl (by omega) (rcT (by omega)) rfl rfl (Nat.le_of_ble_eq_true rfl) dX1_partAnew_65 ?_
      refine j_S (S2 := setE (setT S (26 + p) (bs ++ [gz ys z.toNat])) p gs) (by rw [← setE_T, setT_T]) ?_
      refine j_iinc h 0 [(4, _), (0, _), (1, _), (2, _), (3, _)] dX1_partAnew_68 rfl (by decide) rfl ?_
      refine j_goto h 15 dX1_partAnew_71 (by decide) ?_
      rw [show ys.length - z.toNat = ys.length - (z + 1).toNat + 1 by omega, prt] at hv
      first | (rw [if_pos cc, show z.toNat + 1 = (z + 1).toNat by omega] at hv; exact ih (z + 1) _ _ (by omega) (by omega) (by omega) (by simp only [List.length_append, List.length_cons, List.length_nil]; omega) (eOK_push hok) hv) | (rw [if_neg cc, show z.toNat + 1 = (z + 1).toNat by omega] at hv; exact ih (z + 1) _ _ (by omega) (by omega) (by omega) (by simp only [List.length_append, List.length_cons, List.length_nil]; omega) (eOK_mono hok (by simp)) hv)
    · skip
      refine j_iload_n h 4 dX1_partAnew_34 rfl rfl ?_
      refine j_if_le h 48 dX1_partAnew_35 (by decide) (by first | exact okI_of _ | exact okI_b _ | exact okI_sgz _ _ | assumption | (unfold okI; omega)) (fun c35 => ?_) (fun c35 => ?_)
      · have cc : (gz ys z.toNat = x ∧ (L ≤ 0 ∨ (gs.length : Int) < L - 1)) := ⟨c31, Or.inl c35⟩
        refine j_aload_n h 1 dX1_partAnew_48 rfl rfl ?_
        refine j_callVv h (c_X1_endPiece hE hp es_ ea_ (by omega)) m_X1_endPiece a_l_X1_38 rfl rfl ⟨Nat.le_of_ble_eq_true rfl, Nat.le_of_ble_eq_true rfl⟩ (ci := 1) rfl (by omega) (rcP (by omega)) rfl rfl (Nat.le_of_ble_eq_true rfl) dX1_partAnew_49 ?_
        refine j_S (S2 := setE (setT S (26 + p) bs) p (gs ++ [bs.length])) (by rw [setE_E]) ?_
        refine j_goto h 68 dX1_partAnew_52 (by decide) ?_
        refine j_iinc h 0 [(4, _), (0, _), (1, _), (2, _), (3, _)] dX1_partAnew_68 rfl (by decide) rfl ?_
        refine j_goto h 15 dX1_partAnew_71 (by decide) ?_
        rw [show ys.length - z.toNat = ys.length - (z + 1).toNat + 1 by omega, prt] at hv
        first | (rw [if_pos cc, show z.toNat + 1 = (z + 1).toNat by omega] at hv; exact ih (z + 1) _ _ (by omega) (by omega) (by omega) (by simp only [List.length_append, List.length_cons, List.length_nil]; omega) (eOK_push hok) hv) | (rw [if_neg cc, show z.toNat + 1 = (z + 1).toNat by omega] at hv; exact ih (z + 1) _ _ (by omega) (by omega) (by omega) (by simp only [List.length_append, List.length_cons, List.length_nil]; omega) (eOK_mono hok (by simp)) hv)
      · skip
        refine j_aload_n h 1 dX1_partAnew_38 rfl rfl ?_
        refine jx_Psize h es_ a_f_X1_24 (by omega) dX1_partAnew_39 ?_
        refine j_iload_n h 4 dX1_partAnew_42 rfl rfl ?_
        refine j_iconst h dX1_partAnew_43 ?_
        refine j_isub h dX1_partAnew_44 ?_
        refine j_icmp_ge h 55 dX1_partAnew_45 (by decide) (by first | exact okI_of _ | exact okI_b _ | exact okI_sgz _ _ | assumption | (unfold okI; omega)) (by first | exact okI_of _ | exact okI_b _ | exact okI_sgz _ _ | assumption | (unfold okI; omega)) (fun c45 => ?_) (fun c45 => ?_)
        · have cc : ¬ (gz ys z.toNat = x ∧ (L ≤ 0 ∨ (gs.length : Int) < L - 1)) := fun w => by omega
          refine j_aload_n h 1 dX1_partAnew_55 rfl rfl ?_
          refine jg_Pall h a_f_X1_14 (by omega) dX1_partAnew_56 ?_
          refine j_aload_n h 2 dX1_partAnew_59 rfl rfl ?_
          refine j_iload h 0 dX1_partAnew_60 rfl ?_
          refine j_callV h (c_X2_at hE hu eu h0 (by omega)) m_X2_at a_l_X1_34 rfl rfl ⟨Nat.le_of_ble_eq_true rfl, Nat.le_of_ble_eq_true rfl⟩ (ci := 2) rfl (by omega) (rcT (by omega)) rfl rfl (Nat.le_of_ble_eq_true rfl) dX1_partAnew_62 ?_
          refine j_callVv h (c_X2_add hE hpu ea_ (by omega)) m_X2_add a_l_X1_41 rfl rfl ⟨Nat.le_of_ble_eq_true rfl, Nat.le_of_ble_eq_true rfl⟩ (ci := 2) rfl (by omega) (rcT (by omega)) rfl rfl (Nat.le_of_ble_eq_true rfl) dX1_partAnew_65 ?_
          refine j_S (S2 := setE (setT S (26 + p) (bs ++ [gz ys z.toNat])) p gs) (by rw [← setE_T, setT_T]) ?_
          refine j_iinc h 0 [(4, _), (0, _), (1, _), (2, _), (3, _)] dX1_partAnew_68 rfl (by decide) rfl ?_
          refine j_goto h 15 dX1_partAnew_71 (by decide) ?_
          rw [show ys.length - z.toNat = ys.length - (z + 1).toNat + 1 by omega, prt] at hv
          first | (rw [if_pos cc, show z.toNat + 1 = (z + 1).toNat by omega] at hv; exact ih (z + 1) _ _ (by omega) (by omega) (by omega) (by simp only [List.length_append, List.length_cons, List.length_nil]; omega) (eOK_push hok) hv) | (rw [if_neg cc, show z.toNat + 1 = (z + 1).toNat by omega] at hv; exact ih (z + 1) _ _ (by omega) (by omega) (by omega) (by simp only [List.length_append, List.length_cons, List.length_nil]; omega) (eOK_mono hok (by simp)) hv)
        · have cc : (gz ys z.toNat = x ∧ (L ≤ 0 ∨ (gs.length : Int) < L - 1)) := ⟨c31, Or.inr (by omega)⟩
          refine j_aload_n h 1 dX1_partAnew_48 rfl rfl ?_
          refine j_callVv h (c_X1_endPiece hE hp es_ ea_ (by omega)) m_X1_endPiece a_l_X1_38 rfl rfl ⟨Nat.le_of_ble_eq_true rfl, Nat.le_of_ble_eq_true rfl⟩ (ci := 1) rfl (by omega) (rcP (by omega)) rfl rfl (Nat.le_of_ble_eq_true rfl) dX1_partAnew_49 ?_
          refine j_S (S2 := setE (setT S (26 + p) bs) p (gs ++ [bs.length])) (by rw [setE_E]) ?_
          refine j_goto h 68 dX1_partAnew_52 (by decide) ?_
          refine j_iinc h 0 [(4, _), (0, _), (1, _), (2, _), (3, _)] dX1_partAnew_68 rfl (by decide) rfl ?_
          refine j_goto h 15 dX1_partAnew_71 (by decide) ?_
          rw [show ys.length - z.toNat = ys.length - (z + 1).toNat + 1 by omega, prt] at hv
          first | (rw [if_pos cc, show z.toNat + 1 = (z + 1).toNat by omega] at hv; exact ih (z + 1) _ _ (by omega) (by omega) (by omega) (by simp only [List.length_append, List.length_cons, List.length_nil]; omega) (eOK_push hok) hv) | (rw [if_neg cc, show z.toNat + 1 = (z + 1).toNat by omega] at hv; exact ih (z + 1) _ _ (by omega) (by omega) (by omega) (by simp only [List.length_append, List.length_cons, List.length_nil]; omega) (eOK_mono hok (by simp)) hv)
end
section
/-! shelves by number, images copied -/
def sw (z : Int) : Nat := (fmo z 8).toNat
theorem sw_lt (z : Int) : sw z < 8 := by unfold sw fmo; omega
def sh (S : SC) (z : Int) : Nat := S.2.1 (sw z)
def okS (S : SC) : Prop := (∀ j, j < 8 → S.2.1 j < 8) ∧ ∀ i j, i < 8 → j < 8 → S.2.1 i = S.2.1 j → i = j
theorem RC_okS {E : EV} {g0 : GH} {S : SC} {G : GH} (h : RC E g0 S G) : okS S := h.2.2.2.2.1
theorem sh_lt {S : SC} (h : okS S) (z : Int) : sh S z < 8 := h.1 _ (sw_lt z)
def exX (f : Nat → Nat) (a b : Nat) : Nat → Nat := va_up (va_up f a (f b)) b (f a)
theorem exX_ok {f : Nat → Nat} {a b : Nat} (ha : a < 8) (hb : b < 8) (h1 : ∀ j, j < 8 → f j < 8) (h2 : ∀ i j, i < 8 → j < 8 → f i = f j → i = j) : (∀ j, j < 8 → exX f a b j < 8) ∧ ∀ i j, i < 8 → j < 8 → exX f a b i = exX f a b j → i = j := by
  have e : ∀ j, exX f a b j = if j = b then f a else if j = a then f b else f j := fun j => by
    unfold exX va_up
    rfl
  refine ⟨fun j hj => ?_, fun i j hi hj => ?_⟩
  · rw [e]
    split
    · exact h1 a ha
    · split
      · exact h1 b hb
      · exact h1 j hj
  · rw [e, e]
    have n1 := h2 a b ha hb
    have n2 := h2 a i ha hi
    have n3 := h2 a j ha hj
    have n4 := h2 b i hb hi
    have n5 := h2 b j hb hj
    have n6 := h2 i j hi hj
    intro q
    split at q <;> split at q <;> (try split at q) <;> (try split at q) <;> omega
def bec (S : SC) (a b : Nat) : Nat → SC
  | 0 => S
  | n + 1 => setT (bec S a b n) (txi S a n) (S.1 (txi S b n))
def becP (S : SC) (a b : Nat) : SC := setE (setT (bec S a b 8) (26 + a) (S.1 (26 + b))) a (S.2.2 b)
def sst (S : SC) : Nat → Nat
  | 0 => 0
  | n + 1 => sst S n + (S.1 (S.2.1 n)).length
theorem txi_in {S : SC} (h : okS S) {a j : Nat} (ha : a < 3) (hj : j < 8) : 8 * a ≤ txi S a j ∧ txi S a j < 8 * a + 8 := by
  unfold txi
  split
  · rename_i e
    subst e
    exact ⟨by omega, by have := h.1 j hj; omega⟩
  · omega
theorem bec_2 (S : SC) (a b : Nat) : ∀ n, (bec S a b n).2 = S.2 := by
  intro n
  induction n with
  | zero => rfl
  | succ n ih => rw [bec, setT_2, ih]
theorem bec_1 {S : SC} (h : okS S) {a b : Nat} (ha : a < 3) {t : Nat} (ht : t < 8 * a ∨ 8 * a + 8 ≤ t) : ∀ n, n ≤ 8 → (bec S a b n).1 t = S.1 t := by
  intro n
  induction n with
  | zero => intro _; rfl
  | succ n ih =>
    intro hn
    have := txi_in h ha (j := n) (by omega)
    rw [bec, setT_1n _ _ (by omega), ih (by omega)]
theorem bec_at {S : SC} (h : okS S) {a b : Nat} (ha : a < 3) {j : Nat} (hj : j < 8) : ∀ n, n ≤ 8 → j < n → (bec S a b n).1 (txi S a j) = S.1 (txi S b j) := by
  intro n
  induction n with
  | zero => intro _ h2; omega
  | succ n ih =>
    intro hn h2
    rw [bec]
    by_cases q : j = n
    · subst q
      rw [setT_1s]
    · have hne : txi S a j ≠ txi S a n := by
        unfold txi
        split
        · exact fun w => q (h.2 j n hj (by omega) w)
        · omega
      rw [setT_1n _ _ hne]
      exact ih (by omega) (by omega)
theorem sst_le {E : EV} {g0 : GH} {S : SC} {G : GH} (h : RC E g0 S G) : ∀ n, n ≤ 8 → sst S n ≤ 600 * n := by
  intro n
  induction n with
  | zero => intro _; exact Nat.le_refl _
  | succ n ih =>
    intro hn
    have h1 := (RC_okS h).1 n (by omega)
    have h2 := RC_len h (t := S.2.1 n) (by omega)
    have h3 := cap_le (S.2.1 n)
    have := ih (by omega)
    rw [sst]
    omega
theorem cap_lo {t : Nat} (h : t < 24) : cap t = 300 := by unfold cap; rw [if_neg (by omega), if_neg (by omega)]
theorem cap_hi {t : Nat} (h : 26 ≤ t) : cap t = 300 := by unfold cap; rw [if_neg (by omega), if_neg (by omega)]
theorem RC_lens {E : EV} {g0 : GH} {S : SC} {G : GH} (h : RC E g0 S G) : ∀ t, t < 30 → (S.1 t).length ≤ cap t := fun t ht => RC_len h ht
end
section
/-! Image -/
theorem RC_setX {E : EV} {g0 : GH} {S : SC} {G G' : GH} {x : Nat → Nat} {f : Nat → Option Nat} (h : RC E g0 S G) (hx : (∀ j, j < 8 → x j < 8) ∧ ∀ i j, i < 8 → j < 8 → x i = x j → i = j) (hf : G' 63 = .inl (eT E, 8, .inr (.inr (.inr (.inr f))))) (hv : ∀ j, j < 8 → f j = some (E.2.2.1 (txi (setX S x) 0 j))) (hk : ∀ i, i ≠ 63 → G' i = G i) : RC E g0 (setX S x) G' := by
  obtain ⟨h1, h2, h3, h4, h5, h6, h7, h8⟩ := h
  refine ⟨fun u hu => ?_, fun q hq => ?_, fun i hi => ?_, fun i hi => ?_, hx, ?_, ?_, fun i hi => ?_⟩
  · obtain ⟨a, b, f, c, d⟩ := h1 u hu
    exact ⟨by rw [hk u (by omega)]; exact a, b, f, by rw [hk (30 + u) (by omega)]; exact c, d⟩
  · obtain ⟨a, b, f, c, d⟩ := h2 q hq
    exact ⟨by rw [hk _ (by omega)]; exact a, b, f, by rw [hk _ (by omega)]; exact c, d⟩
  · rw [hk _ (by omega)]
    exact h3 i hi
  · by_cases e : i = 0
    · subst e
      exact ⟨f, hf, hv⟩
    · obtain ⟨f2, a, b⟩ := h4 i hi
      refine ⟨f2, by rw [hk _ (by omega)]; exact a, fun j hj => ?_⟩
      rw [b j hj]
      unfold txi
      rw [if_neg e, if_neg e]
  · rw [hk _ (by omega)]
    exact h6
  · rw [hk _ (by omega)]
    exact h7
  · rw [hk _ (by omega)]
    exact h8 i hi
set_option maxHeartbeats 400000 in
set_option maxRecDepth 20000 in
theorem c_X0_text {E : EV} (hE : EOK E) {S : SC} {g0 : GH} {z : Int} (hz : okI z) : Ct E (RC E g0) yX0_text wsX0_text rX0_text [eA E 60, .int (iI z)] S (some (eA E (sh S z))) S := by
  refine ct_of [(0, _), (1, _)] hE (by decide) rfl (Nat.le_of_ble_eq_true rfl) rfl (fun X h hq => ?_)
  refine j_of (fun G hG => RC_okS hG) (fun hS0 => ?_)
  have hw := sw_lt z
  refine j_aload_n h 0 dX0_text_0 rfl rfl ?_
  refine jg_Itexts h a_f_X0_11 (i := 0) (by omega) dX0_text_1 ?_
  refine j_iload_n h 1 dX0_text_4 rfl rfl ?_
  refine j_bipush h dX0_text_5 (by decide) ?_
  refine j_fm h (by first | exact okI_of _ | exact okI_b _ | exact okI_sgz _ _ | assumption | (unfold okI; omega)) (by decide) a_l_X0_27 ⟨Nat.le_of_ble_eq_true rfl, Nat.le_of_ble_eq_true rfl⟩ (Nat.le_of_ble_eq_true rfl) dX0_text_7 ?_
  have hfm : 0 ≤ fmo z 8 ∧ fmo z 8 < 8 := by unfold fmo; omega
  refine j_aald h (sh S z) 1 (i := 63) (by omega) ⟨by omega, by omega⟩ rfl (fun G hG => by obtain ⟨f, e1, e2⟩ := hG.2.2.2.1 0 (by omega); exact ⟨8, f, e1, by omega, e2 _ (by omega)⟩) dX0_text_10 ?_
  exact j_aret h hq rfl dX0_text_11
set_option maxHeartbeats 400000 in
set_option maxRecDepth 20000 in
theorem c_X0_exchange {E : EV} (hE : EOK E) {S : SC} {g0 : GH} {a b : Int} (ha : okI a) (hb : okI b) : Ct E (RC E g0) yX0_exchange wsX0_exchange rX0_exchange [eA E 60, .int (iI a), .int (iI b)] S none (setX S (exX S.2.1 (sw a) (sw b))) := by
  refine ct_of [(0, _), (1, _), (2, _)] hE (by decide) rfl (Nat.le_of_ble_eq_true rfl) rfl (fun X h hq => ?_)
  refine j_of (fun G hG => RC_okS hG) (fun hS0 => ?_)
  have hwa := sw_lt a
  have hwb := sw_lt b
  have hsa := sh_lt hS0 a
  have hsb := sh_lt hS0 b
  have hfa : 0 ≤ fmo a 8 ∧ fmo a 8 < 8 := by unfold fmo; omega
  have hfb : 0 ≤ fmo b 8 ∧ fmo b 8 < 8 := by unfold fmo; omega
  refine j_aload_n h 0 dX0_exchange_0 rfl rfl ?_
  refine j_iload_n h 1 dX0_exchange_1 rfl rfl ?_
  refine j_callV h (c_X0_text hE ha) m_X0_text a_l_X0_33 rfl rfl ⟨Nat.le_of_ble_eq_true rfl, Nat.le_of_ble_eq_true rfl⟩ (ci := 0) rfl (by omega) (rcI (i := 0) (by omega)) rfl rfl (Nat.le_of_ble_eq_true rfl) dX0_exchange_2 ?_
  refine j_astore_n h [(3, _), (0, _), (1, _), (2, _)] dX0_exchange_5 rfl (by decide) rfl ?_
  refine j_aload_n h 1 dX0_exchange_6 rfl rfl ?_
  refine jg_Itexts h a_f_X0_11 (i := 0) (by omega) dX0_exchange_7 ?_
  refine j_iload_n h 2 dX0_exchange_10 rfl rfl ?_
  refine j_bipush h dX0_exchange_11 (by decide) ?_
  refine j_fm h (by first | exact okI_of _ | exact okI_b _ | exact okI_sgz _ _ | assumption | (unfold okI; omega)) (by decide) a_l_X0_27 ⟨Nat.le_of_ble_eq_true rfl, Nat.le_of_ble_eq_true rfl⟩ (Nat.le_of_ble_eq_true rfl) dX0_exchange_13 ?_
  refine j_aload_n h 1 dX0_exchange_16 rfl rfl ?_
  refine j_iload_n h 3 dX0_exchange_17 rfl rfl ?_
  refine j_callV h (c_X0_text hE hb) m_X0_text a_l_X0_33 rfl rfl ⟨Nat.le_of_ble_eq_true rfl, Nat.le_of_ble_eq_true rfl⟩ (ci := 0) rfl (by omega) (rcI (i := 0) (by omega)) rfl rfl (Nat.le_of_ble_eq_true rfl) dX0_exchange_18 ?_
  refine j_eq (fun G0 hG0 => ?_)
  obtain ⟨f0, e0, v0⟩ := hG0.2.2.2.1 0 (by omega)
  refine j_aast h (S' := va_up G0 63 (.inl (eT E, 8, .inr (.inr (.inr (.inr (va_up f0 (sw a) (some (E.2.2.1 (sh S b)))))))))) (i := 63) (q := (RX2, TX2, 2)) 1 2 (by omega) (by omega) ⟨hfa.1, by omega⟩ rfl rfl (fun G hG => by subst hG; exact ⟨8, f0, _, e0, by omega, (hG0.1 (sh S b) (by omega)).1, rfl⟩) dX0_exchange_21 ?_
  refine j_aload_n h 1 dX0_exchange_22 rfl rfl ?_
  refine j_get h (T := TX0) 0 inX0 (ci := 0) (i := 60) rfl (by decide) a_f_X0_11 rfl (by omega) (fun G hG => by rw [← hG, va_up_ne _ _ (by omega)]; exact hG0.2.2.1 0 (by omega)) rfl dX0_exchange_23 ?_
  refine j_iload_n h 3 dX0_exchange_26 rfl rfl ?_
  refine j_bipush h dX0_exchange_27 (by decide) ?_
  refine j_fm h (by first | exact okI_of _ | exact okI_b _ | exact okI_sgz _ _ | assumption | (unfold okI; omega)) (by decide) a_l_X0_27 ⟨Nat.le_of_ble_eq_true rfl, Nat.le_of_ble_eq_true rfl⟩ (Nat.le_of_ble_eq_true rfl) dX0_exchange_29 ?_
  refine j_aload_n h 0 dX0_exchange_32 rfl rfl ?_
  refine j_aast h (S' := va_up (va_up G0 63 (.inl (eT E, 8, .inr (.inr (.inr (.inr (va_up f0 (sw a) (some (E.2.2.1 (sh S b)))))))))) 63 (.inl (eT E, 8, .inr (.inr (.inr (.inr (va_up (va_up f0 (sw a) (some (E.2.2.1 (sh S b)))) (sw b) (some (E.2.2.1 (sh S a)))))))))) (i := 63) (q := (RX2, TX2, 2)) 1 2 (by omega) (by omega) ⟨hfb.1, by omega⟩ rfl rfl (fun G hG => by subst hG; exact ⟨8, _, _, va_up_self _ _ _, by omega, by rw [va_up_ne _ _ (by omega)]; exact (hG0.1 (sh S a) (by omega)).1, rfl⟩) dX0_exchange_33 ?_
  refine j_re (Rp2 := RC E g0) (S2 := setX S (exX S.2.1 (sw a) (sw b))) (fun G hG => ?_) ?_
  · subst hG
    rw [up_up]
    exact RC_setX hG0 (exX_ok hwa hwb hS0.1 hS0.2) (va_up_self _ _ _) (fun j hj => by show (if j = sw b then _ else if j = sw a then _ else _) = _; show _ = some (E.2.2.1 (txi (setX S (exX S.2.1 (sw a) (sw b))) 0 j)); show _ = some (E.2.2.1 (if j = sw b then S.2.1 (sw a) else if j = sw a then S.2.1 (sw b) else S.2.1 j)); split; rfl; split; rfl; exact v0 j hj) (fun i hi => va_up_ne _ _ hi)
  exact j_vret h hq rfl dX0_exchange_34
set_option maxHeartbeats 400000 in
set_option maxRecDepth 20000 in
theorem c_X0_become {E : EV} (hE : EOK E) {S : SC} {g0 : GH} {a b : Nat} (ha : a < 3) (hb : b < 3) (hab : b ≠ a) {n : Nat} (hok : eOK (S.2.2 b) n) (hn : n ≤ 300) : Ct E (RC E g0) yX0_become wsX0_become rX0_become [eA E (60 + a), eA E (60 + b)] S none (becP S a b) := by
  refine ct_of [(0, _), (1, _)] hE (by decide) rfl (Nat.le_of_ble_eq_true rfl) rfl (fun X h hq => ?_)
  refine j_of (fun G hG => RC_okS hG) (fun hS0 => ?_)
  refine j_of (fun G hG => RC_lens hG) (fun hLL => ?_)
  refine j_iconst h dX0_become_0 ?_
  refine j_istore_n h [(2, _), (0, _), (1, _)] dX0_become_1 rfl (by decide) rfl ?_
  refine j_sub [0, 1, 2] rfl ?_
  refine lpA1 (fun z : Int => (8 - z).toNat) (fun z : Int => 0 ≤ z → z ≤ 8 → JL E (RC E g0) X 2 [(2, .int (iI z)), (0, eA E (60 + a)), (1, eA E (60 + b))] [] (bec S a b z.toNat)) (fun z ih h0 hb8 => ?_) 0 (Int.le_refl 0) (by omega)
  have e2 := bec_2 S a b z.toNat
  have etx : ∀ i j, txi (bec S a b z.toNat) i j = txi S i j := fun i j => by unfold txi; rw [e2]
  refine j_iload_n h 0 dX0_become_2 rfl rfl ?_
  refine j_bipush h dX0_become_3 (by decide) ?_
  refine j_icmp_ge h 29 dX0_become_5 (by decide) (by first | exact okI_of _ | exact okI_b _ | exact okI_sgz _ _ | assumption | (unfold okI; omega)) (by first | exact okI_of _ | exact okI_b _ | exact okI_sgz _ _ | assumption | (unfold okI; omega)) (fun c5 => ?_) (fun c5 => ?_)
  · have hz8 : z.toNat = 8 := by omega
    rw [hz8]
    refine j_aload_n h 1 dX0_become_29 rfl rfl ?_
    refine jg_Iparts h a_f_X0_23 (by omega) dX0_become_30 ?_
    refine j_aload_n h 2 dX0_become_33 rfl rfl ?_
    refine jg_Iparts h a_f_X0_23 (by omega) dX0_become_34 ?_
    refine j_callVv h (c_X1_become hE (show a < 4 by omega) rfl (show b < 4 by omega) (S := bec S a b 8) (fs := S.2.2 b) (by rw [bec_2]) hab (bs := S.1 (26 + b)) (bec_1 hS0 ha (by omega) _ (by omega)) hok hn) m_X1_become a_l_X0_41 rfl rfl ⟨Nat.le_of_ble_eq_true rfl, Nat.le_of_ble_eq_true rfl⟩ (ci := 1) rfl (by omega) (rcP (by omega)) rfl rfl (Nat.le_of_ble_eq_true rfl) dX0_become_37 ?_
    exact j_vret h hq rfl dX0_become_40
  · have hta := txi_in hS0 ha (j := z.toNat) (by omega)
    have htb := txi_in hS0 hb (j := z.toNat) (by omega)
    have hle : (S.1 (txi S b z.toNat)).length ≤ 300 := by have := hLL (txi S b z.toNat) (by omega); rw [cap_lo (by omega)] at this; exact this
    refine j_aload_n h 1 dX0_become_8 rfl rfl ?_
    refine jg_Itexts h a_f_X0_11 (by omega) dX0_become_9 ?_
    refine j_iload_n h 0 dX0_become_12 rfl rfl ?_
    refine j_aald h (txi S a z.toNat) 1 (by omega) ⟨by omega, by omega⟩ rfl (fun G hG => by obtain ⟨f, e1, e3⟩ := hG.2.2.2.1 a (by omega); exact ⟨8, f, e1, by omega, by rw [e3 _ (by omega), etx]⟩) dX0_become_13 ?_
    refine j_aload_n h 2 dX0_become_14 rfl rfl ?_
    refine jg_Itexts h a_f_X0_11 (by omega) dX0_become_15 ?_
    refine j_iload_n h 0 dX0_become_18 rfl rfl ?_
    refine j_aald h (txi S b z.toNat) 1 (by omega) ⟨by omega, by omega⟩ rfl (fun G hG => by obtain ⟨f, e1, e3⟩ := hG.2.2.2.1 b (by omega); exact ⟨8, f, e1, by omega, by rw [e3 _ (by omega), etx]⟩) dX0_become_19 ?_
    refine j_callVv h (c_X2_become hE (by omega) (by omega) (ys := S.1 (txi S b z.toNat)) (bec_1 hS0 ha (by omega) _ (by omega)) (by omega) (by have := cap_ge (txi S a z.toNat); omega)) m_X2_become a_l_X0_37 rfl rfl ⟨Nat.le_of_ble_eq_true rfl, Nat.le_of_ble_eq_true rfl⟩ (ci := 2) rfl (by omega) (rcT (by omega)) rfl rfl (Nat.le_of_ble_eq_true rfl) dX0_become_20 ?_
    refine j_iinc h 0 [(2, _), (0, _), (1, _)] dX0_become_23 rfl (by decide) rfl ?_
    refine j_goto h 2 dX0_become_26 (by decide) ?_
    refine j_S (S2 := bec S a b (z + 1).toNat) (by rw [show (z + 1).toNat = z.toNat + 1 by omega, bec]) ?_
    exact ih (z + 1) (by omega) (by omega) (by omega)

set_option maxHeartbeats 400000 in
set_option maxRecDepth 20000 in
theorem c_X0_sizeOfTexts {E : EV} (hE : EOK E) {S : SC} {g0 : GH}  : Ct E (RC E g0) yX0_sizeOfTexts wsX0_sizeOfTexts rX0_sizeOfTexts [eA E 60] S (some (.int (iI (sst S 8 : Nat)))) S := by
  refine ct_of [(0, _)] hE (by decide) rfl (Nat.le_of_ble_eq_true rfl) rfl (fun X h hq => ?_)
  refine j_of (fun G hG => RC_okS hG) (fun hS0 => ?_)
  refine j_of (fun G hG => sst_le hG) (fun hsl => ?_)
  refine j_iconst h dX0_sizeOfTexts_0 ?_
  refine j_istore_n h [(1, _), (0, _)] dX0_sizeOfTexts_1 rfl (by decide) rfl ?_
  refine j_iconst h dX0_sizeOfTexts_2 ?_
  refine j_istore_n h [(2, _), (1, _), (0, _)] dX0_sizeOfTexts_3 rfl (by decide) rfl ?_
  refine j_sub [0, 1, 2] rfl ?_
  refine lpA2 (fun (z a : Int) => (8 - z).toNat) (fun (z a : Int) => 0 ≤ z → z ≤ 8 → a = (sst S z.toNat : Nat) → JL E (RC E g0) X 4 [(2, .int (iI z)), (1, .int (iI a)), (0, eA E 60)] [] S) (fun z a ih h0 hb8 hv => ?_) 0 0 (Int.le_refl 0) (by omega) rfl
  refine j_iload_n h 0 dX0_sizeOfTexts_4 rfl rfl ?_
  refine j_bipush h dX0_sizeOfTexts_5 (by decide) ?_
  refine j_icmp_ge h 28 dX0_sizeOfTexts_7 (by decide) (by first | exact okI_of _ | exact okI_b _ | exact okI_sgz _ _ | assumption | (unfold okI; omega)) (by first | exact okI_of _ | exact okI_b _ | exact okI_sgz _ _ | assumption | (unfold okI; omega)) (fun c7 => ?_) (fun c7 => ?_)
  · refine j_iload_n h 1 dX0_sizeOfTexts_28 rfl rfl ?_
    exact j_iret h hq (by rw [hv, show z.toNat = 8 by omega]) dX0_sizeOfTexts_29
  · refine j_iload_n h 1 dX0_sizeOfTexts_10 rfl rfl ?_
    refine j_aload_n h 2 dX0_sizeOfTexts_11 rfl rfl ?_
    refine jg_Itexts h a_f_X0_11 (i := 0) (by omega) dX0_sizeOfTexts_12 ?_
    refine j_iload_n h 0 dX0_sizeOfTexts_15 rfl rfl ?_
    have hxx := hS0.1 z.toNat (by omega)
    refine j_aald h (S.2.1 z.toNat) 1 (i := 63) (by omega) ⟨by omega, by omega⟩ rfl (fun G hG => by obtain ⟨f, e1, e2⟩ := hG.2.2.2.1 0 (by omega); exact ⟨8, f, e1, by omega, e2 _ (by omega)⟩) dX0_sizeOfTexts_16 ?_
    refine j_callV h (c_X2_size hE (by omega) rfl) m_X2_size a_l_X0_44 rfl rfl ⟨Nat.le_of_ble_eq_true rfl, Nat.le_of_ble_eq_true rfl⟩ (ci := 2) rfl (by omega) (rcT (by omega)) rfl rfl (Nat.le_of_ble_eq_true rfl) dX0_sizeOfTexts_17 ?_
    refine j_iadd h dX0_sizeOfTexts_20 ?_
    refine j_istore_n h [(1, _), (2, _), (0, _)] dX0_sizeOfTexts_21 rfl (by decide) rfl ?_
    refine j_iinc h 1 [(2, _), (1, _), (0, _)] dX0_sizeOfTexts_22 rfl (by decide) rfl ?_
    refine j_goto h 4 dX0_sizeOfTexts_25 (by decide) ?_
    exact ih (z + 1) _ (by omega) (by omega) (by omega) (by rw [hv, show (z + 1).toNat = z.toNat + 1 by omega, sst]; omega)
end
section
/-! what all is about: eight texts, the pieces (a row and its ends), two images of them; and the class's state as a picture of it -/
abbrev AP : Type := List Int32 × List Nat
abbrev AS : Type := (Nat → List Int32) × AP × (Nat → Nat → List Int32) × (Nat → AP)
def okP (q : AP) : Prop := eOK q.2 q.1.length ∧ q.1.length ≤ 300 ∧ q.2.length ≤ 301 ∧ stN q.2 q.2.length = q.1.length
def okA (A : AS) : Prop := okP A.2.1 ∧ ∀ i, i < 2 → okP (A.2.2.2 i)
def AbS (S : SC) (A : AS) : Prop := okS S ∧ (∀ j, j < 8 → S.1 (S.2.1 j) = A.1 j) ∧ (S.1 26 = A.2.1.1 ∧ S.2.2 0 = A.2.1.2) ∧ (∀ i j, i < 2 → j < 8 → S.1 (8 * (i + 1) + j) = A.2.2.1 i j) ∧ (∀ i, i < 2 → S.1 (27 + i) = (A.2.2.2 i).1 ∧ S.2.2 (1 + i) = (A.2.2.2 i).2) ∧ okA A
def RP (E : EV) (g0 : GH) (A : AS) (G : GH) : Prop := ∃ S, RC E g0 S G ∧ AbS S A
def aX (A : AS) (j : Nat) (xs : List Int32) : AS := (va_up A.1 j xs, A.2)
def aP (A : AS) (q : AP) : AS := (A.1, q, A.2.2)
theorem j_ex {E : EV} {g0 : GH} {X : TX} {pc : Nat} {lv : List (Nat × Value)} {st : List Value} {A : AS} (K : ∀ S, AbS S A → JL E (RC E g0) X pc lv st S) : JL E (RP E g0) X pc lv st A := by
  obtain ⟨p, e, R, s, m, args, below, meth, c, A0, nL, k, n, Q⟩ := X
  intro G H locs ls hR hP hS hl
  obtain ⟨S, hR, hA⟩ := hR
  exact K S hA G H locs ls hR hP hS hl
theorem fnA {E : EV} {g0 : GH} {X : TX} {v : Option Value} {A : AS} {S : SC} (h : Fn E (RP E g0) X v A) (hA : AbS S A) : Fn E (RC E g0) X v S := by
  obtain ⟨p, e, R, s, m, args, below, meth, c, A0, nL, k, n, Q⟩ := X
  obtain ⟨Qc, free, h1, h2, h3⟩ := h
  exact ⟨Qc, free, h1, h2, fun G t hR => h3 G t ⟨S, hR, hA⟩⟩
/-- a method that was met on the class's own state, and only asks -/
theorem ct_ab {E : EV} {g0 : GH} {y : MethodName} {ws : List Cond} {rm : Room} {av : List Value} {A A' : AS} {v : Option Value} (h : ∀ S, AbS S A → ∃ S', AbS S' A' ∧ Ct E (RC E g0) y ws rm av S v S') : Ct E (RP E g0) y ws rm av A v A' := by
  intro sz
  intro p e ha hc hk s m args below hf happ hP hK
  obtain ⟨h1, h2, ⟨G, ⟨S, hR, hA⟩, hP2⟩, h3⟩ := hP
  obtain ⟨S', hA', hM⟩ := h S hA
  obtain ⟨n, o, a1, a2, a3, ⟨⟨⟨a4, G', a5, a6⟩, a7⟩, a8⟩⟩ := hM sz p e ha hc hk s m args below hf happ ⟨h1, h2, ⟨G, hR, hP2⟩, h3⟩ hK
  exact ⟨n, o, a1, a2, a3, ⟨⟨⟨a4, G', ⟨S', a5, hA'⟩, a6⟩, a7⟩, a8⟩⟩
theorem ab_x {S : SC} {A : AS} (h : AbS S A) (z : Int) : S.1 (sh S z) = A.1 (sw z) := h.2.1 _ (sw_lt z)
/-- a scratch text, or the scratch pieces, change -/
theorem ab_T {S : SC} {A : AS} (h : AbS S A) {t : Nat} {xs : List Int32} (ht : t = 24 ∨ t = 25 ∨ t = 29) : AbS (setT S t xs) A := by
  obtain ⟨h1, h2, h3, h4, h5, h6⟩ := h
  refine ⟨h1, fun j hj => ?_, ⟨?_, h3.2⟩, fun i j hi hj => ?_, fun i hi => ⟨?_, (h5 i hi).2⟩, h6⟩
  · have := h1.1 j hj
    show (setT S t xs).1 (S.2.1 j) = _
    rw [setT_1n _ _ (by omega)]
    exact h2 j hj
  · rw [setT_1n _ _ (by omega)]
    exact h3.1
  · rw [setT_1n _ _ (by omega)]
    exact h4 i j hi hj
  · rw [setT_1n _ _ (by omega)]
    exact (h5 i hi).1
theorem ab_E3 {S : SC} {A : AS} (h : AbS S A) {es : List Nat} : AbS (setE S 3 es) A := by
  obtain ⟨h1, h2, h3, h4, h5, h6⟩ := h
  refine ⟨h1, h2, ⟨h3.1, ?_⟩, h4, fun i hi => ⟨(h5 i hi).1, ?_⟩, h6⟩
  · rw [setE_2n _ _ (by omega)]
    exact h3.2
  · rw [setE_2n _ _ (by omega)]
    exact (h5 i hi).2
/-- a shelf's text changes -/
theorem ab_X {S : SC} {A : AS} (h : AbS S A) (z : Int) (xs : List Int32) : AbS (setT S (sh S z) xs) (aX A (sw z) xs) := by
  obtain ⟨h1, h2, h3, h4, h5, h6⟩ := h
  have hs := sh_lt h1 z
  refine ⟨h1, fun j hj => ?_, ⟨?_, h3.2⟩, fun i j hi hj => ?_, fun i hi => ⟨?_, (h5 i hi).2⟩, h6⟩
  · show (setT S (sh S z) xs).1 (S.2.1 j) = va_up A.1 (sw z) xs j
    by_cases e : j = sw z
    · subst e
      rw [va_up_self]
      exact setT_1s _ _ _
    · rw [va_up_ne _ _ e, setT_1n _ _ (show S.2.1 j ≠ sh S z from fun w => e (h1.2 j (sw z) hj (sw_lt z) w))]
      exact h2 j hj
  · rw [setT_1n _ _ (by omega)]
    exact h3.1
  · rw [setT_1n _ _ (by omega)]
    exact h4 i j hi hj
  · rw [setT_1n _ _ (by omega)]
    exact (h5 i hi).1
/-- the pieces change -/
theorem ab_P {S : SC} {A : AS} (h : AbS S A) {as : List Int32} {es : List Nat} (hk : okP (as, es)) : AbS (setE (setT S (26 + 0) as) 0 es) (aP A (as, es)) := by
  obtain ⟨h1, h2, h3, h4, h5, h6⟩ := h
  refine ⟨h1, fun j hj => ?_, ⟨?_, ?_⟩, fun i j hi hj => ?_, fun i hi => ⟨?_, ?_⟩, hk, h6.2⟩
  · have := h1.1 j hj
    show (setE (setT S (26 + 0) as) 0 es).1 (S.2.1 j) = _
    rw [setE_1, setT_1n _ _ (by omega)]
    exact h2 j hj
  · rw [setE_1]
    exact setT_1s _ _ _
  · exact setE_2s _ _ _
  · rw [setE_1, setT_1n _ _ (by omega)]
    exact h4 i j hi hj
  · rw [setE_1, setT_1n _ _ (by omega)]
    exact (h5 i hi).1
  · rw [setE_2n _ _ (by omega)]
    exact (h5 i hi).2
/-- two shelves change places -/
theorem ab_ex {S : SC} {A : AS} (h : AbS S A) (a b : Int) : AbS (setX S (exX S.2.1 (sw a) (sw b))) (va_up (va_up A.1 (sw a) (A.1 (sw b))) (sw b) (A.1 (sw a)), A.2) := by
  obtain ⟨h1, h2, h3, h4, h5, h6⟩ := h
  refine ⟨exX_ok (sw_lt a) (sw_lt b) h1.1 h1.2, fun j hj => ?_, h3, h4, h5, h6⟩
  show S.1 (exX S.2.1 (sw a) (sw b) j) = _
  unfold exX va_up
  by_cases e1 : j = sw b
  · simp only [if_pos e1]
    exact h2 _ (sw_lt a)
  · simp only [if_neg e1]
    by_cases e2 : j = sw a
    · simp only [if_pos e2]
      exact h2 _ (sw_lt b)
    · simp only [if_neg e2]
      exact h2 j hj
def sumX (f : Nat → List Int32) : Nat → Nat
  | 0 => 0
  | n + 1 => sumX f n + (f n).length
theorem ab_sst {S : SC} {A : AS} (h : AbS S A) : ∀ n, n ≤ 8 → sst S n = sumX A.1 n := by
  intro n
  induction n with
  | zero => intro _; rfl
  | succ n ih =>
    intro hn
    rw [sst, sumX, ih (by omega), h.2.1 n (by omega)]
def aKeep (A : AS) (i : Nat) : AS := (A.1, A.2.1, va_up A.2.2.1 i A.1, va_up A.2.2.2 i A.2.1)
def aBack (A : AS) (i : Nat) : AS := (A.2.2.1 i, A.2.2.2 i, A.2.2)
theorem ab_keep {S : SC} {A : AS} (h : AbS S A) {i : Nat} (hi : i < 2) : AbS (becP S (1 + i) 0) (aKeep A i) := by
  obtain ⟨h1, h2, h3, h4, h5, h6⟩ := h
  have b2 : (becP S (1 + i) 0).2.1 = S.2.1 := by
    show (bec S (1 + i) 0 8).2.1 = _
    rw [bec_2]
  have b1 : ∀ t, t ≠ 26 + (1 + i) → (t < 8 * (1 + i) ∨ 8 * (1 + i) + 8 ≤ t) → (becP S (1 + i) 0).1 t = S.1 t := fun t e1 e2 => by
    unfold becP
    rw [setE_1, setT_1n _ _ e1, bec_1 h1 (by omega) e2 8 (Nat.le_refl _)]
  refine ⟨⟨by rw [b2]; exact h1.1, by rw [b2]; exact h1.2⟩, fun j hj => ?_, ⟨?_, ?_⟩, fun k j hk hj => ?_, fun k hk => ⟨?_, ?_⟩, h6.1, fun k hk => ?_⟩
  · have := h1.1 j hj
    rw [b2, b1 _ (by omega) (by omega)]
    exact h2 j hj
  · rw [b1 _ (by omega) (by omega)]
    exact h3.1
  · unfold becP
    rw [setE_2n _ _ (by omega)]
    show (bec S (1 + i) 0 8).2.2 0 = _
    rw [bec_2]
    exact h3.2
  · by_cases e : k = i
    · subst e
      show _ = va_up A.2.2.1 k A.1 k j
      rw [va_up_self, ← h2 j hj]
      unfold becP
      rw [setE_1, setT_1n _ _ (by omega)]
      have := bec_at h1 (a := 1 + k) (b := 0) (by omega) hj 8 (Nat.le_refl _) hj
      unfold txi at this
      rw [if_neg (by omega), if_pos rfl] at this
      rw [show 8 * (k + 1) + j = 8 * (1 + k) + j by omega]
      exact this
    · show _ = va_up A.2.2.1 i A.1 k j
      rw [va_up_ne _ _ e, b1 _ (by omega) (by omega)]
      exact h4 k j hk hj
  · by_cases e : k = i
    · subst e
      show _ = (va_up A.2.2.2 k A.2.1 k).1
      rw [va_up_self]
      unfold becP
      rw [setE_1, show 27 + k = 26 + (1 + k) by omega, setT_1s]
      exact h3.1
    · show _ = (va_up A.2.2.2 i A.2.1 k).1
      rw [va_up_ne _ _ e, b1 _ (by omega) (by omega)]
      exact (h5 k hk).1
  · by_cases e : k = i
    · subst e
      show _ = (va_up A.2.2.2 k A.2.1 k).2
      rw [va_up_self]
      unfold becP
      rw [setE_2s]
      exact h3.2
    · show _ = (va_up A.2.2.2 i A.2.1 k).2
      rw [va_up_ne _ _ e]
      unfold becP
      rw [setE_2n _ _ (by omega)]
      show (bec S (1 + i) 0 8).2.2 (1 + k) = _
      rw [bec_2]
      exact (h5 k hk).2
  · show okP (va_up A.2.2.2 i A.2.1 k)
    by_cases e : k = i
    · subst e
      rw [va_up_self]
      exact h6.1
    · rw [va_up_ne _ _ e]
      exact h6.2 k hk
theorem ab_back {S : SC} {A : AS} (h : AbS S A) {i : Nat} (hi : i < 2) : AbS (becP S 0 (1 + i)) (aBack A i) := by
  obtain ⟨h1, h2, h3, h4, h5, h6⟩ := h
  have b2 : (becP S 0 (1 + i)).2.1 = S.2.1 := by
    show (bec S 0 (1 + i) 8).2.1 = _
    rw [bec_2]
  have b1 : ∀ t, t ≠ 26 → 8 ≤ t → (becP S 0 (1 + i)).1 t = S.1 t := fun t e1 e2 => by
    unfold becP
    rw [setE_1, setT_1n _ _ (by omega), bec_1 h1 (by omega) (by omega) 8 (Nat.le_refl _)]
  refine ⟨⟨by rw [b2]; exact h1.1, by rw [b2]; exact h1.2⟩, fun j hj => ?_, ⟨?_, ?_⟩, fun k j hk hj => ?_, fun k hk => ⟨?_, ?_⟩, h6.2 i hi, h6.2⟩
  · have := h1.1 j hj
    rw [b2]
    unfold becP
    rw [setE_1, setT_1n _ _ (by omega)]
    have hh := bec_at h1 (a := 0) (b := 1 + i) (by omega) hj 8 (Nat.le_refl _) hj
    unfold txi at hh
    rw [if_pos rfl, if_neg (by omega)] at hh
    have q4 := h4 i j hi hj
    rw [show 8 * (i + 1) + j = 8 * (1 + i) + j by omega] at q4
    rw [hh]
    exact q4
  · unfold becP
    have q5 := (h5 i hi).1
    rw [show 27 + i = 26 + (1 + i) by omega] at q5
    rw [setE_1, setT_1s]
    exact q5
  · unfold becP
    rw [setE_2s]
    exact (h5 i hi).2
  · rw [b1 _ (by omega) (by omega)]
    exact h4 k j hk hj
  · rw [b1 _ (by omega) (by omega)]
    exact (h5 k hk).1
  · unfold becP
    rw [setE_2n _ _ (by omega)]
    show (bec S 0 (1 + i) 8).2.2 (1 + k) = _
    rw [bec_2]
    exact (h5 k hk).2
end
section
/-! TextShelves: what only asks -/
theorem plF_range (xs ys : List Int32) (f : Int) : -1 ≤ plF xs ys f ∧ plF xs ys f ≤ xs.length := by
  have h := lo_range (P := fun k => bz xs ys k) (xs.length + 1 - (mxI 0 (mnI f xs.length)).toNat) (mxI 0 (mnI f xs.length)).toNat
  have hm : (mxI 0 (mnI f xs.length)).toNat ≤ xs.length := by unfold mxI mnI; split <;> (try split) <;> omega
  unfold plF
  omega
theorem plB_range (xs ys : List Int32) (f : Int) : -1 ≤ plB xs ys f ∧ plB xs ys f ≤ xs.length := by
  have h := hi_range (P := fun k => bz xs ys k) (mnI f xs.length + 1).toNat
  have hm : (mnI f xs.length + 1).toNat ≤ xs.length + 1 := by unfold mnI; split <;> omega
  unfold plB
  omega
theorem eof_le (b : Bool) (xs : List Int32) : ∀ d i, eof b xs i d ≤ i + d ∧ i ≤ eof b xs i d := by
  intro d
  induction d with
  | zero => intro i; exact ⟨Nat.le_refl _, Nat.le_refl _⟩
  | succ d ih =>
    intro i
    rw [eof]
    have := ih (i + 1)
    split <;> omega
theorem sfr_le (xs ys : List Int32) : ∀ d i, sfr xs ys i d ≤ i + d ∧ i ≤ sfr xs ys i d := by
  intro d
  induction d with
  | zero => intro i; exact ⟨Nat.le_refl _, Nat.le_refl _⟩
  | succ d ih =>
    intro i
    rw [sfr]
    have := ih (i + 1)
    split <;> omega
theorem fdc_le (xs ys : List Int32) : ∀ f p, fdc xs ys f p ≤ f := by
  intro f
  induction f with
  | zero => intro p; exact Nat.le_refl _
  | succ f ih =>
    intro p
    rw [fdc]
    have h1 := ih (p + max 1 ys.length)
    have h2 := ih (p + 1)
    split
    · split <;> omega
    · omega
def chA (xs : List Int32) (p : Int) : Int32 := if 0 ≤ p ∧ p < xs.length then gz xs p.toNat else iI (-1000002)
def cnI (xs ys : List Int32) : Int := if ys.length = 0 then -1000001 else fdc xs ys (xs.length + 1) 0
set_option maxHeartbeats 400000 in
set_option maxRecDepth 20000 in
theorem c_X3_length {E : EV} (hE : EOK E) {S : SC} {g0 : GH} {a : Int} (ha : okI a) {xs : List Int32} (hxs : S.1 (sh S a) = xs)  : Ct E (RC E g0) yX3_length wsX3_length rX3_length [eA E 74, .int (iI a)] S (some (.int (iI xs.length))) S := by
  refine ct_of [(0, _), (1, _)] hE (by decide) rfl (Nat.le_of_ble_eq_true rfl) rfl (fun X h hq => ?_)
  refine j_of (fun G hG => RC_okS hG) (fun hS0 => ?_)
  refine j_of (fun G hG => RC_lens hG) (fun hLL => ?_)
  have hsa := sh_lt hS0 a
  have hlxs := hLL (sh S a) (by omega)
  rw [hxs, cap_lo (by omega)] at hlxs
  refine j_aload_n h 0 dX3_length_0 rfl rfl ?_
  refine jg_Snow h a_f_X3_10 dX3_length_1 ?_
  refine j_iload_n h 1 dX3_length_4 rfl rfl ?_
  refine j_callV h (c_X0_text hE ha) m_X0_text a_l_X3_39 rfl rfl ⟨Nat.le_of_ble_eq_true rfl, Nat.le_of_ble_eq_true rfl⟩ (ci := 0) rfl (by omega) (rcI (i := 0) (by omega)) rfl rfl (Nat.le_of_ble_eq_true rfl) dX3_length_5 ?_
  refine j_callV h (c_X2_size hE (by omega) hxs) m_X2_size a_l_X3_43 rfl rfl ⟨Nat.le_of_ble_eq_true rfl, Nat.le_of_ble_eq_true rfl⟩ (ci := 2) rfl (by omega) (rcT (by omega)) rfl rfl (Nat.le_of_ble_eq_true rfl) dX3_length_8 ?_
  exact j_iret h hq rfl dX3_length_11
set_option maxHeartbeats 400000 in
set_option maxRecDepth 20000 in
theorem c_X3_isEmpty {E : EV} (hE : EOK E) {S : SC} {g0 : GH} {a : Int} (ha : okI a) {xs : List Int32} (hxs : S.1 (sh S a) = xs)  : Ct E (RC E g0) yX3_isEmpty wsX3_isEmpty rX3_isEmpty [eA E 74, .int (iI a)] S (some (.int (iI (bI (decide (xs.length = 0)))))) S := by
  refine ct_of [(0, _), (1, _)] hE (by decide) rfl (Nat.le_of_ble_eq_true rfl) rfl (fun X h hq => ?_)
  refine j_of (fun G hG => RC_okS hG) (fun hS0 => ?_)
  refine j_of (fun G hG => RC_lens hG) (fun hLL => ?_)
  have hsa := sh_lt hS0 a
  have hlxs := hLL (sh S a) (by omega)
  rw [hxs, cap_lo (by omega)] at hlxs
  refine j_aload_n h 0 dX3_isEmpty_0 rfl rfl ?_
  refine jg_Snow h a_f_X3_10 dX3_isEmpty_1 ?_
  refine j_iload_n h 1 dX3_isEmpty_4 rfl rfl ?_
  refine j_callV h (c_X0_text hE ha) m_X0_text a_l_X3_39 rfl rfl ⟨Nat.le_of_ble_eq_true rfl, Nat.le_of_ble_eq_true rfl⟩ (ci := 0) rfl (by omega) (rcI (i := 0) (by omega)) rfl rfl (Nat.le_of_ble_eq_true rfl) dX3_isEmpty_5 ?_
  refine j_callV h (c_X2_size hE (by omega) hxs) m_X2_size a_l_X3_43 rfl rfl ⟨Nat.le_of_ble_eq_true rfl, Nat.le_of_ble_eq_true rfl⟩ (ci := 2) rfl (by omega) (rcT (by omega)) rfl rfl (Nat.le_of_ble_eq_true rfl) dX3_isEmpty_8 ?_
  refine j_if_ne h 18 dX3_isEmpty_11 (by decide) (by first | exact okI_of _ | exact okI_b _ | exact okI_sgz _ _ | assumption | (unfold okI; omega)) (fun c11 => ?_) (fun c11 => ?_)
  · refine j_iconst h dX3_isEmpty_18 ?_
    exact j_zret h hq (by first | exact bt (decide_eq_true (by omega)) | exact bf (decide_eq_false (by omega))) (by first | exact nzb true | exact nzb false | exact nzb _) dX3_isEmpty_19
  · refine j_iconst h dX3_isEmpty_14 ?_
    refine j_goto h 19 dX3_isEmpty_15 (by decide) ?_
    exact j_zret h hq (by first | exact bt (decide_eq_true (by omega)) | exact bf (decide_eq_false (by omega))) (by first | exact nzb true | exact nzb false | exact nzb _) dX3_isEmpty_19
set_option maxHeartbeats 400000 in
set_option maxRecDepth 20000 in
theorem c_X3_isBlank {E : EV} (hE : EOK E) {S : SC} {g0 : GH} {a : Int} (ha : okI a) {xs : List Int32} (hxs : S.1 (sh S a) = xs)  : Ct E (RC E g0) yX3_isBlank wsX3_isBlank rX3_isBlank [eA E 74, .int (iI a)] S (some (.int (iI (bI (decide (eof true xs 0 xs.length = xs.length)))))) S := by
  refine ct_of [(0, _), (1, _)] hE (by decide) rfl (Nat.le_of_ble_eq_true rfl) rfl (fun X h hq => ?_)
  refine j_of (fun G hG => RC_okS hG) (fun hS0 => ?_)
  refine j_of (fun G hG => RC_lens hG) (fun hLL => ?_)
  have hsa := sh_lt hS0 a
  have hlxs := hLL (sh S a) (by omega)
  rw [hxs, cap_lo (by omega)] at hlxs
  refine j_aload_n h 0 dX3_isBlank_0 rfl rfl ?_
  refine jg_Snow h a_f_X3_10 dX3_isBlank_1 ?_
  refine j_iload_n h 1 dX3_isBlank_4 rfl rfl ?_
  refine j_callV h (c_X0_text hE ha) m_X0_text a_l_X3_39 rfl rfl ⟨Nat.le_of_ble_eq_true rfl, Nat.le_of_ble_eq_true rfl⟩ (ci := 0) rfl (by omega) (rcI (i := 0) (by omega)) rfl rfl (Nat.le_of_ble_eq_true rfl) dX3_isBlank_5 ?_
  refine j_astore_n h [(2, _), (0, _), (1, _)] dX3_isBlank_8 rfl (by decide) rfl ?_
  refine j_aload_n h 0 dX3_isBlank_9 rfl rfl ?_
  refine j_iconst h dX3_isBlank_10 ?_
  refine j_callV h (c_X2_endOfFront hE (by omega) hxs true) m_X2_endOfFront a_l_X3_101 rfl rfl ⟨Nat.le_of_ble_eq_true rfl, Nat.le_of_ble_eq_true rfl⟩ (ci := 2) rfl (by omega) (rcT (by omega)) rfl rfl (Nat.le_of_ble_eq_true rfl) dX3_isBlank_11 ?_
  have hef := eof_le true xs xs.length 0
  refine j_aload_n h 0 dX3_isBlank_14 rfl rfl ?_
  refine j_callV h (c_X2_size hE (by omega) hxs) m_X2_size a_l_X3_43 rfl rfl ⟨Nat.le_of_ble_eq_true rfl, Nat.le_of_ble_eq_true rfl⟩ (ci := 2) rfl (by omega) (rcT (by omega)) rfl rfl (Nat.le_of_ble_eq_true rfl) dX3_isBlank_15 ?_
  refine j_icmp_ne h 25 dX3_isBlank_18 (by decide) (by first | exact okI_of _ | exact okI_b _ | exact okI_sgz _ _ | assumption | (unfold okI; omega)) (by first | exact okI_of _ | exact okI_b _ | exact okI_sgz _ _ | assumption | (unfold okI; omega)) (fun c18 => ?_) (fun c18 => ?_)
  · refine j_iconst h dX3_isBlank_25 ?_
    exact j_zret h hq (by first | exact bt (decide_eq_true (by omega)) | exact bf (decide_eq_false (by omega))) (by first | exact nzb true | exact nzb false | exact nzb _) dX3_isBlank_26
  · refine j_iconst h dX3_isBlank_21 ?_
    refine j_goto h 26 dX3_isBlank_22 (by decide) ?_
    exact j_zret h hq (by first | exact bt (decide_eq_true (by omega)) | exact bf (decide_eq_false (by omega))) (by first | exact nzb true | exact nzb false | exact nzb _) dX3_isBlank_26
set_option maxHeartbeats 400000 in
set_option maxRecDepth 20000 in
theorem c_X3_charAt {E : EV} (hE : EOK E) {S : SC} {g0 : GH} {a : Int} (ha : okI a) {xs : List Int32} (hxs : S.1 (sh S a) = xs) {p : Int} (hp : okI p) : Ct E (RC E g0) yX3_charAt wsX3_charAt rX3_charAt [eA E 74, .int (iI a), .int (iI p)] S (some (.int (chA xs p))) S := by
  refine ct_of [(0, _), (1, _), (2, _)] hE (by decide) rfl (Nat.le_of_ble_eq_true rfl) rfl (fun X h hq => ?_)
  refine j_of (fun G hG => RC_okS hG) (fun hS0 => ?_)
  refine j_of (fun G hG => RC_lens hG) (fun hLL => ?_)
  have hsa := sh_lt hS0 a
  have hlxs := hLL (sh S a) (by omega)
  rw [hxs, cap_lo (by omega)] at hlxs
  refine j_aload_n h 0 dX3_charAt_0 rfl rfl ?_
  refine jg_Snow h a_f_X3_10 dX3_charAt_1 ?_
  refine j_iload_n h 1 dX3_charAt_4 rfl rfl ?_
  refine j_callV h (c_X0_text hE ha) m_X0_text a_l_X3_39 rfl rfl ⟨Nat.le_of_ble_eq_true rfl, Nat.le_of_ble_eq_true rfl⟩ (ci := 0) rfl (by omega) (rcI (i := 0) (by omega)) rfl rfl (Nat.le_of_ble_eq_true rfl) dX3_charAt_5 ?_
  refine j_astore_n h [(3, _), (0, _), (1, _), (2, _)] dX3_charAt_8 rfl (by decide) rfl ?_
  refine j_iload_n h 3 dX3_charAt_9 rfl rfl ?_
  refine j_if_lt h 21 dX3_charAt_10 (by decide) (by first | exact okI_of _ | exact okI_b _ | exact okI_sgz _ _ | assumption | (unfold okI; omega)) (fun c10 => ?_) (fun c10 => ?_)
  · refine j_ldc h (-1000002) a_k_X3_82 (by decide) dX3_charAt_21 ?_
    exact j_iret h hq (by unfold chA; rw [if_neg (by omega)]) dX3_charAt_23
  · refine j_iload_n h 3 dX3_charAt_13 rfl rfl ?_
    refine j_aload_n h 0 dX3_charAt_14 rfl rfl ?_
    refine j_callV h (c_X2_size hE (by omega) hxs) m_X2_size a_l_X3_43 rfl rfl ⟨Nat.le_of_ble_eq_true rfl, Nat.le_of_ble_eq_true rfl⟩ (ci := 2) rfl (by omega) (rcT (by omega)) rfl rfl (Nat.le_of_ble_eq_true rfl) dX3_charAt_15 ?_
    refine j_icmp_lt h 24 dX3_charAt_18 (by decide) (by first | exact okI_of _ | exact okI_b _ | exact okI_sgz _ _ | assumption | (unfold okI; omega)) (by first | exact okI_of _ | exact okI_b _ | exact okI_sgz _ _ | assumption | (unfold okI; omega)) (fun c18 => ?_) (fun c18 => ?_)
    · refine j_aload_n h 0 dX3_charAt_24 rfl rfl ?_
      refine j_iload_n h 3 dX3_charAt_25 rfl rfl ?_
      refine j_callV h (c_X2_at hE (by omega) hxs (by omega) (by omega)) m_X2_at a_l_X3_105 rfl rfl ⟨Nat.le_of_ble_eq_true rfl, Nat.le_of_ble_eq_true rfl⟩ (ci := 2) rfl (by omega) (rcT (by omega)) rfl rfl (Nat.le_of_ble_eq_true rfl) dX3_charAt_26 ?_
      exact j_iret h hq (by unfold chA; rw [if_pos (by omega)]) dX3_charAt_29
    · refine j_ldc h (-1000002) a_k_X3_82 (by decide) dX3_charAt_21 ?_
      exact j_iret h hq (by unfold chA; rw [if_neg (by omega)]) dX3_charAt_23
set_option maxHeartbeats 400000 in
set_option maxRecDepth 20000 in
theorem c_X3_hash {E : EV} (hE : EOK E) {S : SC} {g0 : GH} {a : Int} (ha : okI a) {xs : List Int32} (hxs : S.1 (sh S a) = xs)  : Ct E (RC E g0) yX3_hash wsX3_hash rX3_hash [eA E 74, .int (iI a)] S (some (.int (iI (fld xs 0 0 xs.length)))) S := by
  refine ct_of [(0, _), (1, _)] hE (by decide) rfl (Nat.le_of_ble_eq_true rfl) rfl (fun X h hq => ?_)
  refine j_of (fun G hG => RC_okS hG) (fun hS0 => ?_)
  refine j_of (fun G hG => RC_lens hG) (fun hLL => ?_)
  have hsa := sh_lt hS0 a
  have hlxs := hLL (sh S a) (by omega)
  rw [hxs, cap_lo (by omega)] at hlxs
  refine j_aload_n h 0 dX3_hash_0 rfl rfl ?_
  refine jg_Snow h a_f_X3_10 dX3_hash_1 ?_
  refine j_iload_n h 1 dX3_hash_4 rfl rfl ?_
  refine j_callV h (c_X0_text hE ha) m_X0_text a_l_X3_39 rfl rfl ⟨Nat.le_of_ble_eq_true rfl, Nat.le_of_ble_eq_true rfl⟩ (ci := 0) rfl (by omega) (rcI (i := 0) (by omega)) rfl rfl (Nat.le_of_ble_eq_true rfl) dX3_hash_5 ?_
  refine j_astore_n h [(2, _), (0, _), (1, _)] dX3_hash_8 rfl (by decide) rfl ?_
  refine j_iconst h dX3_hash_9 ?_
  refine j_istore_n h [(3, _), (2, _), (0, _), (1, _)] dX3_hash_10 rfl (by decide) rfl ?_
  refine j_iconst h dX3_hash_11 ?_
  refine j_istore h [(4, _), (3, _), (2, _), (0, _), (1, _)] dX3_hash_12 (by decide) rfl ?_
  refine j_sub [0, 1, 2] rfl ?_
  refine lpA2 (fun (z k : Int) => (xs.length - z).toNat) (fun (z k : Int) => 0 ≤ z → z ≤ xs.length → fld xs k z.toNat (xs.length - z.toNat) = fld xs 0 0 xs.length → JL E (RC E g0) X 14 [(4, .int (iI z)), (3, .int (iI k)), (2, eA E (sh S a))] [] S) (fun z k ih h0 hb hv => ?_) 0 0 (Int.le_refl 0) (by omega) rfl
  refine j_iload h 0 dX3_hash_14 rfl ?_
  refine j_aload_n h 2 dX3_hash_16 rfl rfl ?_
  refine j_callV h (c_X2_size hE (by omega) hxs) m_X2_size a_l_X3_43 rfl rfl ⟨Nat.le_of_ble_eq_true rfl, Nat.le_of_ble_eq_true rfl⟩ (ci := 2) rfl (by omega) (rcT (by omega)) rfl rfl (Nat.le_of_ble_eq_true rfl) dX3_hash_17 ?_
  refine j_icmp_ge h 41 dX3_hash_20 (by decide) (by first | exact okI_of _ | exact okI_b _ | exact okI_sgz _ _ | assumption | (unfold okI; omega)) (by first | exact okI_of _ | exact okI_b _ | exact okI_sgz _ _ | assumption | (unfold okI; omega)) (fun c20 => ?_) (fun c20 => ?_)
  · refine j_iload_n h 1 dX3_hash_41 rfl rfl ?_
    exact j_iret h hq (by rw [← hv, show xs.length - z.toNat = 0 by omega, fld]) dX3_hash_42
  · refine j_bipush h dX3_hash_23 (by decide) ?_
    refine j_iload_n h 1 dX3_hash_25 rfl rfl ?_
    refine j_imul h dX3_hash_26 ?_
    refine j_aload_n h 2 dX3_hash_27 rfl rfl ?_
    refine j_iload h 0 dX3_hash_28 rfl ?_
    refine j_callV h (c_X2_at hE (by omega) hxs (by omega) (by omega)) m_X2_at a_l_X3_105 rfl rfl ⟨Nat.le_of_ble_eq_true rfl, Nat.le_of_ble_eq_true rfl⟩ (ci := 2) rfl (by omega) (rcT (by omega)) rfl rfl (Nat.le_of_ble_eq_true rfl) dX3_hash_30 ?_
    refine j_top (iI_of _).symm ?_
    refine j_iadd h dX3_hash_33 ?_
    refine j_istore_n h [(3, _), (4, _), (2, _)] dX3_hash_34 rfl (by decide) rfl ?_
    refine j_iinc h 1 [(4, _), (3, _), (2, _)] dX3_hash_35 rfl (by decide) rfl ?_
    refine j_goto h 14 dX3_hash_38 (by decide) ?_
    exact ih (z + 1) _ (by omega) (by omega) (by omega) (by rw [show xs.length - z.toNat = xs.length - (z + 1).toNat + 1 by omega, fld, show z.toNat + 1 = (z + 1).toNat by omega] at hv; exact hv)
set_option maxHeartbeats 400000 in
set_option maxRecDepth 20000 in
theorem c_X3_firstFrom {E : EV} (hE : EOK E) {S : SC} {g0 : GH} {a : Int} (ha : okI a) {xs : List Int32} (hxs : S.1 (sh S a) = xs) {c : Int32} {f : Int} (hf : okI f) : Ct E (RC E g0) yX3_firstFrom wsX3_firstFrom rX3_firstFrom [eA E 74, .int (iI a), .int c, .int (iI f)] S (some (.int (iI (sgF xs c f)))) S := by
  refine ct_of [(0, _), (1, _), (2, _), (3, _)] hE (by decide) rfl (Nat.le_of_ble_eq_true rfl) rfl (fun X h hq => ?_)
  refine j_of (fun G hG => RC_okS hG) (fun hS0 => ?_)
  refine j_of (fun G hG => RC_lens hG) (fun hLL => ?_)
  have hsa := sh_lt hS0 a
  have hlxs := hLL (sh S a) (by omega)
  rw [hxs, cap_lo (by omega)] at hlxs
  refine j_aload_n h 0 dX3_firstFrom_0 rfl rfl ?_
  refine jg_Snow h a_f_X3_10 dX3_firstFrom_1 ?_
  refine j_iload_n h 1 dX3_firstFrom_4 rfl rfl ?_
  refine j_callV h (c_X0_text hE ha) m_X0_text a_l_X3_39 rfl rfl ⟨Nat.le_of_ble_eq_true rfl, Nat.le_of_ble_eq_true rfl⟩ (ci := 0) rfl (by omega) (rcI (i := 0) (by omega)) rfl rfl (Nat.le_of_ble_eq_true rfl) dX3_firstFrom_5 ?_
  refine j_iload_n h 2 dX3_firstFrom_8 rfl rfl ?_
  refine j_iload_n h 3 dX3_firstFrom_9 rfl rfl ?_
  refine j_callV h (c_X2_signFrom hE (by omega) hxs hf) m_X2_signFrom a_l_X3_112 rfl rfl ⟨Nat.le_of_ble_eq_true rfl, Nat.le_of_ble_eq_true rfl⟩ (ci := 2) rfl (by omega) (rcT (by omega)) rfl rfl (Nat.le_of_ble_eq_true rfl) dX3_firstFrom_10 ?_
  exact j_iret h hq rfl dX3_firstFrom_13
set_option maxHeartbeats 400000 in
set_option maxRecDepth 20000 in
theorem c_X3_lastFrom {E : EV} (hE : EOK E) {S : SC} {g0 : GH} {a : Int} (ha : okI a) {xs : List Int32} (hxs : S.1 (sh S a) = xs) {c : Int32} {f : Int} (hf : okI f) : Ct E (RC E g0) yX3_lastFrom wsX3_lastFrom rX3_lastFrom [eA E 74, .int (iI a), .int c, .int (iI f)] S (some (.int (iI (sgB xs c f)))) S := by
  refine ct_of [(0, _), (1, _), (2, _), (3, _)] hE (by decide) rfl (Nat.le_of_ble_eq_true rfl) rfl (fun X h hq => ?_)
  refine j_of (fun G hG => RC_okS hG) (fun hS0 => ?_)
  refine j_of (fun G hG => RC_lens hG) (fun hLL => ?_)
  have hsa := sh_lt hS0 a
  have hlxs := hLL (sh S a) (by omega)
  rw [hxs, cap_lo (by omega)] at hlxs
  refine j_aload_n h 0 dX3_lastFrom_0 rfl rfl ?_
  refine jg_Snow h a_f_X3_10 dX3_lastFrom_1 ?_
  refine j_iload_n h 1 dX3_lastFrom_4 rfl rfl ?_
  refine j_callV h (c_X0_text hE ha) m_X0_text a_l_X3_39 rfl rfl ⟨Nat.le_of_ble_eq_true rfl, Nat.le_of_ble_eq_true rfl⟩ (ci := 0) rfl (by omega) (rcI (i := 0) (by omega)) rfl rfl (Nat.le_of_ble_eq_true rfl) dX3_lastFrom_5 ?_
  refine j_iload_n h 2 dX3_lastFrom_8 rfl rfl ?_
  refine j_iload_n h 3 dX3_lastFrom_9 rfl rfl ?_
  refine j_callV h (c_X2_signBack hE (by omega) hxs hf) m_X2_signBack a_l_X3_119 rfl rfl ⟨Nat.le_of_ble_eq_true rfl, Nat.le_of_ble_eq_true rfl⟩ (ci := 2) rfl (by omega) (rcT (by omega)) rfl rfl (Nat.le_of_ble_eq_true rfl) dX3_lastFrom_10 ?_
  exact j_iret h hq rfl dX3_lastFrom_13
set_option maxHeartbeats 400000 in
set_option maxRecDepth 20000 in
theorem c_X3_first {E : EV} (hE : EOK E) {S : SC} {g0 : GH} {a : Int} (ha : okI a) {xs : List Int32} (hxs : S.1 (sh S a) = xs) {c : Int32} : Ct E (RC E g0) yX3_first wsX3_first rX3_first [eA E 74, .int (iI a), .int c] S (some (.int (iI (sgF xs c 0)))) S := by
  refine ct_of [(0, _), (1, _), (2, _)] hE (by decide) rfl (Nat.le_of_ble_eq_true rfl) rfl (fun X h hq => ?_)
  refine j_of (fun G hG => RC_okS hG) (fun hS0 => ?_)
  refine j_of (fun G hG => RC_lens hG) (fun hLL => ?_)
  have hsa := sh_lt hS0 a
  have hlxs := hLL (sh S a) (by omega)
  rw [hxs, cap_lo (by omega)] at hlxs
  refine j_aload_n h 0 dX3_first_0 rfl rfl ?_
  refine j_iload_n h 1 dX3_first_1 rfl rfl ?_
  refine j_iload_n h 2 dX3_first_2 rfl rfl ?_
  refine j_iconst h dX3_first_3 ?_
  refine j_callV h (c_X3_firstFrom hE ha hxs ⟨by decide, by decide⟩) m_X3_firstFrom a_l_X3_108 rfl rfl ⟨Nat.le_of_ble_eq_true rfl, Nat.le_of_ble_eq_true rfl⟩ (ci := 3) rfl (by omega) (rcS) rfl rfl (Nat.le_of_ble_eq_true rfl) dX3_first_4 ?_
  exact j_iret h hq rfl dX3_first_7
set_option maxHeartbeats 400000 in
set_option maxRecDepth 20000 in
theorem c_X3_last {E : EV} (hE : EOK E) {S : SC} {g0 : GH} {a : Int} (ha : okI a) {xs : List Int32} (hxs : S.1 (sh S a) = xs) {c : Int32} : Ct E (RC E g0) yX3_last wsX3_last rX3_last [eA E 74, .int (iI a), .int c] S (some (.int (iI (sgB xs c 300)))) S := by
  refine ct_of [(0, _), (1, _), (2, _)] hE (by decide) rfl (Nat.le_of_ble_eq_true rfl) rfl (fun X h hq => ?_)
  refine j_of (fun G hG => RC_okS hG) (fun hS0 => ?_)
  refine j_of (fun G hG => RC_lens hG) (fun hLL => ?_)
  have hsa := sh_lt hS0 a
  have hlxs := hLL (sh S a) (by omega)
  rw [hxs, cap_lo (by omega)] at hlxs
  refine j_aload_n h 0 dX3_last_0 rfl rfl ?_
  refine j_iload_n h 1 dX3_last_1 rfl rfl ?_
  refine j_iload_n h 2 dX3_last_2 rfl rfl ?_
  refine j_sipush h dX3_last_3 (by decide) ?_
  refine j_callV h (c_X3_lastFrom hE ha hxs ⟨by decide, by decide⟩) m_X3_lastFrom a_l_X3_116 rfl rfl ⟨Nat.le_of_ble_eq_true rfl, Nat.le_of_ble_eq_true rfl⟩ (ci := 3) rfl (by omega) (rcS) rfl rfl (Nat.le_of_ble_eq_true rfl) dX3_last_6 ?_
  exact j_iret h hq rfl dX3_last_9
set_option maxHeartbeats 400000 in
set_option maxRecDepth 20000 in
theorem c_X3_findFrom {E : EV} (hE : EOK E) {S : SC} {g0 : GH} {a : Int} (ha : okI a) {xs : List Int32} (hxs : S.1 (sh S a) = xs) {b : Int} (hb : okI b) {ys : List Int32} (hys : S.1 (sh S b) = ys) {f : Int} (hf : okI f) : Ct E (RC E g0) yX3_findFrom wsX3_findFrom rX3_findFrom [eA E 74, .int (iI a), .int (iI b), .int (iI f)] S (some (.int (iI (plF xs ys f)))) S := by
  refine ct_of [(0, _), (1, _), (2, _), (3, _)] hE (by decide) rfl (Nat.le_of_ble_eq_true rfl) rfl (fun X h hq => ?_)
  refine j_of (fun G hG => RC_okS hG) (fun hS0 => ?_)
  refine j_of (fun G hG => RC_lens hG) (fun hLL => ?_)
  have hsa := sh_lt hS0 a
  have hlxs := hLL (sh S a) (by omega)
  rw [hxs, cap_lo (by omega)] at hlxs
  have hsb := sh_lt hS0 b
  have hlys := hLL (sh S b) (by omega)
  rw [hys, cap_lo (by omega)] at hlys
  refine j_aload_n h 0 dX3_findFrom_0 rfl rfl ?_
  refine jg_Snow h a_f_X3_10 dX3_findFrom_1 ?_
  refine j_iload_n h 1 dX3_findFrom_4 rfl rfl ?_
  refine j_callV h (c_X0_text hE ha) m_X0_text a_l_X3_39 rfl rfl ⟨Nat.le_of_ble_eq_true rfl, Nat.le_of_ble_eq_true rfl⟩ (ci := 0) rfl (by omega) (rcI (i := 0) (by omega)) rfl rfl (Nat.le_of_ble_eq_true rfl) dX3_findFrom_5 ?_
  refine j_aload_n h 0 dX3_findFrom_8 rfl rfl ?_
  refine jg_Snow h a_f_X3_10 dX3_findFrom_9 ?_
  refine j_iload_n h 2 dX3_findFrom_12 rfl rfl ?_
  refine j_callV h (c_X0_text hE hb) m_X0_text a_l_X3_39 rfl rfl ⟨Nat.le_of_ble_eq_true rfl, Nat.le_of_ble_eq_true rfl⟩ (ci := 0) rfl (by omega) (rcI (i := 0) (by omega)) rfl rfl (Nat.le_of_ble_eq_true rfl) dX3_findFrom_13 ?_
  refine j_iload_n h 3 dX3_findFrom_16 rfl rfl ?_
  refine j_callV h (c_X2_placeFrom hE (by omega) hxs (by omega) hys hf) m_X2_placeFrom a_l_X3_125 rfl rfl ⟨Nat.le_of_ble_eq_true rfl, Nat.le_of_ble_eq_true rfl⟩ (ci := 2) rfl (by omega) (rcT (by omega)) rfl rfl (Nat.le_of_ble_eq_true rfl) dX3_findFrom_17 ?_
  exact j_iret h hq rfl dX3_findFrom_20
set_option maxHeartbeats 400000 in
set_option maxRecDepth 20000 in
theorem c_X3_findLastFrom {E : EV} (hE : EOK E) {S : SC} {g0 : GH} {a : Int} (ha : okI a) {xs : List Int32} (hxs : S.1 (sh S a) = xs) {b : Int} (hb : okI b) {ys : List Int32} (hys : S.1 (sh S b) = ys) {f : Int} (hf : okI f) : Ct E (RC E g0) yX3_findLastFrom wsX3_findLastFrom rX3_findLastFrom [eA E 74, .int (iI a), .int (iI b), .int (iI f)] S (some (.int (iI (plB xs ys f)))) S := by
  refine ct_of [(0, _), (1, _), (2, _), (3, _)] hE (by decide) rfl (Nat.le_of_ble_eq_true rfl) rfl (fun X h hq => ?_)
  refine j_of (fun G hG => RC_okS hG) (fun hS0 => ?_)
  refine j_of (fun G hG => RC_lens hG) (fun hLL => ?_)
  have hsa := sh_lt hS0 a
  have hlxs := hLL (sh S a) (by omega)
  rw [hxs, cap_lo (by omega)] at hlxs
  have hsb := sh_lt hS0 b
  have hlys := hLL (sh S b) (by omega)
  rw [hys, cap_lo (by omega)] at hlys
  refine j_aload_n h 0 dX3_findLastFrom_0 rfl rfl ?_
  refine jg_Snow h a_f_X3_10 dX3_findLastFrom_1 ?_
  refine j_iload_n h 1 dX3_findLastFrom_4 rfl rfl ?_
  refine j_callV h (c_X0_text hE ha) m_X0_text a_l_X3_39 rfl rfl ⟨Nat.le_of_ble_eq_true rfl, Nat.le_of_ble_eq_true rfl⟩ (ci := 0) rfl (by omega) (rcI (i := 0) (by omega)) rfl rfl (Nat.le_of_ble_eq_true rfl) dX3_findLastFrom_5 ?_
  refine j_aload_n h 0 dX3_findLastFrom_8 rfl rfl ?_
  refine jg_Snow h a_f_X3_10 dX3_findLastFrom_9 ?_
  refine j_iload_n h 2 dX3_findLastFrom_12 rfl rfl ?_
  refine j_callV h (c_X0_text hE hb) m_X0_text a_l_X3_39 rfl rfl ⟨Nat.le_of_ble_eq_true rfl, Nat.le_of_ble_eq_true rfl⟩ (ci := 0) rfl (by omega) (rcI (i := 0) (by omega)) rfl rfl (Nat.le_of_ble_eq_true rfl) dX3_findLastFrom_13 ?_
  refine j_iload_n h 3 dX3_findLastFrom_16 rfl rfl ?_
  refine j_callV h (c_X2_placeBack hE (by omega) hxs (by omega) hys hf) m_X2_placeBack a_l_X3_132 rfl rfl ⟨Nat.le_of_ble_eq_true rfl, Nat.le_of_ble_eq_true rfl⟩ (ci := 2) rfl (by omega) (rcT (by omega)) rfl rfl (Nat.le_of_ble_eq_true rfl) dX3_findLastFrom_17 ?_
  exact j_iret h hq rfl dX3_findLastFrom_20
set_option maxHeartbeats 400000 in
set_option maxRecDepth 20000 in
theorem c_X3_find {E : EV} (hE : EOK E) {S : SC} {g0 : GH} {a : Int} (ha : okI a) {xs : List Int32} (hxs : S.1 (sh S a) = xs) {b : Int} (hb : okI b) {ys : List Int32} (hys : S.1 (sh S b) = ys)  : Ct E (RC E g0) yX3_find wsX3_find rX3_find [eA E 74, .int (iI a), .int (iI b)] S (some (.int (iI (plF xs ys 0)))) S := by
  refine ct_of [(0, _), (1, _), (2, _)] hE (by decide) rfl (Nat.le_of_ble_eq_true rfl) rfl (fun X h hq => ?_)
  refine j_of (fun G hG => RC_okS hG) (fun hS0 => ?_)
  refine j_of (fun G hG => RC_lens hG) (fun hLL => ?_)
  have hsa := sh_lt hS0 a
  have hlxs := hLL (sh S a) (by omega)
  rw [hxs, cap_lo (by omega)] at hlxs
  have hsb := sh_lt hS0 b
  have hlys := hLL (sh S b) (by omega)
  rw [hys, cap_lo (by omega)] at hlys
  refine j_aload_n h 0 dX3_find_0 rfl rfl ?_
  refine j_iload_n h 1 dX3_find_1 rfl rfl ?_
  refine j_iload_n h 2 dX3_find_2 rfl rfl ?_
  refine j_iconst h dX3_find_3 ?_
  refine j_callV h (c_X3_findFrom hE ha hxs hb hys ⟨by decide, by decide⟩) m_X3_findFrom a_l_X3_122 rfl rfl ⟨Nat.le_of_ble_eq_true rfl, Nat.le_of_ble_eq_true rfl⟩ (ci := 3) rfl (by omega) (rcS) rfl rfl (Nat.le_of_ble_eq_true rfl) dX3_find_4 ?_
  exact j_iret h hq rfl dX3_find_7
set_option maxHeartbeats 400000 in
set_option maxRecDepth 20000 in
theorem c_X3_findLast {E : EV} (hE : EOK E) {S : SC} {g0 : GH} {a : Int} (ha : okI a) {xs : List Int32} (hxs : S.1 (sh S a) = xs) {b : Int} (hb : okI b) {ys : List Int32} (hys : S.1 (sh S b) = ys)  : Ct E (RC E g0) yX3_findLast wsX3_findLast rX3_findLast [eA E 74, .int (iI a), .int (iI b)] S (some (.int (iI (plB xs ys 300)))) S := by
  refine ct_of [(0, _), (1, _), (2, _)] hE (by decide) rfl (Nat.le_of_ble_eq_true rfl) rfl (fun X h hq => ?_)
  refine j_of (fun G hG => RC_okS hG) (fun hS0 => ?_)
  refine j_of (fun G hG => RC_lens hG) (fun hLL => ?_)
  have hsa := sh_lt hS0 a
  have hlxs := hLL (sh S a) (by omega)
  rw [hxs, cap_lo (by omega)] at hlxs
  have hsb := sh_lt hS0 b
  have hlys := hLL (sh S b) (by omega)
  rw [hys, cap_lo (by omega)] at hlys
  refine j_aload_n h 0 dX3_findLast_0 rfl rfl ?_
  refine j_iload_n h 1 dX3_findLast_1 rfl rfl ?_
  refine j_iload_n h 2 dX3_findLast_2 rfl rfl ?_
  refine j_sipush h dX3_findLast_3 (by decide) ?_
  refine j_callV h (c_X3_findLastFrom hE ha hxs hb hys ⟨by decide, by decide⟩) m_X3_findLastFrom a_l_X3_129 rfl rfl ⟨Nat.le_of_ble_eq_true rfl, Nat.le_of_ble_eq_true rfl⟩ (ci := 3) rfl (by omega) (rcS) rfl rfl (Nat.le_of_ble_eq_true rfl) dX3_findLast_6 ?_
  exact j_iret h hq rfl dX3_findLast_9
set_option maxHeartbeats 400000 in
set_option maxRecDepth 20000 in
theorem c_X3_contains {E : EV} (hE : EOK E) {S : SC} {g0 : GH} {a : Int} (ha : okI a) {xs : List Int32} (hxs : S.1 (sh S a) = xs) {b : Int} (hb : okI b) {ys : List Int32} (hys : S.1 (sh S b) = ys)  : Ct E (RC E g0) yX3_contains wsX3_contains rX3_contains [eA E 74, .int (iI a), .int (iI b)] S (some (.int (iI (bI (!decide (plF xs ys 0 = -1)))))) S := by
  refine ct_of [(0, _), (1, _), (2, _)] hE (by decide) rfl (Nat.le_of_ble_eq_true rfl) rfl (fun X h hq => ?_)
  refine j_of (fun G hG => RC_okS hG) (fun hS0 => ?_)
  refine j_of (fun G hG => RC_lens hG) (fun hLL => ?_)
  have hsa := sh_lt hS0 a
  have hlxs := hLL (sh S a) (by omega)
  rw [hxs, cap_lo (by omega)] at hlxs
  have hsb := sh_lt hS0 b
  have hlys := hLL (sh S b) (by omega)
  rw [hys, cap_lo (by omega)] at hlys
  refine j_aload_n h 0 dX3_contains_0 rfl rfl ?_
  refine j_iload_n h 1 dX3_contains_1 rfl rfl ?_
  refine j_iload_n h 2 dX3_contains_2 rfl rfl ?_
  refine j_callV h (c_X3_find hE ha hxs hb hys) m_X3_find a_l_X3_135 rfl rfl ⟨Nat.le_of_ble_eq_true rfl, Nat.le_of_ble_eq_true rfl⟩ (ci := 3) rfl (by omega) (rcS) rfl rfl (Nat.le_of_ble_eq_true rfl) dX3_contains_3 ?_
  have hpl := plF_range xs ys 0
  refine j_iconst h dX3_contains_6 ?_
  refine j_icmp_eq h 14 dX3_contains_7 (by decide) (by first | exact okI_of _ | exact okI_b _ | exact okI_sgz _ _ | assumption | (unfold okI; omega)) (by first | exact okI_of _ | exact okI_b _ | exact okI_sgz _ _ | assumption | (unfold okI; omega)) (fun c7 => ?_) (fun c7 => ?_)
  · refine j_iconst h dX3_contains_14 ?_
    exact j_zret h hq (by first | exact bt (by rw [decide_eq_false (by omega)]; rfl) | exact bf (by rw [decide_eq_true (by omega)]; rfl)) (by first | exact nzb true | exact nzb false | exact nzb _) dX3_contains_15
  · refine j_iconst h dX3_contains_10 ?_
    refine j_goto h 15 dX3_contains_11 (by decide) ?_
    exact j_zret h hq (by first | exact bt (by rw [decide_eq_false (by omega)]; rfl) | exact bf (by rw [decide_eq_true (by omega)]; rfl)) (by first | exact nzb true | exact nzb false | exact nzb _) dX3_contains_15
set_option maxHeartbeats 400000 in
set_option maxRecDepth 20000 in
theorem c_X3_startsAt {E : EV} (hE : EOK E) {S : SC} {g0 : GH} {a : Int} (ha : okI a) {xs : List Int32} (hxs : S.1 (sh S a) = xs) {b : Int} (hb : okI b) {ys : List Int32} (hys : S.1 (sh S b) = ys) {p : Int} (hp : okI p) : Ct E (RC E g0) yX3_startsAt wsX3_startsAt rX3_startsAt [eA E 74, .int (iI a), .int (iI b), .int (iI p)] S (some (.int (iI (bI (bz xs ys p))))) S := by
  refine ct_of [(0, _), (1, _), (2, _), (3, _)] hE (by decide) rfl (Nat.le_of_ble_eq_true rfl) rfl (fun X h hq => ?_)
  refine j_of (fun G hG => RC_okS hG) (fun hS0 => ?_)
  refine j_of (fun G hG => RC_lens hG) (fun hLL => ?_)
  have hsa := sh_lt hS0 a
  have hlxs := hLL (sh S a) (by omega)
  rw [hxs, cap_lo (by omega)] at hlxs
  have hsb := sh_lt hS0 b
  have hlys := hLL (sh S b) (by omega)
  rw [hys, cap_lo (by omega)] at hlys
  refine j_aload_n h 0 dX3_startsAt_0 rfl rfl ?_
  refine jg_Snow h a_f_X3_10 dX3_startsAt_1 ?_
  refine j_iload_n h 1 dX3_startsAt_4 rfl rfl ?_
  refine j_callV h (c_X0_text hE ha) m_X0_text a_l_X3_39 rfl rfl ⟨Nat.le_of_ble_eq_true rfl, Nat.le_of_ble_eq_true rfl⟩ (ci := 0) rfl (by omega) (rcI (i := 0) (by omega)) rfl rfl (Nat.le_of_ble_eq_true rfl) dX3_startsAt_5 ?_
  refine j_aload_n h 0 dX3_startsAt_8 rfl rfl ?_
  refine jg_Snow h a_f_X3_10 dX3_startsAt_9 ?_
  refine j_iload_n h 2 dX3_startsAt_12 rfl rfl ?_
  refine j_callV h (c_X0_text hE hb) m_X0_text a_l_X3_39 rfl rfl ⟨Nat.le_of_ble_eq_true rfl, Nat.le_of_ble_eq_true rfl⟩ (ci := 0) rfl (by omega) (rcI (i := 0) (by omega)) rfl rfl (Nat.le_of_ble_eq_true rfl) dX3_startsAt_13 ?_
  refine j_iload_n h 3 dX3_startsAt_16 rfl rfl ?_
  refine j_callV h (c_X2_bears hE (by omega) hxs (by omega) hys hp) m_X2_bears a_l_X3_142 rfl rfl ⟨Nat.le_of_ble_eq_true rfl, Nat.le_of_ble_eq_true rfl⟩ (ci := 2) rfl (by omega) (rcT (by omega)) rfl rfl (Nat.le_of_ble_eq_true rfl) dX3_startsAt_17 ?_
  exact j_zret h hq rfl (by first | exact nzb true | exact nzb false | exact nzb _) dX3_startsAt_20
set_option maxHeartbeats 400000 in
set_option maxRecDepth 20000 in
theorem c_X3_starts {E : EV} (hE : EOK E) {S : SC} {g0 : GH} {a : Int} (ha : okI a) {xs : List Int32} (hxs : S.1 (sh S a) = xs) {b : Int} (hb : okI b) {ys : List Int32} (hys : S.1 (sh S b) = ys)  : Ct E (RC E g0) yX3_starts wsX3_starts rX3_starts [eA E 74, .int (iI a), .int (iI b)] S (some (.int (iI (bI (bz xs ys 0))))) S := by
  refine ct_of [(0, _), (1, _), (2, _)] hE (by decide) rfl (Nat.le_of_ble_eq_true rfl) rfl (fun X h hq => ?_)
  refine j_of (fun G hG => RC_okS hG) (fun hS0 => ?_)
  refine j_of (fun G hG => RC_lens hG) (fun hLL => ?_)
  have hsa := sh_lt hS0 a
  have hlxs := hLL (sh S a) (by omega)
  rw [hxs, cap_lo (by omega)] at hlxs
  have hsb := sh_lt hS0 b
  have hlys := hLL (sh S b) (by omega)
  rw [hys, cap_lo (by omega)] at hlys
  refine j_aload_n h 0 dX3_starts_0 rfl rfl ?_
  refine j_iload_n h 1 dX3_starts_1 rfl rfl ?_
  refine j_iload_n h 2 dX3_starts_2 rfl rfl ?_
  refine j_iconst h dX3_starts_3 ?_
  refine j_callV h (c_X3_startsAt hE ha hxs hb hys ⟨by decide, by decide⟩) m_X3_startsAt a_l_X3_138 rfl rfl ⟨Nat.le_of_ble_eq_true rfl, Nat.le_of_ble_eq_true rfl⟩ (ci := 3) rfl (by omega) (rcS) rfl rfl (Nat.le_of_ble_eq_true rfl) dX3_starts_4 ?_
  exact j_zret h hq rfl (by first | exact nzb true | exact nzb false | exact nzb _) dX3_starts_7
set_option maxHeartbeats 400000 in
set_option maxRecDepth 20000 in
theorem c_X3_ends {E : EV} (hE : EOK E) {S : SC} {g0 : GH} {a : Int} (ha : okI a) {xs : List Int32} (hxs : S.1 (sh S a) = xs) {b : Int} (hb : okI b) {ys : List Int32} (hys : S.1 (sh S b) = ys)  : Ct E (RC E g0) yX3_ends wsX3_ends rX3_ends [eA E 74, .int (iI a), .int (iI b)] S (some (.int (iI (bI (bz xs ys ((xs.length : Int) - ys.length)))))) S := by
  refine ct_of [(0, _), (1, _), (2, _)] hE (by decide) rfl (Nat.le_of_ble_eq_true rfl) rfl (fun X h hq => ?_)
  refine j_of (fun G hG => RC_okS hG) (fun hS0 => ?_)
  refine j_of (fun G hG => RC_lens hG) (fun hLL => ?_)
  have hsa := sh_lt hS0 a
  have hlxs := hLL (sh S a) (by omega)
  rw [hxs, cap_lo (by omega)] at hlxs
  have hsb := sh_lt hS0 b
  have hlys := hLL (sh S b) (by omega)
  rw [hys, cap_lo (by omega)] at hlys
  refine j_aload_n h 0 dX3_ends_0 rfl rfl ?_
  refine j_iload_n h 1 dX3_ends_1 rfl rfl ?_
  refine j_iload_n h 2 dX3_ends_2 rfl rfl ?_
  refine j_aload_n h 0 dX3_ends_3 rfl rfl ?_
  refine j_iload_n h 1 dX3_ends_4 rfl rfl ?_
  refine j_callV h (c_X3_length hE ha hxs) m_X3_length a_l_X3_146 rfl rfl ⟨Nat.le_of_ble_eq_true rfl, Nat.le_of_ble_eq_true rfl⟩ (ci := 3) rfl (by omega) (rcS) rfl rfl (Nat.le_of_ble_eq_true rfl) dX3_ends_5 ?_
  refine j_aload_n h 0 dX3_ends_8 rfl rfl ?_
  refine j_iload_n h 2 dX3_ends_9 rfl rfl ?_
  refine j_callV h (c_X3_length hE hb hys) m_X3_length a_l_X3_146 rfl rfl ⟨Nat.le_of_ble_eq_true rfl, Nat.le_of_ble_eq_true rfl⟩ (ci := 3) rfl (by omega) (rcS) rfl rfl (Nat.le_of_ble_eq_true rfl) dX3_ends_10 ?_
  refine j_isub h dX3_ends_13 ?_
  refine j_callV h (c_X3_startsAt hE ha hxs hb hys (by unfold okI; omega)) m_X3_startsAt a_l_X3_138 rfl rfl ⟨Nat.le_of_ble_eq_true rfl, Nat.le_of_ble_eq_true rfl⟩ (ci := 3) rfl (by omega) (rcS) rfl rfl (Nat.le_of_ble_eq_true rfl) dX3_ends_14 ?_
  exact j_zret h hq rfl (by first | exact nzb true | exact nzb false | exact nzb _) dX3_ends_17
set_option maxHeartbeats 400000 in
set_option maxRecDepth 20000 in
theorem c_X3_region {E : EV} (hE : EOK E) {S : SC} {g0 : GH} {a : Int} (ha : okI a) {xs : List Int32} (hxs : S.1 (sh S a) = xs) {b : Int} (hb : okI b) {ys : List Int32} (hys : S.1 (sh S b) = ys) {p q n : Int} (hp : okI p) (hq0 : okI q) (hn : okI n) : Ct E (RC E g0) yX3_region wsX3_region rX3_region [eA E 74, .int (iI a), .int (iI p), .int (iI b), .int (iI q), .int (iI n)] S (some (.int (iI (bI (agr true xs ys p q n))))) S := by
  refine ct_of [(0, _), (1, _), (2, _), (3, _), (4, _), (5, _)] hE (by decide) rfl (Nat.le_of_ble_eq_true rfl) rfl (fun X h hq => ?_)
  refine j_of (fun G hG => RC_okS hG) (fun hS0 => ?_)
  refine j_of (fun G hG => RC_lens hG) (fun hLL => ?_)
  have hsa := sh_lt hS0 a
  have hlxs := hLL (sh S a) (by omega)
  rw [hxs, cap_lo (by omega)] at hlxs
  have hsb := sh_lt hS0 b
  have hlys := hLL (sh S b) (by omega)
  rw [hys, cap_lo (by omega)] at hlys
  refine j_aload_n h 0 dX3_region_0 rfl rfl ?_
  refine jg_Snow h a_f_X3_10 dX3_region_1 ?_
  refine j_iload_n h 1 dX3_region_4 rfl rfl ?_
  refine j_callV h (c_X0_text hE ha) m_X0_text a_l_X3_39 rfl rfl ⟨Nat.le_of_ble_eq_true rfl, Nat.le_of_ble_eq_true rfl⟩ (ci := 0) rfl (by omega) (rcI (i := 0) (by omega)) rfl rfl (Nat.le_of_ble_eq_true rfl) dX3_region_5 ?_
  refine j_iload_n h 2 dX3_region_8 rfl rfl ?_
  refine j_aload_n h 0 dX3_region_9 rfl rfl ?_
  refine jg_Snow h a_f_X3_10 dX3_region_10 ?_
  refine j_iload_n h 3 dX3_region_13 rfl rfl ?_
  refine j_callV h (c_X0_text hE hb) m_X0_text a_l_X3_39 rfl rfl ⟨Nat.le_of_ble_eq_true rfl, Nat.le_of_ble_eq_true rfl⟩ (ci := 0) rfl (by omega) (rcI (i := 0) (by omega)) rfl rfl (Nat.le_of_ble_eq_true rfl) dX3_region_14 ?_
  refine j_iload h 4 dX3_region_17 rfl ?_
  refine j_iload h 5 dX3_region_19 rfl ?_
  refine j_iconst h dX3_region_21 ?_
  refine j_callV h (c_X2_agrees hE (by omega) hxs (by omega) hys hp hq0 hn true) m_X2_agrees a_l_X3_149 rfl rfl ⟨Nat.le_of_ble_eq_true rfl, Nat.le_of_ble_eq_true rfl⟩ (ci := 2) rfl (by omega) (rcT (by omega)) rfl rfl (Nat.le_of_ble_eq_true rfl) dX3_region_22 ?_
  exact j_zret h hq rfl (by first | exact nzb true | exact nzb false | exact nzb _) dX3_region_25
set_option maxHeartbeats 400000 in
set_option maxRecDepth 20000 in
theorem c_X3_regionAlike {E : EV} (hE : EOK E) {S : SC} {g0 : GH} {a : Int} (ha : okI a) {xs : List Int32} (hxs : S.1 (sh S a) = xs) {b : Int} (hb : okI b) {ys : List Int32} (hys : S.1 (sh S b) = ys) {p q n : Int} (hp : okI p) (hq0 : okI q) (hn : okI n) : Ct E (RC E g0) yX3_regionAlike wsX3_regionAlike rX3_regionAlike [eA E 74, .int (iI a), .int (iI p), .int (iI b), .int (iI q), .int (iI n)] S (some (.int (iI (bI (agr false xs ys p q n))))) S := by
  refine ct_of [(0, _), (1, _), (2, _), (3, _), (4, _), (5, _)] hE (by decide) rfl (Nat.le_of_ble_eq_true rfl) rfl (fun X h hq => ?_)
  refine j_of (fun G hG => RC_okS hG) (fun hS0 => ?_)
  refine j_of (fun G hG => RC_lens hG) (fun hLL => ?_)
  have hsa := sh_lt hS0 a
  have hlxs := hLL (sh S a) (by omega)
  rw [hxs, cap_lo (by omega)] at hlxs
  have hsb := sh_lt hS0 b
  have hlys := hLL (sh S b) (by omega)
  rw [hys, cap_lo (by omega)] at hlys
  refine j_aload_n h 0 dX3_regionAlike_0 rfl rfl ?_
  refine jg_Snow h a_f_X3_10 dX3_regionAlike_1 ?_
  refine j_iload_n h 1 dX3_regionAlike_4 rfl rfl ?_
  refine j_callV h (c_X0_text hE ha) m_X0_text a_l_X3_39 rfl rfl ⟨Nat.le_of_ble_eq_true rfl, Nat.le_of_ble_eq_true rfl⟩ (ci := 0) rfl (by omega) (rcI (i := 0) (by omega)) rfl rfl (Nat.le_of_ble_eq_true rfl) dX3_regionAlike_5 ?_
  refine j_iload_n h 2 dX3_regionAlike_8 rfl rfl ?_
  refine j_aload_n h 0 dX3_regionAlike_9 rfl rfl ?_
  refine jg_Snow h a_f_X3_10 dX3_regionAlike_10 ?_
  refine j_iload_n h 3 dX3_regionAlike_13 rfl rfl ?_
  refine j_callV h (c_X0_text hE hb) m_X0_text a_l_X3_39 rfl rfl ⟨Nat.le_of_ble_eq_true rfl, Nat.le_of_ble_eq_true rfl⟩ (ci := 0) rfl (by omega) (rcI (i := 0) (by omega)) rfl rfl (Nat.le_of_ble_eq_true rfl) dX3_regionAlike_14 ?_
  refine j_iload h 4 dX3_regionAlike_17 rfl ?_
  refine j_iload h 5 dX3_regionAlike_19 rfl ?_
  refine j_iconst h dX3_regionAlike_21 ?_
  refine j_callV h (c_X2_agrees hE (by omega) hxs (by omega) hys hp hq0 hn false) m_X2_agrees a_l_X3_149 rfl rfl ⟨Nat.le_of_ble_eq_true rfl, Nat.le_of_ble_eq_true rfl⟩ (ci := 2) rfl (by omega) (rcT (by omega)) rfl rfl (Nat.le_of_ble_eq_true rfl) dX3_regionAlike_22 ?_
  exact j_zret h hq rfl (by first | exact nzb true | exact nzb false | exact nzb _) dX3_regionAlike_25
set_option maxHeartbeats 400000 in
set_option maxRecDepth 20000 in
theorem c_X3_same {E : EV} (hE : EOK E) {S : SC} {g0 : GH} {a : Int} (ha : okI a) {xs : List Int32} (hxs : S.1 (sh S a) = xs) {b : Int} (hb : okI b) {ys : List Int32} (hys : S.1 (sh S b) = ys)  : Ct E (RC E g0) yX3_same wsX3_same rX3_same [eA E 74, .int (iI a), .int (iI b)] S (some (.int (iI (bI (who true xs ys))))) S := by
  refine ct_of [(0, _), (1, _), (2, _)] hE (by decide) rfl (Nat.le_of_ble_eq_true rfl) rfl (fun X h hq => ?_)
  refine j_of (fun G hG => RC_okS hG) (fun hS0 => ?_)
  refine j_of (fun G hG => RC_lens hG) (fun hLL => ?_)
  have hsa := sh_lt hS0 a
  have hlxs := hLL (sh S a) (by omega)
  rw [hxs, cap_lo (by omega)] at hlxs
  have hsb := sh_lt hS0 b
  have hlys := hLL (sh S b) (by omega)
  rw [hys, cap_lo (by omega)] at hlys
  refine j_aload_n h 0 dX3_same_0 rfl rfl ?_
  refine jg_Snow h a_f_X3_10 dX3_same_1 ?_
  refine j_iload_n h 1 dX3_same_4 rfl rfl ?_
  refine j_callV h (c_X0_text hE ha) m_X0_text a_l_X3_39 rfl rfl ⟨Nat.le_of_ble_eq_true rfl, Nat.le_of_ble_eq_true rfl⟩ (ci := 0) rfl (by omega) (rcI (i := 0) (by omega)) rfl rfl (Nat.le_of_ble_eq_true rfl) dX3_same_5 ?_
  refine j_aload_n h 0 dX3_same_8 rfl rfl ?_
  refine jg_Snow h a_f_X3_10 dX3_same_9 ?_
  refine j_iload_n h 2 dX3_same_12 rfl rfl ?_
  refine j_callV h (c_X0_text hE hb) m_X0_text a_l_X3_39 rfl rfl ⟨Nat.le_of_ble_eq_true rfl, Nat.le_of_ble_eq_true rfl⟩ (ci := 0) rfl (by omega) (rcI (i := 0) (by omega)) rfl rfl (Nat.le_of_ble_eq_true rfl) dX3_same_13 ?_
  refine j_iconst h dX3_same_16 ?_
  refine j_callV h (c_X2_agreesWholly hE (by omega) hxs (by omega) hys true) m_X2_agreesWholly a_l_X3_153 rfl rfl ⟨Nat.le_of_ble_eq_true rfl, Nat.le_of_ble_eq_true rfl⟩ (ci := 2) rfl (by omega) (rcT (by omega)) rfl rfl (Nat.le_of_ble_eq_true rfl) dX3_same_17 ?_
  exact j_zret h hq rfl (by first | exact nzb true | exact nzb false | exact nzb _) dX3_same_20
set_option maxHeartbeats 400000 in
set_option maxRecDepth 20000 in
theorem c_X3_alike {E : EV} (hE : EOK E) {S : SC} {g0 : GH} {a : Int} (ha : okI a) {xs : List Int32} (hxs : S.1 (sh S a) = xs) {b : Int} (hb : okI b) {ys : List Int32} (hys : S.1 (sh S b) = ys)  : Ct E (RC E g0) yX3_alike wsX3_alike rX3_alike [eA E 74, .int (iI a), .int (iI b)] S (some (.int (iI (bI (who false xs ys))))) S := by
  refine ct_of [(0, _), (1, _), (2, _)] hE (by decide) rfl (Nat.le_of_ble_eq_true rfl) rfl (fun X h hq => ?_)
  refine j_of (fun G hG => RC_okS hG) (fun hS0 => ?_)
  refine j_of (fun G hG => RC_lens hG) (fun hLL => ?_)
  have hsa := sh_lt hS0 a
  have hlxs := hLL (sh S a) (by omega)
  rw [hxs, cap_lo (by omega)] at hlxs
  have hsb := sh_lt hS0 b
  have hlys := hLL (sh S b) (by omega)
  rw [hys, cap_lo (by omega)] at hlys
  refine j_aload_n h 0 dX3_alike_0 rfl rfl ?_
  refine jg_Snow h a_f_X3_10 dX3_alike_1 ?_
  refine j_iload_n h 1 dX3_alike_4 rfl rfl ?_
  refine j_callV h (c_X0_text hE ha) m_X0_text a_l_X3_39 rfl rfl ⟨Nat.le_of_ble_eq_true rfl, Nat.le_of_ble_eq_true rfl⟩ (ci := 0) rfl (by omega) (rcI (i := 0) (by omega)) rfl rfl (Nat.le_of_ble_eq_true rfl) dX3_alike_5 ?_
  refine j_aload_n h 0 dX3_alike_8 rfl rfl ?_
  refine jg_Snow h a_f_X3_10 dX3_alike_9 ?_
  refine j_iload_n h 2 dX3_alike_12 rfl rfl ?_
  refine j_callV h (c_X0_text hE hb) m_X0_text a_l_X3_39 rfl rfl ⟨Nat.le_of_ble_eq_true rfl, Nat.le_of_ble_eq_true rfl⟩ (ci := 0) rfl (by omega) (rcI (i := 0) (by omega)) rfl rfl (Nat.le_of_ble_eq_true rfl) dX3_alike_13 ?_
  refine j_iconst h dX3_alike_16 ?_
  refine j_callV h (c_X2_agreesWholly hE (by omega) hxs (by omega) hys false) m_X2_agreesWholly a_l_X3_153 rfl rfl ⟨Nat.le_of_ble_eq_true rfl, Nat.le_of_ble_eq_true rfl⟩ (ci := 2) rfl (by omega) (rcT (by omega)) rfl rfl (Nat.le_of_ble_eq_true rfl) dX3_alike_17 ?_
  exact j_zret h hq rfl (by first | exact nzb true | exact nzb false | exact nzb _) dX3_alike_20
set_option maxHeartbeats 400000 in
set_option maxRecDepth 20000 in
theorem c_X3_compare {E : EV} (hE : EOK E) {S : SC} {g0 : GH} {a : Int} (ha : okI a) {xs : List Int32} (hxs : S.1 (sh S a) = xs) {b : Int} (hb : okI b) {ys : List Int32} (hys : S.1 (sh S b) = ys)  : Ct E (RC E g0) yX3_compare wsX3_compare rX3_compare [eA E 74, .int (iI a), .int (iI b)] S (some (.int (orI true xs ys))) S := by
  refine ct_of [(0, _), (1, _), (2, _)] hE (by decide) rfl (Nat.le_of_ble_eq_true rfl) rfl (fun X h hq => ?_)
  refine j_of (fun G hG => RC_okS hG) (fun hS0 => ?_)
  refine j_of (fun G hG => RC_lens hG) (fun hLL => ?_)
  have hsa := sh_lt hS0 a
  have hlxs := hLL (sh S a) (by omega)
  rw [hxs, cap_lo (by omega)] at hlxs
  have hsb := sh_lt hS0 b
  have hlys := hLL (sh S b) (by omega)
  rw [hys, cap_lo (by omega)] at hlys
  refine j_aload_n h 0 dX3_compare_0 rfl rfl ?_
  refine jg_Snow h a_f_X3_10 dX3_compare_1 ?_
  refine j_iload_n h 1 dX3_compare_4 rfl rfl ?_
  refine j_callV h (c_X0_text hE ha) m_X0_text a_l_X3_39 rfl rfl ⟨Nat.le_of_ble_eq_true rfl, Nat.le_of_ble_eq_true rfl⟩ (ci := 0) rfl (by omega) (rcI (i := 0) (by omega)) rfl rfl (Nat.le_of_ble_eq_true rfl) dX3_compare_5 ?_
  refine j_aload_n h 0 dX3_compare_8 rfl rfl ?_
  refine jg_Snow h a_f_X3_10 dX3_compare_9 ?_
  refine j_iload_n h 2 dX3_compare_12 rfl rfl ?_
  refine j_callV h (c_X0_text hE hb) m_X0_text a_l_X3_39 rfl rfl ⟨Nat.le_of_ble_eq_true rfl, Nat.le_of_ble_eq_true rfl⟩ (ci := 0) rfl (by omega) (rcI (i := 0) (by omega)) rfl rfl (Nat.le_of_ble_eq_true rfl) dX3_compare_13 ?_
  refine j_iconst h dX3_compare_16 ?_
  refine j_callV h (c_X2_order hE (by omega) hxs (by omega) hys true) m_X2_order a_l_X3_157 rfl rfl ⟨Nat.le_of_ble_eq_true rfl, Nat.le_of_ble_eq_true rfl⟩ (ci := 2) rfl (by omega) (rcT (by omega)) rfl rfl (Nat.le_of_ble_eq_true rfl) dX3_compare_17 ?_
  exact j_iret h hq rfl dX3_compare_20
set_option maxHeartbeats 400000 in
set_option maxRecDepth 20000 in
theorem c_X3_compareAlike {E : EV} (hE : EOK E) {S : SC} {g0 : GH} {a : Int} (ha : okI a) {xs : List Int32} (hxs : S.1 (sh S a) = xs) {b : Int} (hb : okI b) {ys : List Int32} (hys : S.1 (sh S b) = ys)  : Ct E (RC E g0) yX3_compareAlike wsX3_compareAlike rX3_compareAlike [eA E 74, .int (iI a), .int (iI b)] S (some (.int (iI (cmpI (orI false xs ys).toInt 0)))) S := by
  refine ct_of [(0, _), (1, _), (2, _)] hE (by decide) rfl (Nat.le_of_ble_eq_true rfl) rfl (fun X h hq => ?_)
  refine j_of (fun G hG => RC_okS hG) (fun hS0 => ?_)
  refine j_of (fun G hG => RC_lens hG) (fun hLL => ?_)
  have hsa := sh_lt hS0 a
  have hlxs := hLL (sh S a) (by omega)
  rw [hxs, cap_lo (by omega)] at hlxs
  have hsb := sh_lt hS0 b
  have hlys := hLL (sh S b) (by omega)
  rw [hys, cap_lo (by omega)] at hlys
  refine j_aload_n h 0 dX3_compareAlike_0 rfl rfl ?_
  refine jg_Snow h a_f_X3_10 dX3_compareAlike_1 ?_
  refine j_iload_n h 1 dX3_compareAlike_4 rfl rfl ?_
  refine j_callV h (c_X0_text hE ha) m_X0_text a_l_X3_39 rfl rfl ⟨Nat.le_of_ble_eq_true rfl, Nat.le_of_ble_eq_true rfl⟩ (ci := 0) rfl (by omega) (rcI (i := 0) (by omega)) rfl rfl (Nat.le_of_ble_eq_true rfl) dX3_compareAlike_5 ?_
  refine j_aload_n h 0 dX3_compareAlike_8 rfl rfl ?_
  refine jg_Snow h a_f_X3_10 dX3_compareAlike_9 ?_
  refine j_iload_n h 2 dX3_compareAlike_12 rfl rfl ?_
  refine j_callV h (c_X0_text hE hb) m_X0_text a_l_X3_39 rfl rfl ⟨Nat.le_of_ble_eq_true rfl, Nat.le_of_ble_eq_true rfl⟩ (ci := 0) rfl (by omega) (rcI (i := 0) (by omega)) rfl rfl (Nat.le_of_ble_eq_true rfl) dX3_compareAlike_13 ?_
  refine j_iconst h dX3_compareAlike_16 ?_
  refine j_callV h (c_X2_order hE (by omega) hxs (by omega) hys false) m_X2_order a_l_X3_157 rfl rfl ⟨Nat.le_of_ble_eq_true rfl, Nat.le_of_ble_eq_true rfl⟩ (ci := 2) rfl (by omega) (rcT (by omega)) rfl rfl (Nat.le_of_ble_eq_true rfl) dX3_compareAlike_17 ?_
  refine j_top (iI_of _).symm ?_
  refine j_iconst h dX3_compareAlike_20 ?_
  refine j_callS h (c_J6_compare_7cf53 hE (okI_of _) ⟨by decide, by decide⟩) m_J6_compare_7cf53 a_l_X3_161 rfl rfl ⟨Nat.le_of_ble_eq_true rfl, Nat.le_of_ble_eq_true rfl⟩ rfl rfl (Nat.le_of_ble_eq_true rfl) dX3_compareAlike_21 ?_
  exact j_iret h hq rfl dX3_compareAlike_24
set_option maxHeartbeats 400000 in
set_option maxRecDepth 20000 in
theorem c_X3_count {E : EV} (hE : EOK E) {S : SC} {g0 : GH} {a : Int} (ha : okI a) {xs : List Int32} (hxs : S.1 (sh S a) = xs) {b : Int} (hb : okI b) {ys : List Int32} (hys : S.1 (sh S b) = ys) : Ct E (RC E g0) yX3_count wsX3_count rX3_count [eA E 74, .int (iI a), .int (iI b)] S (some (.int (iI (cnI xs ys)))) S := by
  refine ct_of [(0, _), (1, _), (2, _)] hE (by decide) rfl (Nat.le_of_ble_eq_true rfl) rfl (fun X h hq => ?_)
  refine j_of (fun G hG => RC_okS hG) (fun hS0 => ?_)
  refine j_of (fun G hG => RC_lens hG) (fun hLL => ?_)
  have hsa := sh_lt hS0 a
  have hlxs := hLL (sh S a) (by omega)
  rw [hxs, cap_lo (by omega)] at hlxs
  have hsb := sh_lt hS0 b
  have hlys := hLL (sh S b) (by omega)
  rw [hys, cap_lo (by omega)] at hlys
  refine j_aload_n h 0 dX3_count_0 rfl rfl ?_
  refine jg_Snow h a_f_X3_10 dX3_count_1 ?_
  refine j_iload_n h 2 dX3_count_4 rfl rfl ?_
  refine j_callV h (c_X0_text hE hb) m_X0_text a_l_X3_39 rfl rfl ⟨Nat.le_of_ble_eq_true rfl, Nat.le_of_ble_eq_true rfl⟩ (ci := 0) rfl (by omega) (rcI (i := 0) (by omega)) rfl rfl (Nat.le_of_ble_eq_true rfl) dX3_count_5 ?_
  refine j_astore_n h [(3, _), (0, _), (1, _), (2, _)] dX3_count_8 rfl (by decide) rfl ?_
  refine j_aload_n h 0 dX3_count_9 rfl rfl ?_
  refine j_callV h (c_X2_size hE (by omega) hys) m_X2_size a_l_X3_43 rfl rfl ⟨Nat.le_of_ble_eq_true rfl, Nat.le_of_ble_eq_true rfl⟩ (ci := 2) rfl (by omega) (rcT (by omega)) rfl rfl (Nat.le_of_ble_eq_true rfl) dX3_count_10 ?_
  refine j_if_ne h 19 dX3_count_13 (by decide) (by first | exact okI_of _ | exact okI_b _ | exact okI_sgz _ _ | assumption | (unfold okI; omega)) (fun c13 => ?_) (fun c13 => ?_)
  · refine j_aload_n h 1 dX3_count_19 rfl rfl ?_
    refine jg_Snow h a_f_X3_10 dX3_count_20 ?_
    refine j_iload_n h 2 dX3_count_23 rfl rfl ?_
    refine j_callV h (c_X0_text hE ha) m_X0_text a_l_X3_39 rfl rfl ⟨Nat.le_of_ble_eq_true rfl, Nat.le_of_ble_eq_true rfl⟩ (ci := 0) rfl (by omega) (rcI (i := 0) (by omega)) rfl rfl (Nat.le_of_ble_eq_true rfl) dX3_count_24 ?_
    refine j_aload_n h 0 dX3_count_27 rfl rfl ?_
    refine j_callV h (c_X2_finds hE (by omega) hxs (by omega) hys) m_X2_finds a_l_X3_169 rfl rfl ⟨Nat.le_of_ble_eq_true rfl, Nat.le_of_ble_eq_true rfl⟩ (ci := 2) rfl (by omega) (rcT (by omega)) rfl rfl (Nat.le_of_ble_eq_true rfl) dX3_count_28 ?_
    exact j_iret h hq (by unfold cnI; rw [if_neg (by omega)]) dX3_count_31
  · refine j_ldc h (-1000001) a_k_X3_54 (by decide) dX3_count_16 ?_
    exact j_iret h hq (by unfold cnI; rw [if_pos (by omega)]) dX3_count_18
set_option maxHeartbeats 400000 in
set_option maxRecDepth 20000 in
theorem c_X3_head {E : EV} (hE : EOK E) {S : SC} {g0 : GH} {a : Int} (ha : okI a) {xs : List Int32} (hxs : S.1 (sh S a) = xs) {b : Int} (hb : okI b) {ys : List Int32} (hys : S.1 (sh S b) = ys)  : Ct E (RC E g0) yX3_head wsX3_head rX3_head [eA E 74, .int (iI a), .int (iI b)] S (some (.int (iI (sfr xs ys 0 (min xs.length ys.length) : Nat)))) S := by
  refine ct_of [(0, _), (1, _), (2, _)] hE (by decide) rfl (Nat.le_of_ble_eq_true rfl) rfl (fun X h hq => ?_)
  refine j_of (fun G hG => RC_okS hG) (fun hS0 => ?_)
  refine j_of (fun G hG => RC_lens hG) (fun hLL => ?_)
  have hsa := sh_lt hS0 a
  have hlxs := hLL (sh S a) (by omega)
  rw [hxs, cap_lo (by omega)] at hlxs
  have hsb := sh_lt hS0 b
  have hlys := hLL (sh S b) (by omega)
  rw [hys, cap_lo (by omega)] at hlys
  refine j_aload_n h 0 dX3_head_0 rfl rfl ?_
  refine jg_Snow h a_f_X3_10 dX3_head_1 ?_
  refine j_iload_n h 1 dX3_head_4 rfl rfl ?_
  refine j_callV h (c_X0_text hE ha) m_X0_text a_l_X3_39 rfl rfl ⟨Nat.le_of_ble_eq_true rfl, Nat.le_of_ble_eq_true rfl⟩ (ci := 0) rfl (by omega) (rcI (i := 0) (by omega)) rfl rfl (Nat.le_of_ble_eq_true rfl) dX3_head_5 ?_
  refine j_aload_n h 0 dX3_head_8 rfl rfl ?_
  refine jg_Snow h a_f_X3_10 dX3_head_9 ?_
  refine j_iload_n h 2 dX3_head_12 rfl rfl ?_
  refine j_callV h (c_X0_text hE hb) m_X0_text a_l_X3_39 rfl rfl ⟨Nat.le_of_ble_eq_true rfl, Nat.le_of_ble_eq_true rfl⟩ (ci := 0) rfl (by omega) (rcI (i := 0) (by omega)) rfl rfl (Nat.le_of_ble_eq_true rfl) dX3_head_13 ?_
  refine j_callV h (c_X2_sharedFront hE (by omega) hxs (by omega) hys) m_X2_sharedFront a_l_X3_208 rfl rfl ⟨Nat.le_of_ble_eq_true rfl, Nat.le_of_ble_eq_true rfl⟩ (ci := 2) rfl (by omega) (rcT (by omega)) rfl rfl (Nat.le_of_ble_eq_true rfl) dX3_head_16 ?_
  exact j_iret h hq rfl dX3_head_19
set_option maxHeartbeats 400000 in
set_option maxRecDepth 20000 in
theorem c_X3_foot {E : EV} (hE : EOK E) {S : SC} {g0 : GH} {a : Int} (ha : okI a) {xs : List Int32} (hxs : S.1 (sh S a) = xs) {b : Int} (hb : okI b) {ys : List Int32} (hys : S.1 (sh S b) = ys)  : Ct E (RC E g0) yX3_foot wsX3_foot rX3_foot [eA E 74, .int (iI a), .int (iI b)] S (some (.int (iI (srr xs ys 0 (min xs.length ys.length) : Nat)))) S := by
  refine ct_of [(0, _), (1, _), (2, _)] hE (by decide) rfl (Nat.le_of_ble_eq_true rfl) rfl (fun X h hq => ?_)
  refine j_of (fun G hG => RC_okS hG) (fun hS0 => ?_)
  refine j_of (fun G hG => RC_lens hG) (fun hLL => ?_)
  have hsa := sh_lt hS0 a
  have hlxs := hLL (sh S a) (by omega)
  rw [hxs, cap_lo (by omega)] at hlxs
  have hsb := sh_lt hS0 b
  have hlys := hLL (sh S b) (by omega)
  rw [hys, cap_lo (by omega)] at hlys
  refine j_aload_n h 0 dX3_foot_0 rfl rfl ?_
  refine jg_Snow h a_f_X3_10 dX3_foot_1 ?_
  refine j_iload_n h 1 dX3_foot_4 rfl rfl ?_
  refine j_callV h (c_X0_text hE ha) m_X0_text a_l_X3_39 rfl rfl ⟨Nat.le_of_ble_eq_true rfl, Nat.le_of_ble_eq_true rfl⟩ (ci := 0) rfl (by omega) (rcI (i := 0) (by omega)) rfl rfl (Nat.le_of_ble_eq_true rfl) dX3_foot_5 ?_
  refine j_aload_n h 0 dX3_foot_8 rfl rfl ?_
  refine jg_Snow h a_f_X3_10 dX3_foot_9 ?_
  refine j_iload_n h 2 dX3_foot_12 rfl rfl ?_
  refine j_callV h (c_X0_text hE hb) m_X0_text a_l_X3_39 rfl rfl ⟨Nat.le_of_ble_eq_true rfl, Nat.le_of_ble_eq_true rfl⟩ (ci := 0) rfl (by omega) (rcI (i := 0) (by omega)) rfl rfl (Nat.le_of_ble_eq_true rfl) dX3_foot_13 ?_
  refine j_callV h (c_X2_sharedRear hE (by omega) hxs (by omega) hys) m_X2_sharedRear a_l_X3_211 rfl rfl ⟨Nat.le_of_ble_eq_true rfl, Nat.le_of_ble_eq_true rfl⟩ (ci := 2) rfl (by omega) (rcT (by omega)) rfl rfl (Nat.le_of_ble_eq_true rfl) dX3_foot_16 ?_
  exact j_iret h hq rfl dX3_foot_19
set_option maxHeartbeats 400000 in
set_option maxRecDepth 20000 in
theorem c_X3_pieces {E : EV} (hE : EOK E) {S : SC} {g0 : GH} {es : List Nat} (hs : S.2.2 0 = es) : Ct E (RC E g0) yX3_pieces wsX3_pieces rX3_pieces [eA E 74] S (some (.int (iI es.length))) S := by
  refine ct_of [(0, _)] hE (by decide) rfl (Nat.le_of_ble_eq_true rfl) rfl (fun X h hq => ?_)
  refine j_aload_n h 0 dX3_pieces_0 rfl rfl ?_
  refine jg_Snow h a_f_X3_10 dX3_pieces_1 ?_
  refine jgN_Iparts h (by decide) (i := 0) (by omega) dX3_pieces_4 ?_
  refine j_callV h (c_X1_size hE (p := 0) (by omega) hs) m_X1_size a_l_X3_197 rfl rfl ⟨Nat.le_of_ble_eq_true rfl, Nat.le_of_ble_eq_true rfl⟩ (ci := 1) rfl (by omega) (rcP (by omega)) rfl rfl (Nat.le_of_ble_eq_true rfl) dX3_pieces_7 ?_
  exact j_iret h hq rfl dX3_pieces_10
end

section
-- ===== PART A: goes FIRST, ahead of the names: the tables' words, and 'selects' of the private methods out of them =====
/-- a private method of a class that the tables say can be made, by its rows of tables_1 -/
def lw_okq (q : MethodName × Nat) : Prop := (q.1.cls ≠ "java/lang/invoke/MethodHandle" ∧ q.1.cls ≠ "java/lang/invoke/VarHandle") ∧ Cond.instantiable q.1.cls q.2 ∈ tables_1 ∧ Cond.privateMethod q.1 ∈ tables_1 ∧ Cond.instanceMethod q.1 ∈ tables_1
theorem lw_p0 : lw_okq (⟨"DrillCores", "met", "(I)I"⟩, 6) := ⟨⟨by decide +kernel, by decide +kernel⟩, List.mem_of_getElem? (i := 11) (by decide +kernel), List.mem_of_getElem? (i := 78) (by decide +kernel), List.mem_of_getElem? (i := 79) (by decide +kernel)⟩
theorem lw_p1 : lw_okq (⟨"DrillCores", "walk", "(IIIII)I"⟩, 6) := ⟨⟨by decide +kernel, by decide +kernel⟩, List.mem_of_getElem? (i := 11) (by decide +kernel), List.mem_of_getElem? (i := 132) (by decide +kernel), List.mem_of_getElem? (i := 133) (by decide +kernel)⟩
theorem lw_p2 : lw_okq (⟨"DrillCores", "rowThere", "(IIIII)LDrillCores$Row;"⟩, 6) := ⟨⟨by decide +kernel, by decide +kernel⟩, List.mem_of_getElem? (i := 11) (by decide +kernel), List.mem_of_getElem? (i := 163) (by decide +kernel), List.mem_of_getElem? (i := 164) (by decide +kernel)⟩
theorem lw_p3 : lw_okq (⟨"DrillCores$Row", "causeAtNumber", "(III)I"⟩, 5) := ⟨⟨by decide +kernel, by decide +kernel⟩, List.mem_of_getElem? (i := 81) (by decide +kernel), List.mem_of_getElem? (i := 176) (by decide +kernel), List.mem_of_getElem? (i := 177) (by decide +kernel)⟩
theorem lw_p4 : lw_okq (⟨"DrillCores", "boxesInUse", "()I"⟩, 6) := ⟨⟨by decide +kernel, by decide +kernel⟩, List.mem_of_getElem? (i := 11) (by decide +kernel), List.mem_of_getElem? (i := 303) (by decide +kernel), List.mem_of_getElem? (i := 304) (by decide +kernel)⟩
theorem lw_p5 : lw_okq (⟨"DrillCoresModel", "fails", "(I)I"⟩, 14) := ⟨⟨by decide +kernel, by decide +kernel⟩, List.mem_of_getElem? (i := 307) (by decide +kernel), List.mem_of_getElem? (i := 369) (by decide +kernel), List.mem_of_getElem? (i := 370) (by decide +kernel)⟩
theorem lw_p6 : lw_okq (⟨"DrillCoresModel", "go", "(IIIII)I"⟩, 14) := ⟨⟨by decide +kernel, by decide +kernel⟩, List.mem_of_getElem? (i := 307) (by decide +kernel), List.mem_of_getElem? (i := 389) (by decide +kernel), List.mem_of_getElem? (i := 390) (by decide +kernel)⟩
theorem lw_p7 : lw_okq (⟨"DrillCoresModel", "wantRow", "()I"⟩, 14) := ⟨⟨by decide +kernel, by decide +kernel⟩, List.mem_of_getElem? (i := 307) (by decide +kernel), List.mem_of_getElem? (i := 397) (by decide +kernel), List.mem_of_getElem? (i := 398) (by decide +kernel)⟩
theorem lw_p8 : lw_okq (⟨"DrillCoresModel", "goToNumber", "(IIIII)I"⟩, 14) := ⟨⟨by decide +kernel, by decide +kernel⟩, List.mem_of_getElem? (i := 307) (by decide +kernel), List.mem_of_getElem? (i := 405) (by decide +kernel), List.mem_of_getElem? (i := 406) (by decide +kernel)⟩
theorem lw_p9 : lw_okq (⟨"DrillCoresModel", "goToRow", "(IIII)I"⟩, 14) := ⟨⟨by decide +kernel, by decide +kernel⟩, List.mem_of_getElem? (i := 307) (by decide +kernel), List.mem_of_getElem? (i := 409) (by decide +kernel), List.mem_of_getElem? (i := 410) (by decide +kernel)⟩
theorem lw_p10 : lw_okq (⟨"DrillCoresModel", "fits", "(II)Z"⟩, 14) := ⟨⟨by decide +kernel, by decide +kernel⟩, List.mem_of_getElem? (i := 307) (by decide +kernel), List.mem_of_getElem? (i := 463) (by decide +kernel), List.mem_of_getElem? (i := 464) (by decide +kernel)⟩
theorem lw_p11 : lw_okq (⟨"DrillCoresModel", "pourOne", "(III)I"⟩, 14) := ⟨⟨by decide +kernel, by decide +kernel⟩, List.mem_of_getElem? (i := 307) (by decide +kernel), List.mem_of_getElem? (i := 483) (by decide +kernel), List.mem_of_getElem? (i := 484) (by decide +kernel)⟩
theorem lw_p12 : lw_okq (⟨"DrillCoresModel", "goOverAll", "(I)V"⟩, 14) := ⟨⟨by decide +kernel, by decide +kernel⟩, List.mem_of_getElem? (i := 307) (by decide +kernel), List.mem_of_getElem? (i := 495) (by decide +kernel), List.mem_of_getElem? (i := 496) (by decide +kernel)⟩
theorem lw_p13 : lw_okq (⟨"DrillCoresModel", "goOver", "(I)V"⟩, 14) := ⟨⟨by decide +kernel, by decide +kernel⟩, List.mem_of_getElem? (i := 307) (by decide +kernel), List.mem_of_getElem? (i := 499) (by decide +kernel), List.mem_of_getElem? (i := 500) (by decide +kernel)⟩
theorem lw_p14 : lw_okq (⟨"DrillCoresModel", "goOverTwo", "(I)V"⟩, 14) := ⟨⟨by decide +kernel, by decide +kernel⟩, List.mem_of_getElem? (i := 307) (by decide +kernel), List.mem_of_getElem? (i := 503) (by decide +kernel), List.mem_of_getElem? (i := 504) (by decide +kernel)⟩
def lw_privs_1 : List (MethodName × Nat) := [(⟨"DrillCores", "met", "(I)I"⟩, 6), (⟨"DrillCores", "walk", "(IIIII)I"⟩, 6), (⟨"DrillCores", "rowThere", "(IIIII)LDrillCores$Row;"⟩, 6), (⟨"DrillCores$Row", "causeAtNumber", "(III)I"⟩, 5), (⟨"DrillCores", "boxesInUse", "()I"⟩, 6), (⟨"DrillCoresModel", "fails", "(I)I"⟩, 14), (⟨"DrillCoresModel", "go", "(IIIII)I"⟩, 14), (⟨"DrillCoresModel", "wantRow", "()I"⟩, 14), (⟨"DrillCoresModel", "goToNumber", "(IIIII)I"⟩, 14), (⟨"DrillCoresModel", "goToRow", "(IIII)I"⟩, 14), (⟨"DrillCoresModel", "fits", "(II)Z"⟩, 14), (⟨"DrillCoresModel", "pourOne", "(III)I"⟩, 14), (⟨"DrillCoresModel", "goOverAll", "(I)V"⟩, 14), (⟨"DrillCoresModel", "goOver", "(I)V"⟩, 14), (⟨"DrillCoresModel", "goOverTwo", "(I)V"⟩, 14)]
theorem lw_r1 : ∀ q ∈ lw_privs_1, lw_okq q := List.forall_mem_cons.mpr ⟨lw_p0, List.forall_mem_cons.mpr ⟨lw_p1, List.forall_mem_cons.mpr ⟨lw_p2, List.forall_mem_cons.mpr ⟨lw_p3, List.forall_mem_cons.mpr ⟨lw_p4, List.forall_mem_cons.mpr ⟨lw_p5, List.forall_mem_cons.mpr ⟨lw_p6, List.forall_mem_cons.mpr ⟨lw_p7, List.forall_mem_cons.mpr ⟨lw_p8, List.forall_mem_cons.mpr ⟨lw_p9, List.forall_mem_cons.mpr ⟨lw_p10, List.forall_mem_cons.mpr ⟨lw_p11, List.forall_mem_cons.mpr ⟨lw_p12, List.forall_mem_cons.mpr ⟨lw_p13, List.forall_mem_cons.mpr ⟨lw_p14, fun _ h => absurd h List.not_mem_nil⟩⟩⟩⟩⟩⟩⟩⟩⟩⟩⟩⟩⟩⟩⟩
def lw_privs : List (MethodName × Nat) := lw_privs_1
def lw_tbl : List Cond := k2_sels lw_privs ++ tables_1
theorem lw_privs_ok : ∀ q ∈ lw_privs, lw_okq q := lw_r1
/-- the streams that the claim lets the run draw from -/
abbrev lw_cs : List Choice := [Jvm.Choice.named "NaN.bits", Jvm.Choice.named "NaN.copy"]
theorem lw_bits : nanBits ∈ lw_cs := by first | decide | exact List.mem_cons_self | simp [lw_cs, nanBits]
end
section
/-! ===== BEGIN words of one list among another's, by their places ===== -/
theorem goodIn_r {big : List Cond} (ws : List Cond) (ps : List Nat) (hp : ws = ps.filterMap (fun i => big[i]?)) (h : ws.all goodWord = true) : GoodIn big ws := by
  intro w hw
  have h1 := List.all_eq_true.mp h w hw
  rw [hp] at hw
  obtain ⟨i, -, hi⟩ := List.mem_filterMap.mp hw
  have hm : w ∈ big := by first | exact List.mem_of_getElem? hi | exact List.getElem?_mem hi
  exact ⟨hm, good_of_word h1⟩
theorem goodIn_app {big a b : List Cond} (ha : GoodIn big a) (hb : GoodIn big b) : GoodIn big (a ++ b) := fun w h => (List.mem_append.mp h).elim (ha w) (hb w)
theorem goodIn_ca {big a b : List Cond} {c : Cond} (ha : GoodIn big (c :: a)) (hb : GoodIn big b) : GoodIn big (c :: (a ++ b)) := fun w h => (List.mem_cons.mp h).elim (fun e => ha w (List.mem_cons.mpr (Or.inl e))) (fun h => (List.mem_append.mp h).elim (fun h => ha w (List.mem_cons.mpr (Or.inr h))) (hb w))
theorem goodIn_sub {big ws : List Cond} (hm : ∀ w ∈ ws, w ∈ big) (h : ws.all goodWord = true) : GoodIn big ws := fun w hw => ⟨hm w hw, good_of_word (List.all_eq_true.mp h w hw)⟩
/-! ===== END ===== -/

/-! ===== BEGIN printed: names, fields, word lists, decode rows ===== -/
def RX0 : String := "DrillCores$Hand"
def TX0 : u_T := fun k => match k with
  | 0 => ("DrillCores$Hand", "row", "LDrillCores$Row;", false)
  | 1 => ("DrillCores$Hand", "onNumber", "Z", false)
  | 2 => ("DrillCores$Hand", "kind", "I", false)
  | 3 => ("DrillCores$Hand", "number", "J", false)
  | _ => ("DrillCores$Hand", "cause", "I", false)
def tyX0 : Nat → FieldType := fun k => match k with
  | 0 => .object "DrillCores$Row"
  | 1 => .boolean
  | 2 => .int
  | 3 => .long
  | _ => .int
abbrev wsX00 : List Cond := u_ws RX0 TX0 5
theorem nmX0 : ∀ a, a < 5 → ∀ b, b < 5 → a ≠ b → (TX0 a).2.1 ≠ (TX0 b).2.1 := by decide +kernel
theorem tyX0_ok : ∀ k, k < 5 → parseFieldDescriptor (TX0 k).2.2.1 = some (tyX0 k) := by decide +kernel
abbrev cX0_init : ByteArray := prog_2_method_1_code
def yX0_init : MethodName := ⟨RX0, "<init>", "()V"⟩
abbrev cX0_startAt : ByteArray := prog_2_method_2_code
def yX0_startAt : MethodName := ⟨RX0, "startAt", "(LDrillCores$Row;)V"⟩
abbrev cX0_stepTo : ByteArray := prog_2_method_3_code
def yX0_stepTo : MethodName := ⟨RX0, "stepTo", "(I)V"⟩
abbrev cX0_wantRow : ByteArray := prog_2_method_4_code
def yX0_wantRow : MethodName := ⟨RX0, "wantRow", "()V"⟩
def RX1 : String := "DrillCores$Numbers"
def TX1 : u_T := fun k => match k with
  | _ => ("", "", "", false)
def tyX1 : Nat → FieldType := fun k => match k with
  | _ => .int
abbrev wsX10 : List Cond := u_ws RX1 TX1 0
theorem nmX1 : ∀ a, a < 0 → ∀ b, b < 0 → a ≠ b → (TX1 a).2.1 ≠ (TX1 b).2.1 := by decide +kernel
theorem tyX1_ok : ∀ k, k < 0 → parseFieldDescriptor (TX1 k).2.2.1 = some (tyX1 k) := by decide +kernel
abbrev cX1_goesInto : ByteArray := prog_3_method_2_code
def yX1_goesInto : MethodName := ⟨RX1, "goesInto", "(II)Z"⟩
abbrev cX1_told : ByteArray := prog_3_method_3_code
def yX1_told : MethodName := ⟨RX1, "told", "(IJ)J"⟩
abbrev cX1_asKind : ByteArray := prog_3_method_4_code
def yX1_asKind : MethodName := ⟨RX1, "asKind", "(JII)J"⟩
abbrev cX1_nearestFloat : ByteArray := prog_3_method_5_code
def yX1_nearestFloat : MethodName := ⟨RX1, "nearestFloat", "(J)J"⟩
abbrev cX1_nearestDouble : ByteArray := prog_3_method_6_code
def yX1_nearestDouble : MethodName := ⟨RX1, "nearestDouble", "(J)J"⟩
abbrev cX1_doubleOfFloat : ByteArray := prog_3_method_7_code
def yX1_doubleOfFloat : MethodName := ⟨RX1, "doubleOfFloat", "(J)J"⟩
abbrev cX1_sizeOf : ByteArray := prog_3_method_8_code
def yX1_sizeOf : MethodName := ⟨RX1, "sizeOf", "(J)J"⟩
abbrev cX1_nearest : ByteArray := prog_3_method_9_code
def yX1_nearest : MethodName := ⟨RX1, "nearest", "(JII)J"⟩
abbrev cX1_roundedOff : ByteArray := prog_3_method_10_code
def yX1_roundedOff : MethodName := ⟨RX1, "roundedOff", "(JI)J"⟩
abbrev cX1_lowBits : ByteArray := prog_3_method_11_code
def yX1_lowBits : MethodName := ⟨RX1, "lowBits", "(I)J"⟩
abbrev cX1_withSign : ByteArray := prog_3_method_12_code
def yX1_withSign : MethodName := ⟨RX1, "withSign", "(JZI)J"⟩
def RX2 : String := "DrillCores$Row"
def TX2 : u_T := fun k => match k with
  | 0 => ("DrillCores$Row", "kind", "I", true)
  | 1 => ("DrillCores$Row", "depth", "I", true)
  | 2 => ("DrillCores$Row", "size", "I", true)
  | 3 => ("DrillCores$Row", "numbers", "[J", true)
  | _ => ("DrillCores$Row", "rows", "[LDrillCores$Row;", true)
def tyX2 : Nat → FieldType := fun k => match k with
  | 0 => .int
  | 1 => .int
  | 2 => .int
  | 3 => .array .long
  | _ => .array (.object "DrillCores$Row")
abbrev wsX20 : List Cond := u_ws RX2 TX2 5
theorem nmX2 : ∀ a, a < 5 → ∀ b, b < 5 → a ≠ b → (TX2 a).2.1 ≠ (TX2 b).2.1 := by decide +kernel
theorem tyX2_ok : ∀ k, k < 5 → parseFieldDescriptor (TX2 k).2.2.1 = some (tyX2 k) := by decide +kernel
abbrev cX2_init : ByteArray := prog_4_method_1_code
def yX2_init : MethodName := ⟨RX2, "<init>", "(III)V"⟩
abbrev cX2_hasNumbers : ByteArray := prog_4_method_2_code
def yX2_hasNumbers : MethodName := ⟨RX2, "hasNumbers", "()Z"⟩
abbrev cX2_hasPlace : ByteArray := prog_4_method_3_code
def yX2_hasPlace : MethodName := ⟨RX2, "hasPlace", "(I)Z"⟩
abbrev cX2_causeToRead : ByteArray := prog_4_method_4_code
def yX2_causeToRead : MethodName := ⟨RX2, "causeToRead", "(II)I"⟩
abbrev cX2_causeToWrite : ByteArray := prog_4_method_5_code
def yX2_causeToWrite : MethodName := ⟨RX2, "causeToWrite", "(II)I"⟩
abbrev cX2_causeAtNumber : ByteArray := prog_4_method_6_code
def yX2_causeAtNumber : MethodName := ⟨RX2, "causeAtNumber", "(III)I"⟩
abbrev cX2_causeToHang : ByteArray := prog_4_method_7_code
def yX2_causeToHang : MethodName := ⟨RX2, "causeToHang", "(ILDrillCores$Row;)I"⟩
abbrev cX2_causeToPour : ByteArray := prog_4_method_8_code
def yX2_causeToPour : MethodName := ⟨RX2, "causeToPour", "(ILDrillCores$Row;)I"⟩
abbrev cX2_pourIn : ByteArray := prog_4_method_9_code
def yX2_pourIn : MethodName := ⟨RX2, "pourIn", "(ILDrillCores$Row;)V"⟩
abbrev cX2_exchange : ByteArray := prog_4_method_10_code
def yX2_exchange : MethodName := ⟨RX2, "exchange", "(II)V"⟩
def RX3 : String := "DrillCores"
def TX3 : u_T := fun k => match k with
  | 0 => ("DrillCores", "boxes", "[LDrillCores$Row;", true)
  | 1 => ("DrillCores", "causesMet", "[I", true)
  | 2 => ("DrillCores", "hand", "LDrillCores$Hand;", true)
  | 3 => ("DrillCores", "rowsMade", "I", false)
  | 4 => ("DrillCores", "lastMoved", "I", false)
  | _ => ("DrillCores", "lastSeen", "J", false)
def tyX3 : Nat → FieldType := fun k => match k with
  | 0 => .array (.object "DrillCores$Row")
  | 1 => .array .int
  | 2 => .object "DrillCores$Hand"
  | 3 => .int
  | 4 => .int
  | _ => .long
abbrev wsX30 : List Cond := u_ws RX3 TX3 6
theorem nmX3 : ∀ a, a < 6 → ∀ b, b < 6 → a ≠ b → (TX3 a).2.1 ≠ (TX3 b).2.1 := by decide +kernel
theorem tyX3_ok : ∀ k, k < 6 → parseFieldDescriptor (TX3 k).2.2.1 = some (tyX3 k) := by decide +kernel
abbrev cX3_init : ByteArray := prog_1_method_1_code
def yX3_init : MethodName := ⟨RX3, "<init>", "()V"⟩
abbrev cX3_make : ByteArray := prog_1_method_2_code
def yX3_make : MethodName := ⟨RX3, "make", "(IIII)I"⟩
abbrev cX3_take : ByteArray := prog_1_method_3_code
def yX3_take : MethodName := ⟨RX3, "take", "(II)I"⟩
abbrev cX3_empty : ByteArray := prog_1_method_4_code
def yX3_empty : MethodName := ⟨RX3, "empty", "(I)I"⟩
abbrev cX3_same : ByteArray := prog_1_method_5_code
def yX3_same : MethodName := ⟨RX3, "same", "(II)I"⟩
abbrev cX3_look : ByteArray := prog_1_method_6_code
def yX3_look : MethodName := ⟨RX3, "look", "(IIIII)I"⟩
abbrev cX3_length : ByteArray := prog_1_method_7_code
def yX3_length : MethodName := ⟨RX3, "length", "(IIIII)I"⟩
abbrev cX3_read : ByteArray := prog_1_method_8_code
def yX3_read : MethodName := ⟨RX3, "read", "(IIIIII)I"⟩
abbrev cX3_write : ByteArray := prog_1_method_9_code
def yX3_write : MethodName := ⟨RX3, "write", "(IIIIIIJ)I"⟩
abbrev cX3_hang : ByteArray := prog_1_method_10_code
def yX3_hang : MethodName := ⟨RX3, "hang", "(IIIIII)I"⟩
abbrev cX3_lift : ByteArray := prog_1_method_11_code
def yX3_lift : MethodName := ⟨RX3, "lift", "(IIIIII)I"⟩
abbrev cX3_turn : ByteArray := prog_1_method_12_code
def yX3_turn : MethodName := ⟨RX3, "turn", "(IIIIII)I"⟩
abbrev cX3_fill : ByteArray := prog_1_method_13_code
def yX3_fill : MethodName := ⟨RX3, "fill", "(IIIIIJ)I"⟩
abbrev cX3_pour : ByteArray := prog_1_method_14_code
def yX3_pour : MethodName := ⟨RX3, "pour", "(II)I"⟩
abbrev cX3_moved : ByteArray := prog_1_method_15_code
def yX3_moved : MethodName := ⟨RX3, "moved", "()I"⟩
abbrev cX3_total : ByteArray := prog_1_method_16_code
def yX3_total : MethodName := ⟨RX3, "total", "(IIII)I"⟩
abbrev cX3_count : ByteArray := prog_1_method_17_code
def yX3_count : MethodName := ⟨RX3, "count", "(IIII)I"⟩
abbrev cX3_seen : ByteArray := prog_1_method_18_code
def yX3_seen : MethodName := ⟨RX3, "seen", "()J"⟩
abbrev cX3_about : ByteArray := prog_1_method_19_code
def yX3_about : MethodName := ⟨RX3, "about", "(I)I"⟩
abbrev cX3_boxesInUse : ByteArray := prog_1_method_20_code
def yX3_boxesInUse : MethodName := ⟨RX3, "boxesInUse", "()I"⟩
abbrev cX3_met : ByteArray := prog_1_method_21_code
def yX3_met : MethodName := ⟨RX3, "met", "(I)I"⟩
abbrev cX3_isBox : ByteArray := prog_1_method_22_code
def yX3_isBox : MethodName := ⟨RX3, "isBox", "(I)Z"⟩
abbrev cX3_isKind : ByteArray := prog_1_method_23_code
def yX3_isKind : MethodName := ⟨RX3, "isKind", "(I)Z"⟩
abbrev cX3_isSteps : ByteArray := prog_1_method_24_code
def yX3_isSteps : MethodName := ⟨RX3, "isSteps", "(III)Z"⟩
abbrev cX3_placeOfStep : ByteArray := prog_1_method_25_code
def yX3_placeOfStep : MethodName := ⟨RX3, "placeOfStep", "(IIII)I"⟩
abbrev cX3_walk : ByteArray := prog_1_method_26_code
def yX3_walk : MethodName := ⟨RX3, "walk", "(IIIII)I"⟩
abbrev cX3_rowThere : ByteArray := prog_1_method_27_code
def yX3_rowThere : MethodName := ⟨RX3, "rowThere", "(IIIII)LDrillCores$Row;"⟩
abbrev cX3_numbersIn : ByteArray := prog_1_method_28_code
def yX3_numbersIn : MethodName := ⟨RX3, "numbersIn", "(LDrillCores$Row;I)I"⟩
abbrev cX3_sumOf : ByteArray := prog_1_method_29_code
def yX3_sumOf : MethodName := ⟨RX3, "sumOf", "(LDrillCores$Row;I)J"⟩
def RX4 : String := "DrillCoresModel"
def TX4 : u_T := fun k => match k with
  | 0 => ("DrillCoresModel", "made", "I", false)
  | 1 => ("DrillCoresModel", "kindOf", "[I", true)
  | 2 => ("DrillCoresModel", "depthOf", "[I", true)
  | 3 => ("DrillCoresModel", "many", "[I", true)
  | 4 => ("DrillCoresModel", "number", "[J", true)
  | 5 => ("DrillCoresModel", "hung", "[I", true)
  | 6 => ("DrillCoresModel", "boxes", "[I", true)
  | 7 => ("DrillCoresModel", "seen", "J", false)
  | 8 => ("DrillCoresModel", "moved", "I", false)
  | 9 => ("DrillCoresModel", "counts", "[I", true)
  | 10 => ("DrillCoresModel", "there", "I", false)
  | 11 => ("DrillCoresModel", "numberAt", "I", false)
  | 12 => ("DrillCoresModel", "gone", "I", false)
  | _ => ("DrillCoresModel", "sum", "J", false)
def tyX4 : Nat → FieldType := fun k => match k with
  | 0 => .int
  | 1 => .array .int
  | 2 => .array .int
  | 3 => .array .int
  | 4 => .array .long
  | 5 => .array .int
  | 6 => .array .int
  | 7 => .long
  | 8 => .int
  | 9 => .array .int
  | 10 => .int
  | 11 => .int
  | 12 => .int
  | _ => .long
abbrev wsX40 : List Cond := u_ws RX4 TX4 14
theorem nmX4 : ∀ a, a < 14 → ∀ b, b < 14 → a ≠ b → (TX4 a).2.1 ≠ (TX4 b).2.1 := by decide +kernel
theorem tyX4_ok : ∀ k, k < 14 → parseFieldDescriptor (TX4 k).2.2.1 = some (tyX4 k) := by decide +kernel
abbrev cX4_init : ByteArray := prog_6_method_1_code
def yX4_init : MethodName := ⟨RX4, "<init>", "()V"⟩
abbrev cX4_in : ByteArray := prog_6_method_2_code
def yX4_in : MethodName := ⟨RX4, "in", "(III)Z"⟩
abbrev cX4_isBox : ByteArray := prog_6_method_3_code
def yX4_isBox : MethodName := ⟨RX4, "isBox", "(I)Z"⟩
abbrev cX4_isKind : ByteArray := prog_6_method_4_code
def yX4_isKind : MethodName := ⟨RX4, "isKind", "(I)Z"⟩
abbrev cX4_fails : ByteArray := prog_6_method_5_code
def yX4_fails : MethodName := ⟨RX4, "fails", "(I)I"⟩
abbrev cX4_goesInto : ByteArray := prog_6_method_6_code
def yX4_goesInto : MethodName := ⟨RX4, "goesInto", "(II)Z"⟩
abbrev cX4_ofBits : ByteArray := prog_6_method_7_code
def yX4_ofBits : MethodName := ⟨RX4, "ofBits", "(IJ)J"⟩
abbrev cX4_as : ByteArray := prog_6_method_8_code
def yX4_as : MethodName := ⟨RX4, "as", "(IIJ)J"⟩
abbrev cX4_go : ByteArray := prog_6_method_9_code
def yX4_go : MethodName := ⟨RX4, "go", "(IIIII)I"⟩
abbrev cX4_wantRow : ByteArray := prog_6_method_10_code
def yX4_wantRow : MethodName := ⟨RX4, "wantRow", "()I"⟩
abbrev cX4_goToRow : ByteArray := prog_6_method_11_code
def yX4_goToRow : MethodName := ⟨RX4, "goToRow", "(IIII)I"⟩
abbrev cX4_last : ByteArray := prog_6_method_12_code
def yX4_last : MethodName := ⟨RX4, "last", "(IIII)I"⟩
abbrev cX4_goToNumber : ByteArray := prog_6_method_13_code
def yX4_goToNumber : MethodName := ⟨RX4, "goToNumber", "(IIIII)I"⟩
abbrev cX4_make : ByteArray := prog_6_method_14_code
def yX4_make : MethodName := ⟨RX4, "make", "(IIII)I"⟩
abbrev cX4_take : ByteArray := prog_6_method_15_code
def yX4_take : MethodName := ⟨RX4, "take", "(II)I"⟩
abbrev cX4_empty : ByteArray := prog_6_method_16_code
def yX4_empty : MethodName := ⟨RX4, "empty", "(I)I"⟩
abbrev cX4_same : ByteArray := prog_6_method_17_code
def yX4_same : MethodName := ⟨RX4, "same", "(II)I"⟩
abbrev cX4_look : ByteArray := prog_6_method_18_code
def yX4_look : MethodName := ⟨RX4, "look", "(IIIII)I"⟩
abbrev cX4_length : ByteArray := prog_6_method_19_code
def yX4_length : MethodName := ⟨RX4, "length", "(IIIII)I"⟩
abbrev cX4_read : ByteArray := prog_6_method_20_code
def yX4_read : MethodName := ⟨RX4, "read", "(IIIIII)I"⟩
abbrev cX4_write : ByteArray := prog_6_method_21_code
def yX4_write : MethodName := ⟨RX4, "write", "(IIIIIIJ)I"⟩
abbrev cX4_fits : ByteArray := prog_6_method_22_code
def yX4_fits : MethodName := ⟨RX4, "fits", "(II)Z"⟩
abbrev cX4_hang : ByteArray := prog_6_method_23_code
def yX4_hang : MethodName := ⟨RX4, "hang", "(IIIIII)I"⟩
abbrev cX4_lift : ByteArray := prog_6_method_24_code
def yX4_lift : MethodName := ⟨RX4, "lift", "(IIIIII)I"⟩
abbrev cX4_turn : ByteArray := prog_6_method_25_code
def yX4_turn : MethodName := ⟨RX4, "turn", "(IIIIII)I"⟩
abbrev cX4_fill : ByteArray := prog_6_method_26_code
def yX4_fill : MethodName := ⟨RX4, "fill", "(IIIIIJ)I"⟩
abbrev cX4_pourOne : ByteArray := prog_6_method_27_code
def yX4_pourOne : MethodName := ⟨RX4, "pourOne", "(III)I"⟩
abbrev cX4_pour : ByteArray := prog_6_method_28_code
def yX4_pour : MethodName := ⟨RX4, "pour", "(II)I"⟩
abbrev cX4_moved : ByteArray := prog_6_method_29_code
def yX4_moved : MethodName := ⟨RX4, "moved", "()I"⟩
abbrev cX4_goOver : ByteArray := prog_6_method_30_code
def yX4_goOver : MethodName := ⟨RX4, "goOver", "(I)V"⟩
abbrev cX4_goOverTwo : ByteArray := prog_6_method_31_code
def yX4_goOverTwo : MethodName := ⟨RX4, "goOverTwo", "(I)V"⟩
abbrev cX4_goOverAll : ByteArray := prog_6_method_32_code
def yX4_goOverAll : MethodName := ⟨RX4, "goOverAll", "(I)V"⟩
abbrev cX4_total : ByteArray := prog_6_method_33_code
def yX4_total : MethodName := ⟨RX4, "total", "(IIII)I"⟩
abbrev cX4_count : ByteArray := prog_6_method_34_code
def yX4_count : MethodName := ⟨RX4, "count", "(IIII)I"⟩
abbrev cX4_seen : ByteArray := prog_6_method_35_code
def yX4_seen : MethodName := ⟨RX4, "seen", "()J"⟩
abbrev cX4_about : ByteArray := prog_6_method_36_code
def yX4_about : MethodName := ⟨RX4, "about", "(I)I"⟩
def RJxe99ae : String := "java/lang/Double"
def TJxe99ae : u_T := fun k => match k with
  | _ => ("", "", "", false)
def tyJxe99ae : Nat → FieldType := fun k => match k with
  | _ => .int
abbrev wsJxe99ae0 : List Cond := u_ws RJxe99ae TJxe99ae 0
theorem nmJxe99ae : ∀ a, a < 0 → ∀ b, b < 0 → a ≠ b → (TJxe99ae a).2.1 ≠ (TJxe99ae b).2.1 := by decide +kernel
theorem tyJxe99ae_ok : ∀ k, k < 0 → parseFieldDescriptor (TJxe99ae k).2.2.1 = some (tyJxe99ae k) := by decide +kernel
abbrev cJxe99ae_isNaN_b9ae7 : ByteArray := prog_7_method_6_code
def yJxe99ae_isNaN_b9ae7 : MethodName := ⟨RJxe99ae, "isNaN", "(D)Z"⟩
abbrev cJxe99ae_doubleToLongBits_ccdee : ByteArray := prog_7_method_23_code
def yJxe99ae_doubleToLongBits_ccdee : MethodName := ⟨RJxe99ae, "doubleToLongBits", "(D)J"⟩
def RJxf58ca : String := "java/lang/Float"
def TJxf58ca : u_T := fun k => match k with
  | _ => ("", "", "", false)
def tyJxf58ca : Nat → FieldType := fun k => match k with
  | _ => .int
abbrev wsJxf58ca0 : List Cond := u_ws RJxf58ca TJxf58ca 0
theorem nmJxf58ca : ∀ a, a < 0 → ∀ b, b < 0 → a ≠ b → (TJxf58ca a).2.1 ≠ (TJxf58ca b).2.1 := by decide +kernel
theorem tyJxf58ca_ok : ∀ k, k < 0 → parseFieldDescriptor (TJxf58ca k).2.2.1 = some (tyJxf58ca k) := by decide +kernel
abbrev cJxf58ca_isNaN_12338 : ByteArray := prog_8_method_6_code
def yJxf58ca_isNaN_12338 : MethodName := ⟨RJxf58ca, "isNaN", "(F)Z"⟩
abbrev cJxf58ca_floatToIntBits_5c35a : ByteArray := prog_8_method_24_code
def yJxf58ca_floatToIntBits_5c35a : MethodName := ⟨RJxf58ca, "floatToIntBits", "(F)I"⟩
def RJ6 : String := "java/lang/Integer"
def TJ6 : u_T := fun k => match k with
  | _ => ("", "", "", false)
def tyJ6 : Nat → FieldType := fun k => match k with
  | _ => .int
abbrev wsJ60 : List Cond := u_ws RJ6 TJ6 0
theorem nmJ6 : ∀ a, a < 0 → ∀ b, b < 0 → a ≠ b → (TJ6 a).2.1 ≠ (TJ6 b).2.1 := by decide +kernel
theorem tyJ6_ok : ∀ k, k < 0 → parseFieldDescriptor (TJ6 k).2.2.1 = some (tyJ6 k) := by decide +kernel
abbrev cJ6_numberOfLeadingZeros_0f7a4 : ByteArray := prog_9_method_47_code
def yJ6_numberOfLeadingZeros_0f7a4 : MethodName := ⟨RJ6, "numberOfLeadingZeros", "(I)I"⟩
def RJ13 : String := "java/lang/Long"
def TJ13 : u_T := fun k => match k with
  | _ => ("", "", "", false)
def tyJ13 : Nat → FieldType := fun k => match k with
  | _ => .int
abbrev wsJ130 : List Cond := u_ws RJ13 TJ13 0
theorem nmJ13 : ∀ a, a < 0 → ∀ b, b < 0 → a ≠ b → (TJ13 a).2.1 ≠ (TJ13 b).2.1 := by decide +kernel
theorem tyJ13_ok : ∀ k, k < 0 → parseFieldDescriptor (TJ13 k).2.2.1 = some (tyJ13 k) := by decide +kernel
abbrev cJ13_numberOfLeadingZeros_95d88 : ByteArray := prog_10_method_48_code
def yJ13_numberOfLeadingZeros_95d88 : MethodName := ⟨RJ13, "numberOfLeadingZeros", "(J)I"⟩
def RL : String := "DrillCoresLaw"
abbrev cL_law : ByteArray := code
def yL_law : MethodName := ⟨RL, "law", "([I)Z"⟩
def wsX0_init : List Cond := .code yX0_init cX0_init 1 none :: ([.methodLink RX0 3 objectInit, .instanceMethod objectInit, .code objectInit ⟨#[0xb1]⟩ 1 none])
def wsX0_startAt : List Cond := .code yX0_startAt cX0_startAt 2 none :: ([.fieldLink RX0 9 "DrillCores$Hand" "row" "LDrillCores$Row;", .fieldLink RX0 15 "DrillCores$Hand" "onNumber" "Z", .fieldLink RX0 19 "DrillCores$Hand" "cause" "I"] ++ wsX00)
def wsX0_wantRow : List Cond := .code yX0_wantRow cX0_wantRow 1 none :: ([.fieldLink RX0 19 "DrillCores$Hand" "cause" "I", .fieldLink RX0 9 "DrillCores$Hand" "row" "LDrillCores$Row;", .fieldLink RX0 15 "DrillCores$Hand" "onNumber" "Z"] ++ wsX00)
def wsX2_hasPlace : List Cond := .code yX2_hasPlace cX2_hasPlace 2 (some .boolean) :: ([.fieldLink RX2 18 "DrillCores$Row" "size" "I"] ++ wsX20)
def wsX2_hasNumbers : List Cond := .code yX2_hasNumbers cX2_hasNumbers 1 (some .boolean) :: ([.fieldLink RX2 15 "DrillCores$Row" "depth" "I"] ++ wsX20)
def wsX0_stepTo : List Cond := .code yX0_stepTo cX0_stepTo 3 none :: ([.fieldLink RX0 9 "DrillCores$Hand" "row" "LDrillCores$Row;", .fieldLink RX0 19 "DrillCores$Hand" "cause" "I", .fieldLink RX0 15 "DrillCores$Hand" "onNumber" "Z", .fieldLink RX0 36 "DrillCores$Row" "kind" "I", .fieldLink RX0 39 "DrillCores$Hand" "kind" "I", .fieldLink RX0 40 "DrillCores$Row" "numbers" "[J", .fieldLink RX0 44 "DrillCores$Hand" "number" "J", .fieldLink RX0 48 "DrillCores$Row" "rows" "[LDrillCores$Row;", .methodLink RX0 23 yX0_wantRow, .instanceMethod yX0_wantRow, .selects RX0 yX0_wantRow yX0_wantRow, .initialized RX0, .code yX0_wantRow cX0_wantRow 1 none, .methodLink RX0 26 yX2_hasPlace, .instanceMethod yX2_hasPlace, .selects RX2 yX2_hasPlace yX2_hasPlace, .initialized RX2, .code yX2_hasPlace cX2_hasPlace 2 (some .boolean), .fieldLink RX2 18 "DrillCores$Row" "size" "I", .methodLink RX0 32 yX2_hasNumbers, .instanceMethod yX2_hasNumbers, .selects RX2 yX2_hasNumbers yX2_hasNumbers, .code yX2_hasNumbers cX2_hasNumbers 1 (some .boolean), .fieldLink RX2 15 "DrillCores$Row" "depth" "I"] ++ wsX00 ++ wsX20)
def wsX1_goesInto : List Cond := .code yX1_goesInto cX1_goesInto 2 (some .boolean) :: ([])
def wsX1_lowBits : List Cond := .code yX1_lowBits cX1_lowBits 1 (some .long) :: ([])
def wsX1_told : List Cond := .code yX1_told cX1_told 3 (some .long) :: ([.constantLong RX1 13 (2139095040), .constantLong RX1 15 (2143289344), .constantLong RX1 17 (9218868437227405312), .constantLong RX1 19 (9221120237041090560), .methodLink RX1 9 yX1_lowBits, .static yX1_lowBits, .initialized RX1, .code yX1_lowBits cX1_lowBits 1 (some .long)])
def wsJ6_numberOfLeadingZeros_0f7a4 : List Cond := .code yJ6_numberOfLeadingZeros_0f7a4 cJ6_numberOfLeadingZeros_0f7a4 2 (some .int) :: ([.constant RJ6 264 (65536)])
def wsJ13_numberOfLeadingZeros_95d88 : List Cond := .code yJ13_numberOfLeadingZeros_95d88 cJ13_numberOfLeadingZeros_95d88 3 (some .int) :: ([.methodLink RJ13 308 yJ6_numberOfLeadingZeros_0f7a4, .static yJ6_numberOfLeadingZeros_0f7a4, .initialized RJ6, .code yJ6_numberOfLeadingZeros_0f7a4 cJ6_numberOfLeadingZeros_0f7a4 2 (some .int), .constant RJ6 264 (65536)])
def wsX1_roundedOff : List Cond := .code yX1_roundedOff cX1_roundedOff 10 (some .long) :: ([.methodLink RX1 9 yX1_lowBits, .static yX1_lowBits, .initialized RX1, .code yX1_lowBits cX1_lowBits 1 (some .long)])
def wsX1_nearest : List Cond := .code yX1_nearest cX1_nearest 7 (some .long) :: ([.methodLink RX1 46 yJ13_numberOfLeadingZeros_95d88, .static yJ13_numberOfLeadingZeros_95d88, .initialized RJ13, .code yJ13_numberOfLeadingZeros_95d88 cJ13_numberOfLeadingZeros_95d88 3 (some .int), .methodLink RJ13 308 yJ6_numberOfLeadingZeros_0f7a4, .static yJ6_numberOfLeadingZeros_0f7a4, .initialized RJ6, .code yJ6_numberOfLeadingZeros_0f7a4 cJ6_numberOfLeadingZeros_0f7a4 2 (some .int), .constant RJ6 264 (65536), .methodLink RX1 52 yX1_roundedOff, .static yX1_roundedOff, .initialized RX1, .code yX1_roundedOff cX1_roundedOff 10 (some .long), .methodLink RX1 9 yX1_lowBits, .static yX1_lowBits, .code yX1_lowBits cX1_lowBits 1 (some .long)])
def wsX1_withSign : List Cond := .code yX1_withSign cX1_withSign 4 (some .long) :: ([.constantLong RX1 56 (-1)])
def wsX1_doubleOfFloat_r1 : List Cond := [Cond.constantLong RX1 13 (2139095040), Cond.constantLong RX1 19 (9221120237041090560), Cond.constantLong RX1 17 (9218868437227405312), Cond.constantLong RX1 42 (127), Cond.constantLong RX1 44 (1023), Cond.methodLink RX1 9 yX1_lowBits, Cond.static yX1_lowBits, Cond.initialized RX1, Cond.code yX1_lowBits cX1_lowBits 1 (some .long), Cond.methodLink RX1 34 yX1_nearest, Cond.static yX1_nearest, Cond.code yX1_nearest cX1_nearest 7 (some .long), Cond.methodLink RX1 46 yJ13_numberOfLeadingZeros_95d88, Cond.static yJ13_numberOfLeadingZeros_95d88, Cond.initialized RJ13, Cond.code yJ13_numberOfLeadingZeros_95d88 cJ13_numberOfLeadingZeros_95d88 3 (some .int), Cond.methodLink RJ13 308 yJ6_numberOfLeadingZeros_0f7a4, Cond.static yJ6_numberOfLeadingZeros_0f7a4, Cond.initialized RJ6, Cond.code yJ6_numberOfLeadingZeros_0f7a4 cJ6_numberOfLeadingZeros_0f7a4 2 (some .int), Cond.constant RJ6 264 (65536), Cond.methodLink RX1 52 yX1_roundedOff, Cond.static yX1_roundedOff, Cond.code yX1_roundedOff cX1_roundedOff 10 (some .long)]
def wsX1_doubleOfFloat_r2 : List Cond := [Cond.methodLink RX1 38 yX1_withSign, Cond.static yX1_withSign, Cond.code yX1_withSign cX1_withSign 4 (some .long), Cond.constantLong RX1 56 (-1)]
def wsX1_doubleOfFloat : List Cond := .code yX1_doubleOfFloat cX1_doubleOfFloat 10 (some .long) :: ((wsX1_doubleOfFloat_r1 ++ wsX1_doubleOfFloat_r2))
def wsX1_sizeOf : List Cond := .code yX1_sizeOf cX1_sizeOf 2 (some .long) :: ([])
def wsX1_nearestFloat_r1 : List Cond := [Cond.methodLink RX1 31 yX1_sizeOf, Cond.static yX1_sizeOf, Cond.initialized RX1, Cond.code yX1_sizeOf cX1_sizeOf 2 (some .long), Cond.methodLink RX1 34 yX1_nearest, Cond.static yX1_nearest, Cond.code yX1_nearest cX1_nearest 7 (some .long), Cond.methodLink RX1 46 yJ13_numberOfLeadingZeros_95d88, Cond.static yJ13_numberOfLeadingZeros_95d88, Cond.initialized RJ13, Cond.code yJ13_numberOfLeadingZeros_95d88 cJ13_numberOfLeadingZeros_95d88 3 (some .int), Cond.methodLink RJ13 308 yJ6_numberOfLeadingZeros_0f7a4, Cond.static yJ6_numberOfLeadingZeros_0f7a4, Cond.initialized RJ6, Cond.code yJ6_numberOfLeadingZeros_0f7a4 cJ6_numberOfLeadingZeros_0f7a4 2 (some .int), Cond.constant RJ6 264 (65536), Cond.methodLink RX1 52 yX1_roundedOff, Cond.static yX1_roundedOff, Cond.code yX1_roundedOff cX1_roundedOff 10 (some .long), Cond.methodLink RX1 9 yX1_lowBits, Cond.static yX1_lowBits, Cond.code yX1_lowBits cX1_lowBits 1 (some .long), Cond.methodLink RX1 38 yX1_withSign, Cond.static yX1_withSign]
def wsX1_nearestFloat_r2 : List Cond := [Cond.code yX1_withSign cX1_withSign 4 (some .long), Cond.constantLong RX1 56 (-1)]
def wsX1_nearestFloat : List Cond := .code yX1_nearestFloat cX1_nearestFloat 4 (some .long) :: ((wsX1_nearestFloat_r1 ++ wsX1_nearestFloat_r2))
def wsX1_nearestDouble_r1 : List Cond := [Cond.methodLink RX1 31 yX1_sizeOf, Cond.static yX1_sizeOf, Cond.initialized RX1, Cond.code yX1_sizeOf cX1_sizeOf 2 (some .long), Cond.methodLink RX1 34 yX1_nearest, Cond.static yX1_nearest, Cond.code yX1_nearest cX1_nearest 7 (some .long), Cond.methodLink RX1 46 yJ13_numberOfLeadingZeros_95d88, Cond.static yJ13_numberOfLeadingZeros_95d88, Cond.initialized RJ13, Cond.code yJ13_numberOfLeadingZeros_95d88 cJ13_numberOfLeadingZeros_95d88 3 (some .int), Cond.methodLink RJ13 308 yJ6_numberOfLeadingZeros_0f7a4, Cond.static yJ6_numberOfLeadingZeros_0f7a4, Cond.initialized RJ6, Cond.code yJ6_numberOfLeadingZeros_0f7a4 cJ6_numberOfLeadingZeros_0f7a4 2 (some .int), Cond.constant RJ6 264 (65536), Cond.methodLink RX1 52 yX1_roundedOff, Cond.static yX1_roundedOff, Cond.code yX1_roundedOff cX1_roundedOff 10 (some .long), Cond.methodLink RX1 9 yX1_lowBits, Cond.static yX1_lowBits, Cond.code yX1_lowBits cX1_lowBits 1 (some .long), Cond.methodLink RX1 38 yX1_withSign, Cond.static yX1_withSign]
def wsX1_nearestDouble_r2 : List Cond := [Cond.code yX1_withSign cX1_withSign 4 (some .long), Cond.constantLong RX1 56 (-1)]
def wsX1_nearestDouble : List Cond := .code yX1_nearestDouble cX1_nearestDouble 4 (some .long) :: ((wsX1_nearestDouble_r1 ++ wsX1_nearestDouble_r2))
def wsX1_asKind_r1 : List Cond := [Cond.methodLink RX1 21 yX1_doubleOfFloat, Cond.static yX1_doubleOfFloat, Cond.initialized RX1, Cond.code yX1_doubleOfFloat cX1_doubleOfFloat 10 (some .long), Cond.constantLong RX1 13 (2139095040), Cond.constantLong RX1 19 (9221120237041090560), Cond.constantLong RX1 17 (9218868437227405312), Cond.constantLong RX1 42 (127), Cond.constantLong RX1 44 (1023), Cond.methodLink RX1 9 yX1_lowBits, Cond.static yX1_lowBits, Cond.code yX1_lowBits cX1_lowBits 1 (some .long), Cond.methodLink RX1 34 yX1_nearest, Cond.static yX1_nearest, Cond.code yX1_nearest cX1_nearest 7 (some .long), Cond.methodLink RX1 46 yJ13_numberOfLeadingZeros_95d88, Cond.static yJ13_numberOfLeadingZeros_95d88, Cond.initialized RJ13, Cond.code yJ13_numberOfLeadingZeros_95d88 cJ13_numberOfLeadingZeros_95d88 3 (some .int), Cond.methodLink RJ13 308 yJ6_numberOfLeadingZeros_0f7a4, Cond.static yJ6_numberOfLeadingZeros_0f7a4, Cond.initialized RJ6, Cond.code yJ6_numberOfLeadingZeros_0f7a4 cJ6_numberOfLeadingZeros_0f7a4 2 (some .int), Cond.constant RJ6 264 (65536)]
def wsX1_asKind_r2 : List Cond := [Cond.methodLink RX1 52 yX1_roundedOff, Cond.static yX1_roundedOff, Cond.code yX1_roundedOff cX1_roundedOff 10 (some .long), Cond.methodLink RX1 38 yX1_withSign, Cond.static yX1_withSign, Cond.code yX1_withSign cX1_withSign 4 (some .long), Cond.constantLong RX1 56 (-1), Cond.methodLink RX1 25 yX1_nearestFloat, Cond.static yX1_nearestFloat, Cond.code yX1_nearestFloat cX1_nearestFloat 4 (some .long), Cond.methodLink RX1 31 yX1_sizeOf, Cond.static yX1_sizeOf, Cond.code yX1_sizeOf cX1_sizeOf 2 (some .long), Cond.methodLink RX1 28 yX1_nearestDouble, Cond.static yX1_nearestDouble, Cond.code yX1_nearestDouble cX1_nearestDouble 4 (some .long)]
def wsX1_asKind : List Cond := .code yX1_asKind cX1_asKind 4 (some .long) :: ((wsX1_asKind_r1 ++ wsX1_asKind_r2))
def wsX2_init : List Cond := .code yX2_init cX2_init 4 none :: ([.methodLink RX2 3 objectInit, .instanceMethod objectInit, .code objectInit ⟨#[0xb1]⟩ 1 none, .fieldLink RX2 9 "DrillCores$Row" "kind" "I", .fieldLink RX2 15 "DrillCores$Row" "depth" "I", .fieldLink RX2 18 "DrillCores$Row" "size" "I", .arrayClass .long, .fieldLink RX2 21 "DrillCores$Row" "numbers" "[J", .classLink RX2 10 RX2, .fieldLink RX2 25 "DrillCores$Row" "rows" "[LDrillCores$Row;"] ++ wsX20)
def wsX2_causeAtNumber : List Cond := .code yX2_causeAtNumber cX2_causeAtNumber 4 (some .int) :: ([.methodLink RX2 33 yX2_hasNumbers, .instanceMethod yX2_hasNumbers, .selects RX2 yX2_hasNumbers yX2_hasNumbers, .initialized RX2, .code yX2_hasNumbers cX2_hasNumbers 1 (some .boolean), .fieldLink RX2 15 "DrillCores$Row" "depth" "I", .methodLink RX2 37 yX2_hasPlace, .instanceMethod yX2_hasPlace, .selects RX2 yX2_hasPlace yX2_hasPlace, .code yX2_hasPlace cX2_hasPlace 2 (some .boolean), .fieldLink RX2 18 "DrillCores$Row" "size" "I", .methodLink RX2 41 yX1_goesInto, .static yX1_goesInto, .initialized RX1, .code yX1_goesInto cX1_goesInto 2 (some .boolean)] ++ wsX20)
def wsX2_causeToRead : List Cond := .code yX2_causeToRead cX2_causeToRead 3 (some .int) :: ([.fieldLink RX2 9 "DrillCores$Row" "kind" "I", .methodLink RX2 29 yX2_causeAtNumber, .instanceMethod yX2_causeAtNumber, .selects RX2 yX2_causeAtNumber yX2_causeAtNumber, .initialized RX2, .code yX2_causeAtNumber cX2_causeAtNumber 4 (some .int), .methodLink RX2 33 yX2_hasNumbers, .instanceMethod yX2_hasNumbers, .selects RX2 yX2_hasNumbers yX2_hasNumbers, .code yX2_hasNumbers cX2_hasNumbers 1 (some .boolean), .fieldLink RX2 15 "DrillCores$Row" "depth" "I", .methodLink RX2 37 yX2_hasPlace, .instanceMethod yX2_hasPlace, .selects RX2 yX2_hasPlace yX2_hasPlace, .code yX2_hasPlace cX2_hasPlace 2 (some .boolean), .fieldLink RX2 18 "DrillCores$Row" "size" "I", .methodLink RX2 41 yX1_goesInto, .static yX1_goesInto, .initialized RX1, .code yX1_goesInto cX1_goesInto 2 (some .boolean)] ++ wsX20)
def wsX2_causeToWrite : List Cond := .code yX2_causeToWrite cX2_causeToWrite 3 (some .int) :: ([.fieldLink RX2 9 "DrillCores$Row" "kind" "I", .methodLink RX2 29 yX2_causeAtNumber, .instanceMethod yX2_causeAtNumber, .selects RX2 yX2_causeAtNumber yX2_causeAtNumber, .initialized RX2, .code yX2_causeAtNumber cX2_causeAtNumber 4 (some .int), .methodLink RX2 33 yX2_hasNumbers, .instanceMethod yX2_hasNumbers, .selects RX2 yX2_hasNumbers yX2_hasNumbers, .code yX2_hasNumbers cX2_hasNumbers 1 (some .boolean), .fieldLink RX2 15 "DrillCores$Row" "depth" "I", .methodLink RX2 37 yX2_hasPlace, .instanceMethod yX2_hasPlace, .selects RX2 yX2_hasPlace yX2_hasPlace, .code yX2_hasPlace cX2_hasPlace 2 (some .boolean), .fieldLink RX2 18 "DrillCores$Row" "size" "I", .methodLink RX2 41 yX1_goesInto, .static yX1_goesInto, .initialized RX1, .code yX1_goesInto cX1_goesInto 2 (some .boolean)] ++ wsX20)
def wsX2_causeToHang : List Cond := .code yX2_causeToHang cX2_causeToHang 3 (some .int) :: ([.fieldLink RX2 9 "DrillCores$Row" "kind" "I", .fieldLink RX2 15 "DrillCores$Row" "depth" "I", .methodLink RX2 33 yX2_hasNumbers, .instanceMethod yX2_hasNumbers, .selects RX2 yX2_hasNumbers yX2_hasNumbers, .initialized RX2, .code yX2_hasNumbers cX2_hasNumbers 1 (some .boolean), .methodLink RX2 37 yX2_hasPlace, .instanceMethod yX2_hasPlace, .selects RX2 yX2_hasPlace yX2_hasPlace, .code yX2_hasPlace cX2_hasPlace 2 (some .boolean), .fieldLink RX2 18 "DrillCores$Row" "size" "I"] ++ wsX20)
def wsX2_causeToPour : List Cond := .code yX2_causeToPour cX2_causeToPour 3 (some .int) :: ([.fieldLink RX2 25 "DrillCores$Row" "rows" "[LDrillCores$Row;", .fieldLink RX2 9 "DrillCores$Row" "kind" "I", .methodLink RX2 33 yX2_hasNumbers, .instanceMethod yX2_hasNumbers, .selects RX2 yX2_hasNumbers yX2_hasNumbers, .initialized RX2, .code yX2_hasNumbers cX2_hasNumbers 1 (some .boolean), .fieldLink RX2 15 "DrillCores$Row" "depth" "I", .methodLink RX2 47 yX2_causeToHang, .instanceMethod yX2_causeToHang, .selects RX2 yX2_causeToHang yX2_causeToHang, .code yX2_causeToHang cX2_causeToHang 3 (some .int), .methodLink RX2 37 yX2_hasPlace, .instanceMethod yX2_hasPlace, .selects RX2 yX2_hasPlace yX2_hasPlace, .code yX2_hasPlace cX2_hasPlace 2 (some .boolean), .fieldLink RX2 18 "DrillCores$Row" "size" "I", .methodLink RX2 41 yX1_goesInto, .static yX1_goesInto, .initialized RX1, .code yX1_goesInto cX1_goesInto 2 (some .boolean)] ++ wsX20)
def wsX2_pourIn_r1 : List Cond := [Cond.fieldLink RX2 21 "DrillCores$Row" "numbers" "[J", Cond.fieldLink RX2 9 "DrillCores$Row" "kind" "I", Cond.fieldLink RX2 25 "DrillCores$Row" "rows" "[LDrillCores$Row;", Cond.methodLink RX2 33 yX2_hasNumbers, Cond.instanceMethod yX2_hasNumbers, Cond.selects RX2 yX2_hasNumbers yX2_hasNumbers, Cond.initialized RX2, Cond.code yX2_hasNumbers cX2_hasNumbers 1 (some .boolean), Cond.fieldLink RX2 15 "DrillCores$Row" "depth" "I", Cond.methodLink RX2 51 yX1_asKind, Cond.static yX1_asKind, Cond.initialized RX1, Cond.code yX1_asKind cX1_asKind 4 (some .long), Cond.methodLink RX1 21 yX1_doubleOfFloat, Cond.static yX1_doubleOfFloat, Cond.code yX1_doubleOfFloat cX1_doubleOfFloat 10 (some .long), Cond.constantLong RX1 13 (2139095040), Cond.constantLong RX1 19 (9221120237041090560), Cond.constantLong RX1 17 (9218868437227405312), Cond.constantLong RX1 42 (127), Cond.constantLong RX1 44 (1023), Cond.methodLink RX1 9 yX1_lowBits, Cond.static yX1_lowBits, Cond.code yX1_lowBits cX1_lowBits 1 (some .long)]
def wsX2_pourIn_r2 : List Cond := [Cond.methodLink RX1 34 yX1_nearest, Cond.static yX1_nearest, Cond.code yX1_nearest cX1_nearest 7 (some .long), Cond.methodLink RX1 46 yJ13_numberOfLeadingZeros_95d88, Cond.static yJ13_numberOfLeadingZeros_95d88, Cond.initialized RJ13, Cond.code yJ13_numberOfLeadingZeros_95d88 cJ13_numberOfLeadingZeros_95d88 3 (some .int), Cond.methodLink RJ13 308 yJ6_numberOfLeadingZeros_0f7a4, Cond.static yJ6_numberOfLeadingZeros_0f7a4, Cond.initialized RJ6, Cond.code yJ6_numberOfLeadingZeros_0f7a4 cJ6_numberOfLeadingZeros_0f7a4 2 (some .int), Cond.constant RJ6 264 (65536), Cond.methodLink RX1 52 yX1_roundedOff, Cond.static yX1_roundedOff, Cond.code yX1_roundedOff cX1_roundedOff 10 (some .long), Cond.methodLink RX1 38 yX1_withSign, Cond.static yX1_withSign, Cond.code yX1_withSign cX1_withSign 4 (some .long), Cond.constantLong RX1 56 (-1), Cond.methodLink RX1 25 yX1_nearestFloat, Cond.static yX1_nearestFloat, Cond.code yX1_nearestFloat cX1_nearestFloat 4 (some .long), Cond.methodLink RX1 31 yX1_sizeOf, Cond.static yX1_sizeOf]
def wsX2_pourIn_r3 : List Cond := [Cond.code yX1_sizeOf cX1_sizeOf 2 (some .long), Cond.methodLink RX1 28 yX1_nearestDouble, Cond.static yX1_nearestDouble, Cond.code yX1_nearestDouble cX1_nearestDouble 4 (some .long)]
def wsX2_pourIn : List Cond := .code yX2_pourIn cX2_pourIn 3 none :: ((wsX2_pourIn_r1 ++ (wsX2_pourIn_r2 ++ wsX2_pourIn_r3)) ++ wsX20)
def wsX2_exchange : List Cond := .code yX2_exchange cX2_exchange 5 none :: ([.fieldLink RX2 21 "DrillCores$Row" "numbers" "[J", .fieldLink RX2 25 "DrillCores$Row" "rows" "[LDrillCores$Row;", .methodLink RX2 33 yX2_hasNumbers, .instanceMethod yX2_hasNumbers, .selects RX2 yX2_hasNumbers yX2_hasNumbers, .initialized RX2, .code yX2_hasNumbers cX2_hasNumbers 1 (some .boolean), .fieldLink RX2 15 "DrillCores$Row" "depth" "I"] ++ wsX20)
def wsX3_init : List Cond := .code yX3_init cX3_init 1 none :: ([.methodLink RX3 1 objectInit, .instanceMethod objectInit, .code objectInit ⟨#[0xb1]⟩ 1 none, .classLink RX3 9 RX2, .fieldLink RX3 11 "DrillCores" "boxes" "[LDrillCores$Row;", .arrayClass .int, .fieldLink RX3 15 "DrillCores" "causesMet" "[I", .classLink RX3 19 RX0, .instantiable RX0 5, .initialized RX0, .fieldLink RX3 22 "DrillCores" "hand" "LDrillCores$Hand;", .fieldLink RX3 26 "DrillCores" "rowsMade" "I", .fieldLink RX3 30 "DrillCores" "lastMoved" "I", .fieldLink RX3 33 "DrillCores" "lastSeen" "J", .instanceMethod yX0_init, .code yX0_init cX0_init 1 none, .methodLink RX0 3 objectInit] ++ wsX30 ++ wsX00)
def wsX3_isBox : List Cond := .code yX3_isBox cX3_isBox 1 (some .boolean) :: ([])
def wsX3_isKind : List Cond := .code yX3_isKind cX3_isKind 1 (some .boolean) :: ([])
def wsX3_met : List Cond := .code yX3_met cX3_met 2 (some .int) :: ([.fieldLink RX3 15 "DrillCores" "causesMet" "[I"] ++ wsX30)
def wsX3_make_r1 : List Cond := [Cond.fieldLink RX3 26 "DrillCores" "rowsMade" "I", Cond.fieldLink RX3 11 "DrillCores" "boxes" "[LDrillCores$Row;", Cond.classLink RX3 9 RX2, Cond.instantiable RX2 5, Cond.initialized RX2, Cond.methodLink RX3 37 yX3_isBox, Cond.static yX3_isBox, Cond.initialized RX3, Cond.code yX3_isBox cX3_isBox 1 (some .boolean), Cond.methodLink RX3 41 yX3_isKind, Cond.static yX3_isKind, Cond.code yX3_isKind cX3_isKind 1 (some .boolean), Cond.methodLink RX3 44 yX3_met, Cond.instanceMethod yX3_met, Cond.selects RX3 yX3_met yX3_met, Cond.code yX3_met cX3_met 2 (some .int), Cond.fieldLink RX3 15 "DrillCores" "causesMet" "[I", Cond.methodLink RX3 48 yX2_init, Cond.instanceMethod yX2_init, Cond.code yX2_init cX2_init 4 none, Cond.methodLink RX2 3 objectInit, Cond.instanceMethod objectInit, Cond.code objectInit ⟨#[0xb1]⟩ 1 none, Cond.fieldLink RX2 9 "DrillCores$Row" "kind" "I"]
def wsX3_make_r2 : List Cond := [Cond.fieldLink RX2 15 "DrillCores$Row" "depth" "I", Cond.fieldLink RX2 18 "DrillCores$Row" "size" "I", Cond.arrayClass .long, Cond.fieldLink RX2 21 "DrillCores$Row" "numbers" "[J", Cond.classLink RX2 10 RX2, Cond.fieldLink RX2 25 "DrillCores$Row" "rows" "[LDrillCores$Row;"]
def wsX3_make : List Cond := .code yX3_make cX3_make 5 (some .int) :: ((wsX3_make_r1 ++ wsX3_make_r2) ++ wsX30 ++ wsX20)
def wsX3_take : List Cond := .code yX3_take cX3_take 3 (some .int) :: ([.fieldLink RX3 11 "DrillCores" "boxes" "[LDrillCores$Row;", .methodLink RX3 37 yX3_isBox, .static yX3_isBox, .initialized RX3, .code yX3_isBox cX3_isBox 1 (some .boolean)] ++ wsX30)
def wsX3_empty : List Cond := .code yX3_empty cX3_empty 3 (some .int) :: ([.fieldLink RX3 11 "DrillCores" "boxes" "[LDrillCores$Row;", .methodLink RX3 37 yX3_isBox, .static yX3_isBox, .initialized RX3, .code yX3_isBox cX3_isBox 1 (some .boolean)] ++ wsX30)
def wsX3_same : List Cond := .code yX3_same cX3_same 3 (some .int) :: ([.fieldLink RX3 11 "DrillCores" "boxes" "[LDrillCores$Row;", .methodLink RX3 37 yX3_isBox, .static yX3_isBox, .initialized RX3, .code yX3_isBox cX3_isBox 1 (some .boolean)] ++ wsX30)
def wsX3_isSteps : List Cond := .code yX3_isSteps cX3_isSteps 3 (some .boolean) :: ([])
def wsX3_placeOfStep : List Cond := .code yX3_placeOfStep cX3_placeOfStep 4 (some .int) :: ([])
def wsX3_walk_r1 : List Cond := [Cond.fieldLink RX3 22 "DrillCores" "hand" "LDrillCores$Hand;", Cond.fieldLink RX3 11 "DrillCores" "boxes" "[LDrillCores$Row;", Cond.fieldLink RX3 81 "DrillCores$Hand" "cause" "I", Cond.methodLink RX3 149 yX0_startAt, Cond.instanceMethod yX0_startAt, Cond.selects RX0 yX0_startAt yX0_startAt, Cond.initialized RX0, Cond.code yX0_startAt cX0_startAt 2 none, Cond.fieldLink RX0 9 "DrillCores$Hand" "row" "LDrillCores$Row;", Cond.fieldLink RX0 15 "DrillCores$Hand" "onNumber" "Z", Cond.fieldLink RX0 19 "DrillCores$Hand" "cause" "I", Cond.methodLink RX3 87 yX3_placeOfStep, Cond.static yX3_placeOfStep, Cond.initialized RX3, Cond.code yX3_placeOfStep cX3_placeOfStep 4 (some .int), Cond.methodLink RX3 153 yX0_stepTo, Cond.instanceMethod yX0_stepTo, Cond.selects RX0 yX0_stepTo yX0_stepTo, Cond.code yX0_stepTo cX0_stepTo 3 none, Cond.fieldLink RX0 36 "DrillCores$Row" "kind" "I", Cond.fieldLink RX0 39 "DrillCores$Hand" "kind" "I", Cond.fieldLink RX0 40 "DrillCores$Row" "numbers" "[J", Cond.fieldLink RX0 44 "DrillCores$Hand" "number" "J", Cond.fieldLink RX0 48 "DrillCores$Row" "rows" "[LDrillCores$Row;"]
def wsX3_walk_r2 : List Cond := [Cond.methodLink RX0 23 yX0_wantRow, Cond.instanceMethod yX0_wantRow, Cond.selects RX0 yX0_wantRow yX0_wantRow, Cond.code yX0_wantRow cX0_wantRow 1 none, Cond.methodLink RX0 26 yX2_hasPlace, Cond.instanceMethod yX2_hasPlace, Cond.selects RX2 yX2_hasPlace yX2_hasPlace, Cond.initialized RX2, Cond.code yX2_hasPlace cX2_hasPlace 2 (some .boolean), Cond.fieldLink RX2 18 "DrillCores$Row" "size" "I", Cond.methodLink RX0 32 yX2_hasNumbers, Cond.instanceMethod yX2_hasNumbers, Cond.selects RX2 yX2_hasNumbers yX2_hasNumbers, Cond.code yX2_hasNumbers cX2_hasNumbers 1 (some .boolean), Cond.fieldLink RX2 15 "DrillCores$Row" "depth" "I"]
def wsX3_walk : List Cond := .code yX3_walk cX3_walk 7 (some .int) :: ((wsX3_walk_r1 ++ wsX3_walk_r2) ++ wsX30 ++ wsX00 ++ wsX20)
def wsX3_look_r1 : List Cond := [Cond.fieldLink RX3 22 "DrillCores" "hand" "LDrillCores$Hand;", Cond.fieldLink RX3 59 "DrillCores$Hand" "onNumber" "Z", Cond.fieldLink RX3 63 "DrillCores$Hand" "number" "J", Cond.fieldLink RX3 33 "DrillCores" "lastSeen" "J", Cond.fieldLink RX3 66 "DrillCores$Hand" "kind" "I", Cond.fieldLink RX3 69 "DrillCores$Hand" "row" "LDrillCores$Row;", Cond.fieldLink RX3 73 "DrillCores$Row" "kind" "I", Cond.fieldLink RX3 74 "DrillCores$Row" "depth" "I", Cond.methodLink RX3 37 yX3_isBox, Cond.static yX3_isBox, Cond.initialized RX3, Cond.code yX3_isBox cX3_isBox 1 (some .boolean), Cond.methodLink RX3 51 yX3_isSteps, Cond.static yX3_isSteps, Cond.code yX3_isSteps cX3_isSteps 3 (some .boolean), Cond.methodLink RX3 55 yX3_walk, Cond.instanceMethod yX3_walk, Cond.selects RX3 yX3_walk yX3_walk, Cond.code yX3_walk cX3_walk 7 (some .int), Cond.fieldLink RX3 11 "DrillCores" "boxes" "[LDrillCores$Row;", Cond.fieldLink RX3 81 "DrillCores$Hand" "cause" "I", Cond.methodLink RX3 149 yX0_startAt, Cond.instanceMethod yX0_startAt, Cond.selects RX0 yX0_startAt yX0_startAt]
def wsX3_look_r2 : List Cond := [Cond.initialized RX0, Cond.code yX0_startAt cX0_startAt 2 none, Cond.fieldLink RX0 9 "DrillCores$Hand" "row" "LDrillCores$Row;", Cond.fieldLink RX0 15 "DrillCores$Hand" "onNumber" "Z", Cond.fieldLink RX0 19 "DrillCores$Hand" "cause" "I", Cond.methodLink RX3 87 yX3_placeOfStep, Cond.static yX3_placeOfStep, Cond.code yX3_placeOfStep cX3_placeOfStep 4 (some .int), Cond.methodLink RX3 153 yX0_stepTo, Cond.instanceMethod yX0_stepTo, Cond.selects RX0 yX0_stepTo yX0_stepTo, Cond.code yX0_stepTo cX0_stepTo 3 none, Cond.fieldLink RX0 36 "DrillCores$Row" "kind" "I", Cond.fieldLink RX0 39 "DrillCores$Hand" "kind" "I", Cond.fieldLink RX0 40 "DrillCores$Row" "numbers" "[J", Cond.fieldLink RX0 44 "DrillCores$Hand" "number" "J", Cond.fieldLink RX0 48 "DrillCores$Row" "rows" "[LDrillCores$Row;", Cond.methodLink RX0 23 yX0_wantRow, Cond.instanceMethod yX0_wantRow, Cond.selects RX0 yX0_wantRow yX0_wantRow, Cond.code yX0_wantRow cX0_wantRow 1 none, Cond.methodLink RX0 26 yX2_hasPlace, Cond.instanceMethod yX2_hasPlace, Cond.selects RX2 yX2_hasPlace yX2_hasPlace]
def wsX3_look_r3 : List Cond := [Cond.initialized RX2, Cond.code yX2_hasPlace cX2_hasPlace 2 (some .boolean), Cond.fieldLink RX2 18 "DrillCores$Row" "size" "I", Cond.methodLink RX0 32 yX2_hasNumbers, Cond.instanceMethod yX2_hasNumbers, Cond.selects RX2 yX2_hasNumbers yX2_hasNumbers, Cond.code yX2_hasNumbers cX2_hasNumbers 1 (some .boolean), Cond.fieldLink RX2 15 "DrillCores$Row" "depth" "I", Cond.methodLink RX3 44 yX3_met, Cond.instanceMethod yX3_met, Cond.selects RX3 yX3_met yX3_met, Cond.code yX3_met cX3_met 2 (some .int), Cond.fieldLink RX3 15 "DrillCores" "causesMet" "[I"]
def wsX3_look : List Cond := .code yX3_look cX3_look 8 (some .int) :: ((wsX3_look_r1 ++ (wsX3_look_r2 ++ wsX3_look_r3)) ++ wsX30 ++ wsX00 ++ wsX20)
def wsX3_rowThere_r1 : List Cond := [Cond.fieldLink RX3 22 "DrillCores" "hand" "LDrillCores$Hand;", Cond.fieldLink RX3 81 "DrillCores$Hand" "cause" "I", Cond.fieldLink RX3 69 "DrillCores$Hand" "row" "LDrillCores$Row;", Cond.methodLink RX3 55 yX3_walk, Cond.instanceMethod yX3_walk, Cond.selects RX3 yX3_walk yX3_walk, Cond.initialized RX3, Cond.code yX3_walk cX3_walk 7 (some .int), Cond.fieldLink RX3 11 "DrillCores" "boxes" "[LDrillCores$Row;", Cond.methodLink RX3 149 yX0_startAt, Cond.instanceMethod yX0_startAt, Cond.selects RX0 yX0_startAt yX0_startAt, Cond.initialized RX0, Cond.code yX0_startAt cX0_startAt 2 none, Cond.fieldLink RX0 9 "DrillCores$Hand" "row" "LDrillCores$Row;", Cond.fieldLink RX0 15 "DrillCores$Hand" "onNumber" "Z", Cond.fieldLink RX0 19 "DrillCores$Hand" "cause" "I", Cond.methodLink RX3 87 yX3_placeOfStep, Cond.static yX3_placeOfStep, Cond.code yX3_placeOfStep cX3_placeOfStep 4 (some .int), Cond.methodLink RX3 153 yX0_stepTo, Cond.instanceMethod yX0_stepTo, Cond.selects RX0 yX0_stepTo yX0_stepTo, Cond.code yX0_stepTo cX0_stepTo 3 none]
def wsX3_rowThere_r2 : List Cond := [Cond.fieldLink RX0 36 "DrillCores$Row" "kind" "I", Cond.fieldLink RX0 39 "DrillCores$Hand" "kind" "I", Cond.fieldLink RX0 40 "DrillCores$Row" "numbers" "[J", Cond.fieldLink RX0 44 "DrillCores$Hand" "number" "J", Cond.fieldLink RX0 48 "DrillCores$Row" "rows" "[LDrillCores$Row;", Cond.methodLink RX0 23 yX0_wantRow, Cond.instanceMethod yX0_wantRow, Cond.selects RX0 yX0_wantRow yX0_wantRow, Cond.code yX0_wantRow cX0_wantRow 1 none, Cond.methodLink RX0 26 yX2_hasPlace, Cond.instanceMethod yX2_hasPlace, Cond.selects RX2 yX2_hasPlace yX2_hasPlace, Cond.initialized RX2, Cond.code yX2_hasPlace cX2_hasPlace 2 (some .boolean), Cond.fieldLink RX2 18 "DrillCores$Row" "size" "I", Cond.methodLink RX0 32 yX2_hasNumbers, Cond.instanceMethod yX2_hasNumbers, Cond.selects RX2 yX2_hasNumbers yX2_hasNumbers, Cond.code yX2_hasNumbers cX2_hasNumbers 1 (some .boolean), Cond.fieldLink RX2 15 "DrillCores$Row" "depth" "I", Cond.methodLink RX3 157 yX0_wantRow]
def wsX3_rowThere : List Cond := .code yX3_rowThere cX3_rowThere 6 (some (.object "DrillCores$Row")) :: ((wsX3_rowThere_r1 ++ wsX3_rowThere_r2) ++ wsX30 ++ wsX00 ++ wsX20)
def wsX3_length_r1 : List Cond := [Cond.fieldLink RX3 22 "DrillCores" "hand" "LDrillCores$Hand;", Cond.fieldLink RX3 81 "DrillCores$Hand" "cause" "I", Cond.fieldLink RX3 84 "DrillCores$Row" "size" "I", Cond.methodLink RX3 37 yX3_isBox, Cond.static yX3_isBox, Cond.initialized RX3, Cond.code yX3_isBox cX3_isBox 1 (some .boolean), Cond.methodLink RX3 51 yX3_isSteps, Cond.static yX3_isSteps, Cond.code yX3_isSteps cX3_isSteps 3 (some .boolean), Cond.methodLink RX3 77 yX3_rowThere, Cond.instanceMethod yX3_rowThere, Cond.selects RX3 yX3_rowThere yX3_rowThere, Cond.code yX3_rowThere cX3_rowThere 6 (some (.object "DrillCores$Row")), Cond.fieldLink RX3 69 "DrillCores$Hand" "row" "LDrillCores$Row;", Cond.methodLink RX3 55 yX3_walk, Cond.instanceMethod yX3_walk, Cond.selects RX3 yX3_walk yX3_walk, Cond.code yX3_walk cX3_walk 7 (some .int), Cond.fieldLink RX3 11 "DrillCores" "boxes" "[LDrillCores$Row;", Cond.methodLink RX3 149 yX0_startAt, Cond.instanceMethod yX0_startAt, Cond.selects RX0 yX0_startAt yX0_startAt, Cond.initialized RX0]
def wsX3_length_r2 : List Cond := [Cond.code yX0_startAt cX0_startAt 2 none, Cond.fieldLink RX0 9 "DrillCores$Hand" "row" "LDrillCores$Row;", Cond.fieldLink RX0 15 "DrillCores$Hand" "onNumber" "Z", Cond.fieldLink RX0 19 "DrillCores$Hand" "cause" "I", Cond.methodLink RX3 87 yX3_placeOfStep, Cond.static yX3_placeOfStep, Cond.code yX3_placeOfStep cX3_placeOfStep 4 (some .int), Cond.methodLink RX3 153 yX0_stepTo, Cond.instanceMethod yX0_stepTo, Cond.selects RX0 yX0_stepTo yX0_stepTo, Cond.code yX0_stepTo cX0_stepTo 3 none, Cond.fieldLink RX0 36 "DrillCores$Row" "kind" "I", Cond.fieldLink RX0 39 "DrillCores$Hand" "kind" "I", Cond.fieldLink RX0 40 "DrillCores$Row" "numbers" "[J", Cond.fieldLink RX0 44 "DrillCores$Hand" "number" "J", Cond.fieldLink RX0 48 "DrillCores$Row" "rows" "[LDrillCores$Row;", Cond.methodLink RX0 23 yX0_wantRow, Cond.instanceMethod yX0_wantRow, Cond.selects RX0 yX0_wantRow yX0_wantRow, Cond.code yX0_wantRow cX0_wantRow 1 none, Cond.methodLink RX0 26 yX2_hasPlace, Cond.instanceMethod yX2_hasPlace, Cond.selects RX2 yX2_hasPlace yX2_hasPlace, Cond.initialized RX2]
def wsX3_length_r3 : List Cond := [Cond.code yX2_hasPlace cX2_hasPlace 2 (some .boolean), Cond.fieldLink RX2 18 "DrillCores$Row" "size" "I", Cond.methodLink RX0 32 yX2_hasNumbers, Cond.instanceMethod yX2_hasNumbers, Cond.selects RX2 yX2_hasNumbers yX2_hasNumbers, Cond.code yX2_hasNumbers cX2_hasNumbers 1 (some .boolean), Cond.fieldLink RX2 15 "DrillCores$Row" "depth" "I", Cond.methodLink RX3 157 yX0_wantRow, Cond.methodLink RX3 44 yX3_met, Cond.instanceMethod yX3_met, Cond.selects RX3 yX3_met yX3_met, Cond.code yX3_met cX3_met 2 (some .int), Cond.fieldLink RX3 15 "DrillCores" "causesMet" "[I"]
def wsX3_length : List Cond := .code yX3_length cX3_length 7 (some .int) :: ((wsX3_length_r1 ++ (wsX3_length_r2 ++ wsX3_length_r3)) ++ wsX30 ++ wsX00 ++ wsX20)
def wsX3_read_r1 : List Cond := [Cond.fieldLink RX3 22 "DrillCores" "hand" "LDrillCores$Hand;", Cond.fieldLink RX3 81 "DrillCores$Hand" "cause" "I", Cond.fieldLink RX3 95 "DrillCores$Row" "numbers" "[J", Cond.fieldLink RX3 73 "DrillCores$Row" "kind" "I", Cond.fieldLink RX3 33 "DrillCores" "lastSeen" "J", Cond.methodLink RX3 37 yX3_isBox, Cond.static yX3_isBox, Cond.initialized RX3, Cond.code yX3_isBox cX3_isBox 1 (some .boolean), Cond.methodLink RX3 51 yX3_isSteps, Cond.static yX3_isSteps, Cond.code yX3_isSteps cX3_isSteps 3 (some .boolean), Cond.methodLink RX3 41 yX3_isKind, Cond.static yX3_isKind, Cond.code yX3_isKind cX3_isKind 1 (some .boolean), Cond.methodLink RX3 77 yX3_rowThere, Cond.instanceMethod yX3_rowThere, Cond.selects RX3 yX3_rowThere yX3_rowThere, Cond.code yX3_rowThere cX3_rowThere 6 (some (.object "DrillCores$Row")), Cond.fieldLink RX3 69 "DrillCores$Hand" "row" "LDrillCores$Row;", Cond.methodLink RX3 55 yX3_walk, Cond.instanceMethod yX3_walk, Cond.selects RX3 yX3_walk yX3_walk, Cond.code yX3_walk cX3_walk 7 (some .int)]
def wsX3_read_r2 : List Cond := [Cond.fieldLink RX3 11 "DrillCores" "boxes" "[LDrillCores$Row;", Cond.methodLink RX3 149 yX0_startAt, Cond.instanceMethod yX0_startAt, Cond.selects RX0 yX0_startAt yX0_startAt, Cond.initialized RX0, Cond.code yX0_startAt cX0_startAt 2 none, Cond.fieldLink RX0 9 "DrillCores$Hand" "row" "LDrillCores$Row;", Cond.fieldLink RX0 15 "DrillCores$Hand" "onNumber" "Z", Cond.fieldLink RX0 19 "DrillCores$Hand" "cause" "I", Cond.methodLink RX3 87 yX3_placeOfStep, Cond.static yX3_placeOfStep, Cond.code yX3_placeOfStep cX3_placeOfStep 4 (some .int), Cond.methodLink RX3 153 yX0_stepTo, Cond.instanceMethod yX0_stepTo, Cond.selects RX0 yX0_stepTo yX0_stepTo, Cond.code yX0_stepTo cX0_stepTo 3 none, Cond.fieldLink RX0 36 "DrillCores$Row" "kind" "I", Cond.fieldLink RX0 39 "DrillCores$Hand" "kind" "I", Cond.fieldLink RX0 40 "DrillCores$Row" "numbers" "[J", Cond.fieldLink RX0 44 "DrillCores$Hand" "number" "J", Cond.fieldLink RX0 48 "DrillCores$Row" "rows" "[LDrillCores$Row;", Cond.methodLink RX0 23 yX0_wantRow, Cond.instanceMethod yX0_wantRow, Cond.selects RX0 yX0_wantRow yX0_wantRow]
def wsX3_read_r3 : List Cond := [Cond.code yX0_wantRow cX0_wantRow 1 none, Cond.methodLink RX0 26 yX2_hasPlace, Cond.instanceMethod yX2_hasPlace, Cond.selects RX2 yX2_hasPlace yX2_hasPlace, Cond.initialized RX2, Cond.code yX2_hasPlace cX2_hasPlace 2 (some .boolean), Cond.fieldLink RX2 18 "DrillCores$Row" "size" "I", Cond.methodLink RX0 32 yX2_hasNumbers, Cond.instanceMethod yX2_hasNumbers, Cond.selects RX2 yX2_hasNumbers yX2_hasNumbers, Cond.code yX2_hasNumbers cX2_hasNumbers 1 (some .boolean), Cond.fieldLink RX2 15 "DrillCores$Row" "depth" "I", Cond.methodLink RX3 157 yX0_wantRow, Cond.methodLink RX3 44 yX3_met, Cond.instanceMethod yX3_met, Cond.selects RX3 yX3_met yX3_met, Cond.code yX3_met cX3_met 2 (some .int), Cond.fieldLink RX3 15 "DrillCores" "causesMet" "[I", Cond.methodLink RX3 91 yX2_causeToRead, Cond.instanceMethod yX2_causeToRead, Cond.selects RX2 yX2_causeToRead yX2_causeToRead, Cond.code yX2_causeToRead cX2_causeToRead 3 (some .int), Cond.fieldLink RX2 9 "DrillCores$Row" "kind" "I", Cond.methodLink RX2 29 yX2_causeAtNumber]
def wsX3_read_r4 : List Cond := [Cond.instanceMethod yX2_causeAtNumber, Cond.selects RX2 yX2_causeAtNumber yX2_causeAtNumber, Cond.code yX2_causeAtNumber cX2_causeAtNumber 4 (some .int), Cond.methodLink RX2 33 yX2_hasNumbers, Cond.methodLink RX2 37 yX2_hasPlace, Cond.methodLink RX2 41 yX1_goesInto, Cond.static yX1_goesInto, Cond.initialized RX1, Cond.code yX1_goesInto cX1_goesInto 2 (some .boolean), Cond.methodLink RX3 99 yX1_asKind, Cond.static yX1_asKind, Cond.code yX1_asKind cX1_asKind 4 (some .long), Cond.methodLink RX1 21 yX1_doubleOfFloat, Cond.static yX1_doubleOfFloat, Cond.code yX1_doubleOfFloat cX1_doubleOfFloat 10 (some .long), Cond.constantLong RX1 13 (2139095040), Cond.constantLong RX1 19 (9221120237041090560), Cond.constantLong RX1 17 (9218868437227405312), Cond.constantLong RX1 42 (127), Cond.constantLong RX1 44 (1023), Cond.methodLink RX1 9 yX1_lowBits, Cond.static yX1_lowBits, Cond.code yX1_lowBits cX1_lowBits 1 (some .long), Cond.methodLink RX1 34 yX1_nearest]
def wsX3_read_r5 : List Cond := [Cond.static yX1_nearest, Cond.code yX1_nearest cX1_nearest 7 (some .long), Cond.methodLink RX1 46 yJ13_numberOfLeadingZeros_95d88, Cond.static yJ13_numberOfLeadingZeros_95d88, Cond.initialized RJ13, Cond.code yJ13_numberOfLeadingZeros_95d88 cJ13_numberOfLeadingZeros_95d88 3 (some .int), Cond.methodLink RJ13 308 yJ6_numberOfLeadingZeros_0f7a4, Cond.static yJ6_numberOfLeadingZeros_0f7a4, Cond.initialized RJ6, Cond.code yJ6_numberOfLeadingZeros_0f7a4 cJ6_numberOfLeadingZeros_0f7a4 2 (some .int), Cond.constant RJ6 264 (65536), Cond.methodLink RX1 52 yX1_roundedOff, Cond.static yX1_roundedOff, Cond.code yX1_roundedOff cX1_roundedOff 10 (some .long), Cond.methodLink RX1 38 yX1_withSign, Cond.static yX1_withSign, Cond.code yX1_withSign cX1_withSign 4 (some .long), Cond.constantLong RX1 56 (-1), Cond.methodLink RX1 25 yX1_nearestFloat, Cond.static yX1_nearestFloat, Cond.code yX1_nearestFloat cX1_nearestFloat 4 (some .long), Cond.methodLink RX1 31 yX1_sizeOf, Cond.static yX1_sizeOf, Cond.code yX1_sizeOf cX1_sizeOf 2 (some .long)]
def wsX3_read_r6 : List Cond := [Cond.methodLink RX1 28 yX1_nearestDouble, Cond.static yX1_nearestDouble, Cond.code yX1_nearestDouble cX1_nearestDouble 4 (some .long)]
def wsX3_read : List Cond := .code yX3_read cX3_read 10 (some .int) :: ((wsX3_read_r1 ++ (wsX3_read_r2 ++ (wsX3_read_r3 ++ (wsX3_read_r4 ++ (wsX3_read_r5 ++ wsX3_read_r6))))) ++ wsX30 ++ wsX00 ++ wsX20)
def wsX3_write_r1 : List Cond := [Cond.fieldLink RX3 22 "DrillCores" "hand" "LDrillCores$Hand;", Cond.fieldLink RX3 81 "DrillCores$Hand" "cause" "I", Cond.fieldLink RX3 95 "DrillCores$Row" "numbers" "[J", Cond.fieldLink RX3 73 "DrillCores$Row" "kind" "I", Cond.methodLink RX3 37 yX3_isBox, Cond.static yX3_isBox, Cond.initialized RX3, Cond.code yX3_isBox cX3_isBox 1 (some .boolean), Cond.methodLink RX3 51 yX3_isSteps, Cond.static yX3_isSteps, Cond.code yX3_isSteps cX3_isSteps 3 (some .boolean), Cond.methodLink RX3 41 yX3_isKind, Cond.static yX3_isKind, Cond.code yX3_isKind cX3_isKind 1 (some .boolean), Cond.methodLink RX3 77 yX3_rowThere, Cond.instanceMethod yX3_rowThere, Cond.selects RX3 yX3_rowThere yX3_rowThere, Cond.code yX3_rowThere cX3_rowThere 6 (some (.object "DrillCores$Row")), Cond.fieldLink RX3 69 "DrillCores$Hand" "row" "LDrillCores$Row;", Cond.methodLink RX3 55 yX3_walk, Cond.instanceMethod yX3_walk, Cond.selects RX3 yX3_walk yX3_walk, Cond.code yX3_walk cX3_walk 7 (some .int), Cond.fieldLink RX3 11 "DrillCores" "boxes" "[LDrillCores$Row;"]
def wsX3_write_r2 : List Cond := [Cond.methodLink RX3 149 yX0_startAt, Cond.instanceMethod yX0_startAt, Cond.selects RX0 yX0_startAt yX0_startAt, Cond.initialized RX0, Cond.code yX0_startAt cX0_startAt 2 none, Cond.fieldLink RX0 9 "DrillCores$Hand" "row" "LDrillCores$Row;", Cond.fieldLink RX0 15 "DrillCores$Hand" "onNumber" "Z", Cond.fieldLink RX0 19 "DrillCores$Hand" "cause" "I", Cond.methodLink RX3 87 yX3_placeOfStep, Cond.static yX3_placeOfStep, Cond.code yX3_placeOfStep cX3_placeOfStep 4 (some .int), Cond.methodLink RX3 153 yX0_stepTo, Cond.instanceMethod yX0_stepTo, Cond.selects RX0 yX0_stepTo yX0_stepTo, Cond.code yX0_stepTo cX0_stepTo 3 none, Cond.fieldLink RX0 36 "DrillCores$Row" "kind" "I", Cond.fieldLink RX0 39 "DrillCores$Hand" "kind" "I", Cond.fieldLink RX0 40 "DrillCores$Row" "numbers" "[J", Cond.fieldLink RX0 44 "DrillCores$Hand" "number" "J", Cond.fieldLink RX0 48 "DrillCores$Row" "rows" "[LDrillCores$Row;", Cond.methodLink RX0 23 yX0_wantRow, Cond.instanceMethod yX0_wantRow, Cond.selects RX0 yX0_wantRow yX0_wantRow, Cond.code yX0_wantRow cX0_wantRow 1 none]
def wsX3_write_r3 : List Cond := [Cond.methodLink RX0 26 yX2_hasPlace, Cond.instanceMethod yX2_hasPlace, Cond.selects RX2 yX2_hasPlace yX2_hasPlace, Cond.initialized RX2, Cond.code yX2_hasPlace cX2_hasPlace 2 (some .boolean), Cond.fieldLink RX2 18 "DrillCores$Row" "size" "I", Cond.methodLink RX0 32 yX2_hasNumbers, Cond.instanceMethod yX2_hasNumbers, Cond.selects RX2 yX2_hasNumbers yX2_hasNumbers, Cond.code yX2_hasNumbers cX2_hasNumbers 1 (some .boolean), Cond.fieldLink RX2 15 "DrillCores$Row" "depth" "I", Cond.methodLink RX3 157 yX0_wantRow, Cond.methodLink RX3 44 yX3_met, Cond.instanceMethod yX3_met, Cond.selects RX3 yX3_met yX3_met, Cond.code yX3_met cX3_met 2 (some .int), Cond.fieldLink RX3 15 "DrillCores" "causesMet" "[I", Cond.methodLink RX3 105 yX2_causeToWrite, Cond.instanceMethod yX2_causeToWrite, Cond.selects RX2 yX2_causeToWrite yX2_causeToWrite, Cond.code yX2_causeToWrite cX2_causeToWrite 3 (some .int), Cond.fieldLink RX2 9 "DrillCores$Row" "kind" "I", Cond.methodLink RX2 29 yX2_causeAtNumber, Cond.instanceMethod yX2_causeAtNumber]
def wsX3_write_r4 : List Cond := [Cond.selects RX2 yX2_causeAtNumber yX2_causeAtNumber, Cond.code yX2_causeAtNumber cX2_causeAtNumber 4 (some .int), Cond.methodLink RX2 33 yX2_hasNumbers, Cond.methodLink RX2 37 yX2_hasPlace, Cond.methodLink RX2 41 yX1_goesInto, Cond.static yX1_goesInto, Cond.initialized RX1, Cond.code yX1_goesInto cX1_goesInto 2 (some .boolean), Cond.methodLink RX3 108 yX1_told, Cond.static yX1_told, Cond.code yX1_told cX1_told 3 (some .long), Cond.constantLong RX1 13 (2139095040), Cond.constantLong RX1 15 (2143289344), Cond.constantLong RX1 17 (9218868437227405312), Cond.constantLong RX1 19 (9221120237041090560), Cond.methodLink RX1 9 yX1_lowBits, Cond.static yX1_lowBits, Cond.code yX1_lowBits cX1_lowBits 1 (some .long), Cond.methodLink RX3 99 yX1_asKind, Cond.static yX1_asKind, Cond.code yX1_asKind cX1_asKind 4 (some .long), Cond.methodLink RX1 21 yX1_doubleOfFloat, Cond.static yX1_doubleOfFloat, Cond.code yX1_doubleOfFloat cX1_doubleOfFloat 10 (some .long)]
def wsX3_write_r5 : List Cond := [Cond.constantLong RX1 42 (127), Cond.constantLong RX1 44 (1023), Cond.methodLink RX1 34 yX1_nearest, Cond.static yX1_nearest, Cond.code yX1_nearest cX1_nearest 7 (some .long), Cond.methodLink RX1 46 yJ13_numberOfLeadingZeros_95d88, Cond.static yJ13_numberOfLeadingZeros_95d88, Cond.initialized RJ13, Cond.code yJ13_numberOfLeadingZeros_95d88 cJ13_numberOfLeadingZeros_95d88 3 (some .int), Cond.methodLink RJ13 308 yJ6_numberOfLeadingZeros_0f7a4, Cond.static yJ6_numberOfLeadingZeros_0f7a4, Cond.initialized RJ6, Cond.code yJ6_numberOfLeadingZeros_0f7a4 cJ6_numberOfLeadingZeros_0f7a4 2 (some .int), Cond.constant RJ6 264 (65536), Cond.methodLink RX1 52 yX1_roundedOff, Cond.static yX1_roundedOff, Cond.code yX1_roundedOff cX1_roundedOff 10 (some .long), Cond.methodLink RX1 38 yX1_withSign, Cond.static yX1_withSign, Cond.code yX1_withSign cX1_withSign 4 (some .long), Cond.constantLong RX1 56 (-1), Cond.methodLink RX1 25 yX1_nearestFloat, Cond.static yX1_nearestFloat, Cond.code yX1_nearestFloat cX1_nearestFloat 4 (some .long)]
def wsX3_write_r6 : List Cond := [Cond.methodLink RX1 31 yX1_sizeOf, Cond.static yX1_sizeOf, Cond.code yX1_sizeOf cX1_sizeOf 2 (some .long), Cond.methodLink RX1 28 yX1_nearestDouble, Cond.static yX1_nearestDouble, Cond.code yX1_nearestDouble cX1_nearestDouble 4 (some .long)]
def wsX3_write : List Cond := .code yX3_write cX3_write 12 (some .int) :: ((wsX3_write_r1 ++ (wsX3_write_r2 ++ (wsX3_write_r3 ++ (wsX3_write_r4 ++ (wsX3_write_r5 ++ wsX3_write_r6))))) ++ wsX30 ++ wsX00 ++ wsX20)
def wsX3_hang_r1 : List Cond := [Cond.fieldLink RX3 22 "DrillCores" "hand" "LDrillCores$Hand;", Cond.fieldLink RX3 81 "DrillCores$Hand" "cause" "I", Cond.fieldLink RX3 11 "DrillCores" "boxes" "[LDrillCores$Row;", Cond.fieldLink RX3 116 "DrillCores$Row" "rows" "[LDrillCores$Row;", Cond.methodLink RX3 37 yX3_isBox, Cond.static yX3_isBox, Cond.initialized RX3, Cond.code yX3_isBox cX3_isBox 1 (some .boolean), Cond.methodLink RX3 51 yX3_isSteps, Cond.static yX3_isSteps, Cond.code yX3_isSteps cX3_isSteps 3 (some .boolean), Cond.methodLink RX3 77 yX3_rowThere, Cond.instanceMethod yX3_rowThere, Cond.selects RX3 yX3_rowThere yX3_rowThere, Cond.code yX3_rowThere cX3_rowThere 6 (some (.object "DrillCores$Row")), Cond.fieldLink RX3 69 "DrillCores$Hand" "row" "LDrillCores$Row;", Cond.methodLink RX3 55 yX3_walk, Cond.instanceMethod yX3_walk, Cond.selects RX3 yX3_walk yX3_walk, Cond.code yX3_walk cX3_walk 7 (some .int), Cond.methodLink RX3 149 yX0_startAt, Cond.instanceMethod yX0_startAt, Cond.selects RX0 yX0_startAt yX0_startAt, Cond.initialized RX0]
def wsX3_hang_r2 : List Cond := [Cond.code yX0_startAt cX0_startAt 2 none, Cond.fieldLink RX0 9 "DrillCores$Hand" "row" "LDrillCores$Row;", Cond.fieldLink RX0 15 "DrillCores$Hand" "onNumber" "Z", Cond.fieldLink RX0 19 "DrillCores$Hand" "cause" "I", Cond.methodLink RX3 87 yX3_placeOfStep, Cond.static yX3_placeOfStep, Cond.code yX3_placeOfStep cX3_placeOfStep 4 (some .int), Cond.methodLink RX3 153 yX0_stepTo, Cond.instanceMethod yX0_stepTo, Cond.selects RX0 yX0_stepTo yX0_stepTo, Cond.code yX0_stepTo cX0_stepTo 3 none, Cond.fieldLink RX0 36 "DrillCores$Row" "kind" "I", Cond.fieldLink RX0 39 "DrillCores$Hand" "kind" "I", Cond.fieldLink RX0 40 "DrillCores$Row" "numbers" "[J", Cond.fieldLink RX0 44 "DrillCores$Hand" "number" "J", Cond.fieldLink RX0 48 "DrillCores$Row" "rows" "[LDrillCores$Row;", Cond.methodLink RX0 23 yX0_wantRow, Cond.instanceMethod yX0_wantRow, Cond.selects RX0 yX0_wantRow yX0_wantRow, Cond.code yX0_wantRow cX0_wantRow 1 none, Cond.methodLink RX0 26 yX2_hasPlace, Cond.instanceMethod yX2_hasPlace, Cond.selects RX2 yX2_hasPlace yX2_hasPlace, Cond.initialized RX2]
def wsX3_hang_r3 : List Cond := [Cond.code yX2_hasPlace cX2_hasPlace 2 (some .boolean), Cond.fieldLink RX2 18 "DrillCores$Row" "size" "I", Cond.methodLink RX0 32 yX2_hasNumbers, Cond.instanceMethod yX2_hasNumbers, Cond.selects RX2 yX2_hasNumbers yX2_hasNumbers, Cond.code yX2_hasNumbers cX2_hasNumbers 1 (some .boolean), Cond.fieldLink RX2 15 "DrillCores$Row" "depth" "I", Cond.methodLink RX3 157 yX0_wantRow, Cond.methodLink RX3 44 yX3_met, Cond.instanceMethod yX3_met, Cond.selects RX3 yX3_met yX3_met, Cond.code yX3_met cX3_met 2 (some .int), Cond.fieldLink RX3 15 "DrillCores" "causesMet" "[I", Cond.methodLink RX3 112 yX2_causeToHang, Cond.instanceMethod yX2_causeToHang, Cond.selects RX2 yX2_causeToHang yX2_causeToHang, Cond.code yX2_causeToHang cX2_causeToHang 3 (some .int), Cond.fieldLink RX2 9 "DrillCores$Row" "kind" "I", Cond.methodLink RX2 33 yX2_hasNumbers, Cond.methodLink RX2 37 yX2_hasPlace]
def wsX3_hang : List Cond := .code yX3_hang cX3_hang 10 (some .int) :: ((wsX3_hang_r1 ++ (wsX3_hang_r2 ++ wsX3_hang_r3)) ++ wsX30 ++ wsX00 ++ wsX20)
def wsX3_lift_r1 : List Cond := [Cond.fieldLink RX3 22 "DrillCores" "hand" "LDrillCores$Hand;", Cond.fieldLink RX3 59 "DrillCores$Hand" "onNumber" "Z", Cond.fieldLink RX3 11 "DrillCores" "boxes" "[LDrillCores$Row;", Cond.fieldLink RX3 69 "DrillCores$Hand" "row" "LDrillCores$Row;", Cond.methodLink RX3 37 yX3_isBox, Cond.static yX3_isBox, Cond.initialized RX3, Cond.code yX3_isBox cX3_isBox 1 (some .boolean), Cond.methodLink RX3 51 yX3_isSteps, Cond.static yX3_isSteps, Cond.code yX3_isSteps cX3_isSteps 3 (some .boolean), Cond.methodLink RX3 55 yX3_walk, Cond.instanceMethod yX3_walk, Cond.selects RX3 yX3_walk yX3_walk, Cond.code yX3_walk cX3_walk 7 (some .int), Cond.fieldLink RX3 81 "DrillCores$Hand" "cause" "I", Cond.methodLink RX3 149 yX0_startAt, Cond.instanceMethod yX0_startAt, Cond.selects RX0 yX0_startAt yX0_startAt, Cond.initialized RX0, Cond.code yX0_startAt cX0_startAt 2 none, Cond.fieldLink RX0 9 "DrillCores$Hand" "row" "LDrillCores$Row;", Cond.fieldLink RX0 15 "DrillCores$Hand" "onNumber" "Z", Cond.fieldLink RX0 19 "DrillCores$Hand" "cause" "I"]
def wsX3_lift_r2 : List Cond := [Cond.methodLink RX3 87 yX3_placeOfStep, Cond.static yX3_placeOfStep, Cond.code yX3_placeOfStep cX3_placeOfStep 4 (some .int), Cond.methodLink RX3 153 yX0_stepTo, Cond.instanceMethod yX0_stepTo, Cond.selects RX0 yX0_stepTo yX0_stepTo, Cond.code yX0_stepTo cX0_stepTo 3 none, Cond.fieldLink RX0 36 "DrillCores$Row" "kind" "I", Cond.fieldLink RX0 39 "DrillCores$Hand" "kind" "I", Cond.fieldLink RX0 40 "DrillCores$Row" "numbers" "[J", Cond.fieldLink RX0 44 "DrillCores$Hand" "number" "J", Cond.fieldLink RX0 48 "DrillCores$Row" "rows" "[LDrillCores$Row;", Cond.methodLink RX0 23 yX0_wantRow, Cond.instanceMethod yX0_wantRow, Cond.selects RX0 yX0_wantRow yX0_wantRow, Cond.code yX0_wantRow cX0_wantRow 1 none, Cond.methodLink RX0 26 yX2_hasPlace, Cond.instanceMethod yX2_hasPlace, Cond.selects RX2 yX2_hasPlace yX2_hasPlace, Cond.initialized RX2, Cond.code yX2_hasPlace cX2_hasPlace 2 (some .boolean), Cond.fieldLink RX2 18 "DrillCores$Row" "size" "I", Cond.methodLink RX0 32 yX2_hasNumbers, Cond.instanceMethod yX2_hasNumbers]
def wsX3_lift_r3 : List Cond := [Cond.selects RX2 yX2_hasNumbers yX2_hasNumbers, Cond.code yX2_hasNumbers cX2_hasNumbers 1 (some .boolean), Cond.fieldLink RX2 15 "DrillCores$Row" "depth" "I", Cond.methodLink RX3 44 yX3_met, Cond.instanceMethod yX3_met, Cond.selects RX3 yX3_met yX3_met, Cond.code yX3_met cX3_met 2 (some .int), Cond.fieldLink RX3 15 "DrillCores" "causesMet" "[I"]
def wsX3_lift : List Cond := .code yX3_lift cX3_lift 8 (some .int) :: ((wsX3_lift_r1 ++ (wsX3_lift_r2 ++ wsX3_lift_r3)) ++ wsX30 ++ wsX00 ++ wsX20)
def wsX3_turn_r1 : List Cond := [Cond.fieldLink RX3 22 "DrillCores" "hand" "LDrillCores$Hand;", Cond.fieldLink RX3 81 "DrillCores$Hand" "cause" "I", Cond.methodLink RX3 37 yX3_isBox, Cond.static yX3_isBox, Cond.initialized RX3, Cond.code yX3_isBox cX3_isBox 1 (some .boolean), Cond.methodLink RX3 51 yX3_isSteps, Cond.static yX3_isSteps, Cond.code yX3_isSteps cX3_isSteps 3 (some .boolean), Cond.methodLink RX3 77 yX3_rowThere, Cond.instanceMethod yX3_rowThere, Cond.selects RX3 yX3_rowThere yX3_rowThere, Cond.code yX3_rowThere cX3_rowThere 6 (some (.object "DrillCores$Row")), Cond.fieldLink RX3 69 "DrillCores$Hand" "row" "LDrillCores$Row;", Cond.methodLink RX3 55 yX3_walk, Cond.instanceMethod yX3_walk, Cond.selects RX3 yX3_walk yX3_walk, Cond.code yX3_walk cX3_walk 7 (some .int), Cond.fieldLink RX3 11 "DrillCores" "boxes" "[LDrillCores$Row;", Cond.methodLink RX3 149 yX0_startAt, Cond.instanceMethod yX0_startAt, Cond.selects RX0 yX0_startAt yX0_startAt, Cond.initialized RX0, Cond.code yX0_startAt cX0_startAt 2 none]
def wsX3_turn_r2 : List Cond := [Cond.fieldLink RX0 9 "DrillCores$Hand" "row" "LDrillCores$Row;", Cond.fieldLink RX0 15 "DrillCores$Hand" "onNumber" "Z", Cond.fieldLink RX0 19 "DrillCores$Hand" "cause" "I", Cond.methodLink RX3 87 yX3_placeOfStep, Cond.static yX3_placeOfStep, Cond.code yX3_placeOfStep cX3_placeOfStep 4 (some .int), Cond.methodLink RX3 153 yX0_stepTo, Cond.instanceMethod yX0_stepTo, Cond.selects RX0 yX0_stepTo yX0_stepTo, Cond.code yX0_stepTo cX0_stepTo 3 none, Cond.fieldLink RX0 36 "DrillCores$Row" "kind" "I", Cond.fieldLink RX0 39 "DrillCores$Hand" "kind" "I", Cond.fieldLink RX0 40 "DrillCores$Row" "numbers" "[J", Cond.fieldLink RX0 44 "DrillCores$Hand" "number" "J", Cond.fieldLink RX0 48 "DrillCores$Row" "rows" "[LDrillCores$Row;", Cond.methodLink RX0 23 yX0_wantRow, Cond.instanceMethod yX0_wantRow, Cond.selects RX0 yX0_wantRow yX0_wantRow, Cond.code yX0_wantRow cX0_wantRow 1 none, Cond.methodLink RX0 26 yX2_hasPlace, Cond.instanceMethod yX2_hasPlace, Cond.selects RX2 yX2_hasPlace yX2_hasPlace, Cond.initialized RX2, Cond.code yX2_hasPlace cX2_hasPlace 2 (some .boolean)]
def wsX3_turn_r3 : List Cond := [Cond.fieldLink RX2 18 "DrillCores$Row" "size" "I", Cond.methodLink RX0 32 yX2_hasNumbers, Cond.instanceMethod yX2_hasNumbers, Cond.selects RX2 yX2_hasNumbers yX2_hasNumbers, Cond.code yX2_hasNumbers cX2_hasNumbers 1 (some .boolean), Cond.fieldLink RX2 15 "DrillCores$Row" "depth" "I", Cond.methodLink RX3 157 yX0_wantRow, Cond.methodLink RX3 44 yX3_met, Cond.instanceMethod yX3_met, Cond.selects RX3 yX3_met yX3_met, Cond.code yX3_met cX3_met 2 (some .int), Cond.fieldLink RX3 15 "DrillCores" "causesMet" "[I", Cond.methodLink RX3 119 yX2_hasPlace, Cond.methodLink RX3 122 yX2_exchange, Cond.instanceMethod yX2_exchange, Cond.selects RX2 yX2_exchange yX2_exchange, Cond.code yX2_exchange cX2_exchange 5 none, Cond.fieldLink RX2 21 "DrillCores$Row" "numbers" "[J", Cond.fieldLink RX2 25 "DrillCores$Row" "rows" "[LDrillCores$Row;", Cond.methodLink RX2 33 yX2_hasNumbers]
def wsX3_turn : List Cond := .code yX3_turn cX3_turn 8 (some .int) :: ((wsX3_turn_r1 ++ (wsX3_turn_r2 ++ wsX3_turn_r3)) ++ wsX30 ++ wsX00 ++ wsX20)
def wsX3_fill_r1 : List Cond := [Cond.fieldLink RX3 22 "DrillCores" "hand" "LDrillCores$Hand;", Cond.fieldLink RX3 81 "DrillCores$Hand" "cause" "I", Cond.fieldLink RX3 84 "DrillCores$Row" "size" "I", Cond.fieldLink RX3 73 "DrillCores$Row" "kind" "I", Cond.fieldLink RX3 95 "DrillCores$Row" "numbers" "[J", Cond.methodLink RX3 37 yX3_isBox, Cond.static yX3_isBox, Cond.initialized RX3, Cond.code yX3_isBox cX3_isBox 1 (some .boolean), Cond.methodLink RX3 51 yX3_isSteps, Cond.static yX3_isSteps, Cond.code yX3_isSteps cX3_isSteps 3 (some .boolean), Cond.methodLink RX3 41 yX3_isKind, Cond.static yX3_isKind, Cond.code yX3_isKind cX3_isKind 1 (some .boolean), Cond.methodLink RX3 77 yX3_rowThere, Cond.instanceMethod yX3_rowThere, Cond.selects RX3 yX3_rowThere yX3_rowThere, Cond.code yX3_rowThere cX3_rowThere 6 (some (.object "DrillCores$Row")), Cond.fieldLink RX3 69 "DrillCores$Hand" "row" "LDrillCores$Row;", Cond.methodLink RX3 55 yX3_walk, Cond.instanceMethod yX3_walk, Cond.selects RX3 yX3_walk yX3_walk, Cond.code yX3_walk cX3_walk 7 (some .int)]
def wsX3_fill_r2 : List Cond := [Cond.fieldLink RX3 11 "DrillCores" "boxes" "[LDrillCores$Row;", Cond.methodLink RX3 149 yX0_startAt, Cond.instanceMethod yX0_startAt, Cond.selects RX0 yX0_startAt yX0_startAt, Cond.initialized RX0, Cond.code yX0_startAt cX0_startAt 2 none, Cond.fieldLink RX0 9 "DrillCores$Hand" "row" "LDrillCores$Row;", Cond.fieldLink RX0 15 "DrillCores$Hand" "onNumber" "Z", Cond.fieldLink RX0 19 "DrillCores$Hand" "cause" "I", Cond.methodLink RX3 87 yX3_placeOfStep, Cond.static yX3_placeOfStep, Cond.code yX3_placeOfStep cX3_placeOfStep 4 (some .int), Cond.methodLink RX3 153 yX0_stepTo, Cond.instanceMethod yX0_stepTo, Cond.selects RX0 yX0_stepTo yX0_stepTo, Cond.code yX0_stepTo cX0_stepTo 3 none, Cond.fieldLink RX0 36 "DrillCores$Row" "kind" "I", Cond.fieldLink RX0 39 "DrillCores$Hand" "kind" "I", Cond.fieldLink RX0 40 "DrillCores$Row" "numbers" "[J", Cond.fieldLink RX0 44 "DrillCores$Hand" "number" "J", Cond.fieldLink RX0 48 "DrillCores$Row" "rows" "[LDrillCores$Row;", Cond.methodLink RX0 23 yX0_wantRow, Cond.instanceMethod yX0_wantRow, Cond.selects RX0 yX0_wantRow yX0_wantRow]
def wsX3_fill_r3 : List Cond := [Cond.code yX0_wantRow cX0_wantRow 1 none, Cond.methodLink RX0 26 yX2_hasPlace, Cond.instanceMethod yX2_hasPlace, Cond.selects RX2 yX2_hasPlace yX2_hasPlace, Cond.initialized RX2, Cond.code yX2_hasPlace cX2_hasPlace 2 (some .boolean), Cond.fieldLink RX2 18 "DrillCores$Row" "size" "I", Cond.methodLink RX0 32 yX2_hasNumbers, Cond.instanceMethod yX2_hasNumbers, Cond.selects RX2 yX2_hasNumbers yX2_hasNumbers, Cond.code yX2_hasNumbers cX2_hasNumbers 1 (some .boolean), Cond.fieldLink RX2 15 "DrillCores$Row" "depth" "I", Cond.methodLink RX3 157 yX0_wantRow, Cond.methodLink RX3 44 yX3_met, Cond.instanceMethod yX3_met, Cond.selects RX3 yX3_met yX3_met, Cond.code yX3_met cX3_met 2 (some .int), Cond.fieldLink RX3 15 "DrillCores" "causesMet" "[I", Cond.methodLink RX3 105 yX2_causeToWrite, Cond.instanceMethod yX2_causeToWrite, Cond.selects RX2 yX2_causeToWrite yX2_causeToWrite, Cond.code yX2_causeToWrite cX2_causeToWrite 3 (some .int), Cond.fieldLink RX2 9 "DrillCores$Row" "kind" "I", Cond.methodLink RX2 29 yX2_causeAtNumber]
def wsX3_fill_r4 : List Cond := [Cond.instanceMethod yX2_causeAtNumber, Cond.selects RX2 yX2_causeAtNumber yX2_causeAtNumber, Cond.code yX2_causeAtNumber cX2_causeAtNumber 4 (some .int), Cond.methodLink RX2 33 yX2_hasNumbers, Cond.methodLink RX2 37 yX2_hasPlace, Cond.methodLink RX2 41 yX1_goesInto, Cond.static yX1_goesInto, Cond.initialized RX1, Cond.code yX1_goesInto cX1_goesInto 2 (some .boolean), Cond.methodLink RX3 108 yX1_told, Cond.static yX1_told, Cond.code yX1_told cX1_told 3 (some .long), Cond.constantLong RX1 13 (2139095040), Cond.constantLong RX1 15 (2143289344), Cond.constantLong RX1 17 (9218868437227405312), Cond.constantLong RX1 19 (9221120237041090560), Cond.methodLink RX1 9 yX1_lowBits, Cond.static yX1_lowBits, Cond.code yX1_lowBits cX1_lowBits 1 (some .long), Cond.methodLink RX3 99 yX1_asKind, Cond.static yX1_asKind, Cond.code yX1_asKind cX1_asKind 4 (some .long), Cond.methodLink RX1 21 yX1_doubleOfFloat, Cond.static yX1_doubleOfFloat]
def wsX3_fill_r5 : List Cond := [Cond.code yX1_doubleOfFloat cX1_doubleOfFloat 10 (some .long), Cond.constantLong RX1 42 (127), Cond.constantLong RX1 44 (1023), Cond.methodLink RX1 34 yX1_nearest, Cond.static yX1_nearest, Cond.code yX1_nearest cX1_nearest 7 (some .long), Cond.methodLink RX1 46 yJ13_numberOfLeadingZeros_95d88, Cond.static yJ13_numberOfLeadingZeros_95d88, Cond.initialized RJ13, Cond.code yJ13_numberOfLeadingZeros_95d88 cJ13_numberOfLeadingZeros_95d88 3 (some .int), Cond.methodLink RJ13 308 yJ6_numberOfLeadingZeros_0f7a4, Cond.static yJ6_numberOfLeadingZeros_0f7a4, Cond.initialized RJ6, Cond.code yJ6_numberOfLeadingZeros_0f7a4 cJ6_numberOfLeadingZeros_0f7a4 2 (some .int), Cond.constant RJ6 264 (65536), Cond.methodLink RX1 52 yX1_roundedOff, Cond.static yX1_roundedOff, Cond.code yX1_roundedOff cX1_roundedOff 10 (some .long), Cond.methodLink RX1 38 yX1_withSign, Cond.static yX1_withSign, Cond.code yX1_withSign cX1_withSign 4 (some .long), Cond.constantLong RX1 56 (-1), Cond.methodLink RX1 25 yX1_nearestFloat, Cond.static yX1_nearestFloat]
def wsX3_fill_r6 : List Cond := [Cond.code yX1_nearestFloat cX1_nearestFloat 4 (some .long), Cond.methodLink RX1 31 yX1_sizeOf, Cond.static yX1_sizeOf, Cond.code yX1_sizeOf cX1_sizeOf 2 (some .long), Cond.methodLink RX1 28 yX1_nearestDouble, Cond.static yX1_nearestDouble, Cond.code yX1_nearestDouble cX1_nearestDouble 4 (some .long)]
def wsX3_fill : List Cond := .code yX3_fill cX3_fill 13 (some .int) :: ((wsX3_fill_r1 ++ (wsX3_fill_r2 ++ (wsX3_fill_r3 ++ (wsX3_fill_r4 ++ (wsX3_fill_r5 ++ wsX3_fill_r6))))) ++ wsX30 ++ wsX00 ++ wsX20)
def wsX3_pour_r1 : List Cond := [Cond.fieldLink RX3 30 "DrillCores" "lastMoved" "I", Cond.fieldLink RX3 11 "DrillCores" "boxes" "[LDrillCores$Row;", Cond.fieldLink RX3 84 "DrillCores$Row" "size" "I", Cond.methodLink RX3 37 yX3_isBox, Cond.static yX3_isBox, Cond.initialized RX3, Cond.code yX3_isBox cX3_isBox 1 (some .boolean), Cond.methodLink RX3 44 yX3_met, Cond.instanceMethod yX3_met, Cond.selects RX3 yX3_met yX3_met, Cond.code yX3_met cX3_met 2 (some .int), Cond.fieldLink RX3 15 "DrillCores" "causesMet" "[I", Cond.methodLink RX3 126 yX2_causeToPour, Cond.instanceMethod yX2_causeToPour, Cond.selects RX2 yX2_causeToPour yX2_causeToPour, Cond.initialized RX2, Cond.code yX2_causeToPour cX2_causeToPour 3 (some .int), Cond.fieldLink RX2 25 "DrillCores$Row" "rows" "[LDrillCores$Row;", Cond.fieldLink RX2 9 "DrillCores$Row" "kind" "I", Cond.methodLink RX2 33 yX2_hasNumbers, Cond.instanceMethod yX2_hasNumbers, Cond.selects RX2 yX2_hasNumbers yX2_hasNumbers, Cond.code yX2_hasNumbers cX2_hasNumbers 1 (some .boolean), Cond.fieldLink RX2 15 "DrillCores$Row" "depth" "I"]
def wsX3_pour_r2 : List Cond := [Cond.methodLink RX2 47 yX2_causeToHang, Cond.instanceMethod yX2_causeToHang, Cond.selects RX2 yX2_causeToHang yX2_causeToHang, Cond.code yX2_causeToHang cX2_causeToHang 3 (some .int), Cond.methodLink RX2 37 yX2_hasPlace, Cond.instanceMethod yX2_hasPlace, Cond.selects RX2 yX2_hasPlace yX2_hasPlace, Cond.code yX2_hasPlace cX2_hasPlace 2 (some .boolean), Cond.fieldLink RX2 18 "DrillCores$Row" "size" "I", Cond.methodLink RX2 41 yX1_goesInto, Cond.static yX1_goesInto, Cond.initialized RX1, Cond.code yX1_goesInto cX1_goesInto 2 (some .boolean), Cond.methodLink RX3 129 yX2_pourIn, Cond.instanceMethod yX2_pourIn, Cond.selects RX2 yX2_pourIn yX2_pourIn, Cond.code yX2_pourIn cX2_pourIn 3 none, Cond.fieldLink RX2 21 "DrillCores$Row" "numbers" "[J", Cond.methodLink RX2 51 yX1_asKind, Cond.static yX1_asKind, Cond.code yX1_asKind cX1_asKind 4 (some .long), Cond.methodLink RX1 21 yX1_doubleOfFloat, Cond.static yX1_doubleOfFloat, Cond.code yX1_doubleOfFloat cX1_doubleOfFloat 10 (some .long)]
def wsX3_pour_r3 : List Cond := [Cond.constantLong RX1 13 (2139095040), Cond.constantLong RX1 19 (9221120237041090560), Cond.constantLong RX1 17 (9218868437227405312), Cond.constantLong RX1 42 (127), Cond.constantLong RX1 44 (1023), Cond.methodLink RX1 9 yX1_lowBits, Cond.static yX1_lowBits, Cond.code yX1_lowBits cX1_lowBits 1 (some .long), Cond.methodLink RX1 34 yX1_nearest, Cond.static yX1_nearest, Cond.code yX1_nearest cX1_nearest 7 (some .long), Cond.methodLink RX1 46 yJ13_numberOfLeadingZeros_95d88, Cond.static yJ13_numberOfLeadingZeros_95d88, Cond.initialized RJ13, Cond.code yJ13_numberOfLeadingZeros_95d88 cJ13_numberOfLeadingZeros_95d88 3 (some .int), Cond.methodLink RJ13 308 yJ6_numberOfLeadingZeros_0f7a4, Cond.static yJ6_numberOfLeadingZeros_0f7a4, Cond.initialized RJ6, Cond.code yJ6_numberOfLeadingZeros_0f7a4 cJ6_numberOfLeadingZeros_0f7a4 2 (some .int), Cond.constant RJ6 264 (65536), Cond.methodLink RX1 52 yX1_roundedOff, Cond.static yX1_roundedOff, Cond.code yX1_roundedOff cX1_roundedOff 10 (some .long), Cond.methodLink RX1 38 yX1_withSign]
def wsX3_pour_r4 : List Cond := [Cond.static yX1_withSign, Cond.code yX1_withSign cX1_withSign 4 (some .long), Cond.constantLong RX1 56 (-1), Cond.methodLink RX1 25 yX1_nearestFloat, Cond.static yX1_nearestFloat, Cond.code yX1_nearestFloat cX1_nearestFloat 4 (some .long), Cond.methodLink RX1 31 yX1_sizeOf, Cond.static yX1_sizeOf, Cond.code yX1_sizeOf cX1_sizeOf 2 (some .long), Cond.methodLink RX1 28 yX1_nearestDouble, Cond.static yX1_nearestDouble, Cond.code yX1_nearestDouble cX1_nearestDouble 4 (some .long)]
def wsX3_pour : List Cond := .code yX3_pour cX3_pour 7 (some .int) :: ((wsX3_pour_r1 ++ (wsX3_pour_r2 ++ (wsX3_pour_r3 ++ wsX3_pour_r4))) ++ wsX30 ++ wsX20)
def wsX3_moved : List Cond := .code yX3_moved cX3_moved 1 (some .int) :: ([.fieldLink RX3 30 "DrillCores" "lastMoved" "I"] ++ wsX30)
def wsX3_numbersIn : List Cond := .code yX3_numbersIn cX3_numbersIn 4 (some .int) :: ([.fieldLink RX3 95 "DrillCores$Row" "numbers" "[J", .fieldLink RX3 116 "DrillCores$Row" "rows" "[LDrillCores$Row;", .methodLink RX3 137 yX3_numbersIn, .static yX3_numbersIn, .initialized RX3] ++ wsX20)
def wsX3_sumOf : List Cond := .code yX3_sumOf cX3_sumOf 5 (some .long) :: ([.fieldLink RX3 95 "DrillCores$Row" "numbers" "[J", .fieldLink RX3 116 "DrillCores$Row" "rows" "[LDrillCores$Row;", .methodLink RX3 141 yX3_sumOf, .static yX3_sumOf, .initialized RX3] ++ wsX20)
def wsX3_total_r1 : List Cond := [Cond.fieldLink RX3 22 "DrillCores" "hand" "LDrillCores$Hand;", Cond.fieldLink RX3 81 "DrillCores$Hand" "cause" "I", Cond.fieldLink RX3 73 "DrillCores$Row" "kind" "I", Cond.fieldLink RX3 33 "DrillCores" "lastSeen" "J", Cond.methodLink RX3 37 yX3_isBox, Cond.static yX3_isBox, Cond.initialized RX3, Cond.code yX3_isBox cX3_isBox 1 (some .boolean), Cond.methodLink RX3 51 yX3_isSteps, Cond.static yX3_isSteps, Cond.code yX3_isSteps cX3_isSteps 3 (some .boolean), Cond.methodLink RX3 77 yX3_rowThere, Cond.instanceMethod yX3_rowThere, Cond.selects RX3 yX3_rowThere yX3_rowThere, Cond.code yX3_rowThere cX3_rowThere 6 (some (.object "DrillCores$Row")), Cond.fieldLink RX3 69 "DrillCores$Hand" "row" "LDrillCores$Row;", Cond.methodLink RX3 55 yX3_walk, Cond.instanceMethod yX3_walk, Cond.selects RX3 yX3_walk yX3_walk, Cond.code yX3_walk cX3_walk 7 (some .int), Cond.fieldLink RX3 11 "DrillCores" "boxes" "[LDrillCores$Row;", Cond.methodLink RX3 149 yX0_startAt, Cond.instanceMethod yX0_startAt, Cond.selects RX0 yX0_startAt yX0_startAt]
def wsX3_total_r2 : List Cond := [Cond.initialized RX0, Cond.code yX0_startAt cX0_startAt 2 none, Cond.fieldLink RX0 9 "DrillCores$Hand" "row" "LDrillCores$Row;", Cond.fieldLink RX0 15 "DrillCores$Hand" "onNumber" "Z", Cond.fieldLink RX0 19 "DrillCores$Hand" "cause" "I", Cond.methodLink RX3 87 yX3_placeOfStep, Cond.static yX3_placeOfStep, Cond.code yX3_placeOfStep cX3_placeOfStep 4 (some .int), Cond.methodLink RX3 153 yX0_stepTo, Cond.instanceMethod yX0_stepTo, Cond.selects RX0 yX0_stepTo yX0_stepTo, Cond.code yX0_stepTo cX0_stepTo 3 none, Cond.fieldLink RX0 36 "DrillCores$Row" "kind" "I", Cond.fieldLink RX0 39 "DrillCores$Hand" "kind" "I", Cond.fieldLink RX0 40 "DrillCores$Row" "numbers" "[J", Cond.fieldLink RX0 44 "DrillCores$Hand" "number" "J", Cond.fieldLink RX0 48 "DrillCores$Row" "rows" "[LDrillCores$Row;", Cond.methodLink RX0 23 yX0_wantRow, Cond.instanceMethod yX0_wantRow, Cond.selects RX0 yX0_wantRow yX0_wantRow, Cond.code yX0_wantRow cX0_wantRow 1 none, Cond.methodLink RX0 26 yX2_hasPlace, Cond.instanceMethod yX2_hasPlace, Cond.selects RX2 yX2_hasPlace yX2_hasPlace]
def wsX3_total_r3 : List Cond := [Cond.initialized RX2, Cond.code yX2_hasPlace cX2_hasPlace 2 (some .boolean), Cond.fieldLink RX2 18 "DrillCores$Row" "size" "I", Cond.methodLink RX0 32 yX2_hasNumbers, Cond.instanceMethod yX2_hasNumbers, Cond.selects RX2 yX2_hasNumbers yX2_hasNumbers, Cond.code yX2_hasNumbers cX2_hasNumbers 1 (some .boolean), Cond.fieldLink RX2 15 "DrillCores$Row" "depth" "I", Cond.methodLink RX3 157 yX0_wantRow, Cond.methodLink RX3 44 yX3_met, Cond.instanceMethod yX3_met, Cond.selects RX3 yX3_met yX3_met, Cond.code yX3_met cX3_met 2 (some .int), Cond.fieldLink RX3 15 "DrillCores" "causesMet" "[I", Cond.methodLink RX3 133 yX1_goesInto, Cond.static yX1_goesInto, Cond.initialized RX1, Cond.code yX1_goesInto cX1_goesInto 2 (some .boolean), Cond.methodLink RX3 137 yX3_numbersIn, Cond.static yX3_numbersIn, Cond.code yX3_numbersIn cX3_numbersIn 4 (some .int), Cond.fieldLink RX3 95 "DrillCores$Row" "numbers" "[J", Cond.fieldLink RX3 116 "DrillCores$Row" "rows" "[LDrillCores$Row;", Cond.methodLink RX3 141 yX3_sumOf]
def wsX3_total_r4 : List Cond := [Cond.static yX3_sumOf, Cond.code yX3_sumOf cX3_sumOf 5 (some .long)]
def wsX3_total : List Cond := .code yX3_total cX3_total 6 (some .int) :: ((wsX3_total_r1 ++ (wsX3_total_r2 ++ (wsX3_total_r3 ++ wsX3_total_r4))) ++ wsX30 ++ wsX00 ++ wsX20)
def wsX3_count_r1 : List Cond := [Cond.fieldLink RX3 22 "DrillCores" "hand" "LDrillCores$Hand;", Cond.fieldLink RX3 81 "DrillCores$Hand" "cause" "I", Cond.methodLink RX3 37 yX3_isBox, Cond.static yX3_isBox, Cond.initialized RX3, Cond.code yX3_isBox cX3_isBox 1 (some .boolean), Cond.methodLink RX3 51 yX3_isSteps, Cond.static yX3_isSteps, Cond.code yX3_isSteps cX3_isSteps 3 (some .boolean), Cond.methodLink RX3 77 yX3_rowThere, Cond.instanceMethod yX3_rowThere, Cond.selects RX3 yX3_rowThere yX3_rowThere, Cond.code yX3_rowThere cX3_rowThere 6 (some (.object "DrillCores$Row")), Cond.fieldLink RX3 69 "DrillCores$Hand" "row" "LDrillCores$Row;", Cond.methodLink RX3 55 yX3_walk, Cond.instanceMethod yX3_walk, Cond.selects RX3 yX3_walk yX3_walk, Cond.code yX3_walk cX3_walk 7 (some .int), Cond.fieldLink RX3 11 "DrillCores" "boxes" "[LDrillCores$Row;", Cond.methodLink RX3 149 yX0_startAt, Cond.instanceMethod yX0_startAt, Cond.selects RX0 yX0_startAt yX0_startAt, Cond.initialized RX0, Cond.code yX0_startAt cX0_startAt 2 none]
def wsX3_count_r2 : List Cond := [Cond.fieldLink RX0 9 "DrillCores$Hand" "row" "LDrillCores$Row;", Cond.fieldLink RX0 15 "DrillCores$Hand" "onNumber" "Z", Cond.fieldLink RX0 19 "DrillCores$Hand" "cause" "I", Cond.methodLink RX3 87 yX3_placeOfStep, Cond.static yX3_placeOfStep, Cond.code yX3_placeOfStep cX3_placeOfStep 4 (some .int), Cond.methodLink RX3 153 yX0_stepTo, Cond.instanceMethod yX0_stepTo, Cond.selects RX0 yX0_stepTo yX0_stepTo, Cond.code yX0_stepTo cX0_stepTo 3 none, Cond.fieldLink RX0 36 "DrillCores$Row" "kind" "I", Cond.fieldLink RX0 39 "DrillCores$Hand" "kind" "I", Cond.fieldLink RX0 40 "DrillCores$Row" "numbers" "[J", Cond.fieldLink RX0 44 "DrillCores$Hand" "number" "J", Cond.fieldLink RX0 48 "DrillCores$Row" "rows" "[LDrillCores$Row;", Cond.methodLink RX0 23 yX0_wantRow, Cond.instanceMethod yX0_wantRow, Cond.selects RX0 yX0_wantRow yX0_wantRow, Cond.code yX0_wantRow cX0_wantRow 1 none, Cond.methodLink RX0 26 yX2_hasPlace, Cond.instanceMethod yX2_hasPlace, Cond.selects RX2 yX2_hasPlace yX2_hasPlace, Cond.initialized RX2, Cond.code yX2_hasPlace cX2_hasPlace 2 (some .boolean)]
def wsX3_count_r3 : List Cond := [Cond.fieldLink RX2 18 "DrillCores$Row" "size" "I", Cond.methodLink RX0 32 yX2_hasNumbers, Cond.instanceMethod yX2_hasNumbers, Cond.selects RX2 yX2_hasNumbers yX2_hasNumbers, Cond.code yX2_hasNumbers cX2_hasNumbers 1 (some .boolean), Cond.fieldLink RX2 15 "DrillCores$Row" "depth" "I", Cond.methodLink RX3 157 yX0_wantRow, Cond.methodLink RX3 44 yX3_met, Cond.instanceMethod yX3_met, Cond.selects RX3 yX3_met yX3_met, Cond.code yX3_met cX3_met 2 (some .int), Cond.fieldLink RX3 15 "DrillCores" "causesMet" "[I", Cond.methodLink RX3 137 yX3_numbersIn, Cond.static yX3_numbersIn, Cond.code yX3_numbersIn cX3_numbersIn 4 (some .int), Cond.fieldLink RX3 95 "DrillCores$Row" "numbers" "[J", Cond.fieldLink RX3 116 "DrillCores$Row" "rows" "[LDrillCores$Row;"]
def wsX3_count : List Cond := .code yX3_count cX3_count 6 (some .int) :: ((wsX3_count_r1 ++ (wsX3_count_r2 ++ wsX3_count_r3)) ++ wsX30 ++ wsX00 ++ wsX20)
def wsX3_seen : List Cond := .code yX3_seen cX3_seen 1 (some .long) :: ([.fieldLink RX3 33 "DrillCores" "lastSeen" "J"] ++ wsX30)
def wsX3_boxesInUse : List Cond := .code yX3_boxesInUse cX3_boxesInUse 3 (some .int) :: ([.fieldLink RX3 11 "DrillCores" "boxes" "[LDrillCores$Row;"] ++ wsX30)
def wsX3_about : List Cond := .code yX3_about cX3_about 2 (some .int) :: ([.fieldLink RX3 26 "DrillCores" "rowsMade" "I", .fieldLink RX3 15 "DrillCores" "causesMet" "[I", .methodLink RX3 145 yX3_boxesInUse, .instanceMethod yX3_boxesInUse, .selects RX3 yX3_boxesInUse yX3_boxesInUse, .initialized RX3, .code yX3_boxesInUse cX3_boxesInUse 3 (some .int), .fieldLink RX3 11 "DrillCores" "boxes" "[LDrillCores$Row;"] ++ wsX30)
def wsX4_init : List Cond := .code yX4_init cX4_init 1 none :: ([.methodLink RX4 1 objectInit, .instanceMethod objectInit, .code objectInit ⟨#[0xb1]⟩ 1 none, .arrayClass .int, .fieldLink RX4 7 "DrillCoresModel" "kindOf" "[I", .fieldLink RX4 13 "DrillCoresModel" "depthOf" "[I", .fieldLink RX4 16 "DrillCoresModel" "many" "[I", .arrayClass .long, .fieldLink RX4 19 "DrillCoresModel" "number" "[J", .fieldLink RX4 23 "DrillCoresModel" "hung" "[I", .fieldLink RX4 26 "DrillCoresModel" "boxes" "[I", .fieldLink RX4 29 "DrillCoresModel" "counts" "[I", .fieldLink RX4 32 "DrillCoresModel" "made" "I"] ++ wsX40)
def wsX4_in : List Cond := .code yX4_in cX4_in 3 (some .boolean) :: ([])
def wsX4_isBox : List Cond := .code yX4_isBox cX4_isBox 1 (some .boolean) :: ([.methodLink RX4 36 yX4_in, .static yX4_in, .initialized RX4, .code yX4_in cX4_in 3 (some .boolean)])
def wsX4_isKind : List Cond := .code yX4_isKind cX4_isKind 1 (some .boolean) :: ([.methodLink RX4 36 yX4_in, .static yX4_in, .initialized RX4, .code yX4_in cX4_in 3 (some .boolean)])
def wsX4_fails : List Cond := .code yX4_fails cX4_fails 2 (some .int) :: ([.fieldLink RX4 29 "DrillCoresModel" "counts" "[I"] ++ wsX40)
def wsX4_goesInto : List Cond := .code yX4_goesInto cX4_goesInto 2 (some .boolean) :: ([])
def wsX4_ofBits : List Cond := .code yX4_ofBits cX4_ofBits 3 (some .long) :: ([.constantLong RX4 40 (65535), .constant RX4 42 (2147483647), .constant RX4 43 (2139095040), .constantLong RX4 44 (2143289344), .constantLong RX4 46 (9223372036854775807), .constantLong RX4 48 (9218868437227405312), .constantLong RX4 50 (9221120237041090560)])
def wsJxe99ae_isNaN_b9ae7 : List Cond := .code yJxe99ae_isNaN_b9ae7 cJxe99ae_isNaN_b9ae7 2 (some .boolean) :: ([])
def wsJxe99ae_doubleToLongBits_ccdee : List Cond := .code yJxe99ae_doubleToLongBits_ccdee cJxe99ae_doubleToLongBits_ccdee 2 (some .long) :: ([.methodLink RJxe99ae 134 ⟨"java/lang/Double", "doubleToRawLongBits", "(D)J"⟩, .native ⟨"java/lang/Double", "doubleToRawLongBits", "(D)J"⟩, .static ⟨"java/lang/Double", "doubleToRawLongBits", "(D)J"⟩, .initialized "java/lang/Double", .constantLong RJxe99ae 137 (9221120237041090560), .methodLink RJxe99ae 122 yJxe99ae_isNaN_b9ae7, .static yJxe99ae_isNaN_b9ae7, .initialized RJxe99ae, .code yJxe99ae_isNaN_b9ae7 cJxe99ae_isNaN_b9ae7 2 (some .boolean)])
def wsJxf58ca_isNaN_12338 : List Cond := .code yJxf58ca_isNaN_12338 cJxf58ca_isNaN_12338 1 (some .boolean) :: ([])
def wsJxf58ca_floatToIntBits_5c35a : List Cond := .code yJxf58ca_floatToIntBits_5c35a cJxf58ca_floatToIntBits_5c35a 1 (some .int) :: ([.methodLink RJxf58ca 74 ⟨"java/lang/Float", "floatToRawIntBits", "(F)I"⟩, .native ⟨"java/lang/Float", "floatToRawIntBits", "(F)I"⟩, .static ⟨"java/lang/Float", "floatToRawIntBits", "(F)I"⟩, .initialized "java/lang/Float", .constant RJxf58ca 77 (2143289344), .methodLink RJxf58ca 59 yJxf58ca_isNaN_12338, .static yJxf58ca_isNaN_12338, .initialized RJxf58ca, .code yJxf58ca_isNaN_12338 cJxf58ca_isNaN_12338 1 (some .boolean)])
def wsX4_as_r1 : List Cond := [Cond.methodLink RX4 52 ⟨"java/lang/Float", "intBitsToFloat", "(I)F"⟩, Cond.native ⟨"java/lang/Float", "intBitsToFloat", "(I)F"⟩, Cond.static ⟨"java/lang/Float", "intBitsToFloat", "(I)F"⟩, Cond.initialized "java/lang/Float", Cond.constantLong RX4 44 (2143289344), Cond.constantLong RX4 50 (9221120237041090560), Cond.methodLink RX4 58 yJxe99ae_doubleToLongBits_ccdee, Cond.static yJxe99ae_doubleToLongBits_ccdee, Cond.initialized RJxe99ae, Cond.code yJxe99ae_doubleToLongBits_ccdee cJxe99ae_doubleToLongBits_ccdee 2 (some .long), Cond.methodLink RJxe99ae 134 ⟨"java/lang/Double", "doubleToRawLongBits", "(D)J"⟩, Cond.native ⟨"java/lang/Double", "doubleToRawLongBits", "(D)J"⟩, Cond.static ⟨"java/lang/Double", "doubleToRawLongBits", "(D)J"⟩, Cond.initialized "java/lang/Double", Cond.constantLong RJxe99ae 137 (9221120237041090560), Cond.methodLink RJxe99ae 122 yJxe99ae_isNaN_b9ae7, Cond.static yJxe99ae_isNaN_b9ae7, Cond.code yJxe99ae_isNaN_b9ae7 cJxe99ae_isNaN_b9ae7 2 (some .boolean), Cond.methodLink RX4 64 yJxf58ca_floatToIntBits_5c35a, Cond.static yJxf58ca_floatToIntBits_5c35a, Cond.initialized RJxf58ca, Cond.code yJxf58ca_floatToIntBits_5c35a cJxf58ca_floatToIntBits_5c35a 1 (some .int), Cond.methodLink RJxf58ca 74 ⟨"java/lang/Float", "floatToRawIntBits", "(F)I"⟩, Cond.native ⟨"java/lang/Float", "floatToRawIntBits", "(F)I"⟩]
def wsX4_as_r2 : List Cond := [Cond.static ⟨"java/lang/Float", "floatToRawIntBits", "(F)I"⟩, Cond.constant RJxf58ca 77 (2143289344), Cond.methodLink RJxf58ca 59 yJxf58ca_isNaN_12338, Cond.static yJxf58ca_isNaN_12338, Cond.code yJxf58ca_isNaN_12338 cJxf58ca_isNaN_12338 1 (some .boolean)]
def wsX4_as : List Cond := .code yX4_as cX4_as 5 (some .long) :: ((wsX4_as_r1 ++ wsX4_as_r2))
def wsX4_go : List Cond := .code yX4_go cX4_go 9 (some .int) :: ([.fieldLink RX4 26 "DrillCoresModel" "boxes" "[I", .fieldLink RX4 68 "DrillCoresModel" "there" "I", .fieldLink RX4 71 "DrillCoresModel" "numberAt" "I", .fieldLink RX4 16 "DrillCoresModel" "many" "[I", .fieldLink RX4 13 "DrillCoresModel" "depthOf" "[I", .fieldLink RX4 23 "DrillCoresModel" "hung" "[I", .methodLink RX4 36 yX4_in, .static yX4_in, .initialized RX4, .code yX4_in cX4_in 3 (some .boolean)] ++ wsX40)
def wsX4_wantRow : List Cond := .code yX4_wantRow cX4_wantRow 1 (some .int) :: ([.fieldLink RX4 71 "DrillCoresModel" "numberAt" "I", .fieldLink RX4 68 "DrillCoresModel" "there" "I"] ++ wsX40)
def wsX4_goToRow : List Cond := .code yX4_goToRow cX4_goToRow 6 (some .int) :: ([.methodLink RX4 74 yX4_go, .instanceMethod yX4_go, .selects RX4 yX4_go yX4_go, .initialized RX4, .code yX4_go cX4_go 9 (some .int), .fieldLink RX4 26 "DrillCoresModel" "boxes" "[I", .fieldLink RX4 68 "DrillCoresModel" "there" "I", .fieldLink RX4 71 "DrillCoresModel" "numberAt" "I", .fieldLink RX4 16 "DrillCoresModel" "many" "[I", .fieldLink RX4 13 "DrillCoresModel" "depthOf" "[I", .fieldLink RX4 23 "DrillCoresModel" "hung" "[I", .methodLink RX4 36 yX4_in, .static yX4_in, .code yX4_in cX4_in 3 (some .boolean), .methodLink RX4 78 yX4_wantRow, .instanceMethod yX4_wantRow, .selects RX4 yX4_wantRow yX4_wantRow, .code yX4_wantRow cX4_wantRow 1 (some .int)] ++ wsX40)
def wsX4_last : List Cond := .code yX4_last cX4_last 4 (some .int) :: ([])
def wsX4_goToNumber_r1 : List Cond := [Cond.fieldLink RX4 13 "DrillCoresModel" "depthOf" "[I", Cond.fieldLink RX4 68 "DrillCoresModel" "there" "I", Cond.fieldLink RX4 16 "DrillCoresModel" "many" "[I", Cond.methodLink RX4 82 yX4_goToRow, Cond.instanceMethod yX4_goToRow, Cond.selects RX4 yX4_goToRow yX4_goToRow, Cond.initialized RX4, Cond.code yX4_goToRow cX4_goToRow 6 (some .int), Cond.methodLink RX4 74 yX4_go, Cond.instanceMethod yX4_go, Cond.selects RX4 yX4_go yX4_go, Cond.code yX4_go cX4_go 9 (some .int), Cond.fieldLink RX4 26 "DrillCoresModel" "boxes" "[I", Cond.fieldLink RX4 71 "DrillCoresModel" "numberAt" "I", Cond.fieldLink RX4 23 "DrillCoresModel" "hung" "[I", Cond.methodLink RX4 36 yX4_in, Cond.static yX4_in, Cond.code yX4_in cX4_in 3 (some .boolean), Cond.methodLink RX4 78 yX4_wantRow, Cond.instanceMethod yX4_wantRow, Cond.selects RX4 yX4_wantRow yX4_wantRow, Cond.code yX4_wantRow cX4_wantRow 1 (some .int), Cond.methodLink RX4 86 yX4_last, Cond.static yX4_last]
def wsX4_goToNumber_r2 : List Cond := [Cond.code yX4_last cX4_last 4 (some .int)]
def wsX4_goToNumber : List Cond := .code yX4_goToNumber cX4_goToNumber 7 (some .int) :: ((wsX4_goToNumber_r1 ++ wsX4_goToNumber_r2) ++ wsX40)
def wsX4_make : List Cond := .code yX4_make cX4_make 6 (some .int) :: ([.fieldLink RX4 32 "DrillCoresModel" "made" "I", .fieldLink RX4 7 "DrillCoresModel" "kindOf" "[I", .fieldLink RX4 13 "DrillCoresModel" "depthOf" "[I", .fieldLink RX4 16 "DrillCoresModel" "many" "[I", .fieldLink RX4 23 "DrillCoresModel" "hung" "[I", .fieldLink RX4 26 "DrillCoresModel" "boxes" "[I", .methodLink RX4 89 yX4_isBox, .static yX4_isBox, .initialized RX4, .code yX4_isBox cX4_isBox 1 (some .boolean), .methodLink RX4 36 yX4_in, .static yX4_in, .code yX4_in cX4_in 3 (some .boolean), .methodLink RX4 93 yX4_isKind, .static yX4_isKind, .code yX4_isKind cX4_isKind 1 (some .boolean), .methodLink RX4 96 yX4_fails, .instanceMethod yX4_fails, .selects RX4 yX4_fails yX4_fails, .code yX4_fails cX4_fails 2 (some .int), .fieldLink RX4 29 "DrillCoresModel" "counts" "[I"] ++ wsX40)
def wsX4_take : List Cond := .code yX4_take cX4_take 3 (some .int) :: ([.fieldLink RX4 26 "DrillCoresModel" "boxes" "[I", .methodLink RX4 89 yX4_isBox, .static yX4_isBox, .initialized RX4, .code yX4_isBox cX4_isBox 1 (some .boolean), .methodLink RX4 36 yX4_in, .static yX4_in, .code yX4_in cX4_in 3 (some .boolean)] ++ wsX40)
def wsX4_empty : List Cond := .code yX4_empty cX4_empty 3 (some .int) :: ([.fieldLink RX4 26 "DrillCoresModel" "boxes" "[I", .methodLink RX4 89 yX4_isBox, .static yX4_isBox, .initialized RX4, .code yX4_isBox cX4_isBox 1 (some .boolean), .methodLink RX4 36 yX4_in, .static yX4_in, .code yX4_in cX4_in 3 (some .boolean)] ++ wsX40)
def wsX4_same : List Cond := .code yX4_same cX4_same 3 (some .int) :: ([.fieldLink RX4 26 "DrillCoresModel" "boxes" "[I", .methodLink RX4 89 yX4_isBox, .static yX4_isBox, .initialized RX4, .code yX4_isBox cX4_isBox 1 (some .boolean), .methodLink RX4 36 yX4_in, .static yX4_in, .code yX4_in cX4_in 3 (some .boolean)] ++ wsX40)
def wsX4_look_r1 : List Cond := [Cond.fieldLink RX4 71 "DrillCoresModel" "numberAt" "I", Cond.fieldLink RX4 19 "DrillCoresModel" "number" "[J", Cond.fieldLink RX4 100 "DrillCoresModel" "seen" "J", Cond.fieldLink RX4 7 "DrillCoresModel" "kindOf" "[I", Cond.fieldLink RX4 68 "DrillCoresModel" "there" "I", Cond.fieldLink RX4 13 "DrillCoresModel" "depthOf" "[I", Cond.methodLink RX4 89 yX4_isBox, Cond.static yX4_isBox, Cond.initialized RX4, Cond.code yX4_isBox cX4_isBox 1 (some .boolean), Cond.methodLink RX4 36 yX4_in, Cond.static yX4_in, Cond.code yX4_in cX4_in 3 (some .boolean), Cond.methodLink RX4 74 yX4_go, Cond.instanceMethod yX4_go, Cond.selects RX4 yX4_go yX4_go, Cond.code yX4_go cX4_go 9 (some .int), Cond.fieldLink RX4 26 "DrillCoresModel" "boxes" "[I", Cond.fieldLink RX4 16 "DrillCoresModel" "many" "[I", Cond.fieldLink RX4 23 "DrillCoresModel" "hung" "[I", Cond.methodLink RX4 96 yX4_fails, Cond.instanceMethod yX4_fails, Cond.selects RX4 yX4_fails yX4_fails, Cond.code yX4_fails cX4_fails 2 (some .int)]
def wsX4_look_r2 : List Cond := [Cond.fieldLink RX4 29 "DrillCoresModel" "counts" "[I"]
def wsX4_look : List Cond := .code yX4_look cX4_look 7 (some .int) :: ((wsX4_look_r1 ++ wsX4_look_r2) ++ wsX40)
def wsX4_length_r1 : List Cond := [Cond.fieldLink RX4 16 "DrillCoresModel" "many" "[I", Cond.fieldLink RX4 68 "DrillCoresModel" "there" "I", Cond.methodLink RX4 89 yX4_isBox, Cond.static yX4_isBox, Cond.initialized RX4, Cond.code yX4_isBox cX4_isBox 1 (some .boolean), Cond.methodLink RX4 36 yX4_in, Cond.static yX4_in, Cond.code yX4_in cX4_in 3 (some .boolean), Cond.methodLink RX4 74 yX4_go, Cond.instanceMethod yX4_go, Cond.selects RX4 yX4_go yX4_go, Cond.code yX4_go cX4_go 9 (some .int), Cond.fieldLink RX4 26 "DrillCoresModel" "boxes" "[I", Cond.fieldLink RX4 71 "DrillCoresModel" "numberAt" "I", Cond.fieldLink RX4 13 "DrillCoresModel" "depthOf" "[I", Cond.fieldLink RX4 23 "DrillCoresModel" "hung" "[I", Cond.methodLink RX4 78 yX4_wantRow, Cond.instanceMethod yX4_wantRow, Cond.selects RX4 yX4_wantRow yX4_wantRow, Cond.code yX4_wantRow cX4_wantRow 1 (some .int), Cond.methodLink RX4 96 yX4_fails, Cond.instanceMethod yX4_fails, Cond.selects RX4 yX4_fails yX4_fails]
def wsX4_length_r2 : List Cond := [Cond.code yX4_fails cX4_fails 2 (some .int), Cond.fieldLink RX4 29 "DrillCoresModel" "counts" "[I"]
def wsX4_length : List Cond := .code yX4_length cX4_length 7 (some .int) :: ((wsX4_length_r1 ++ wsX4_length_r2) ++ wsX40)
def wsX4_read_r1 : List Cond := [Cond.fieldLink RX4 7 "DrillCoresModel" "kindOf" "[I", Cond.fieldLink RX4 68 "DrillCoresModel" "there" "I", Cond.fieldLink RX4 19 "DrillCoresModel" "number" "[J", Cond.fieldLink RX4 100 "DrillCoresModel" "seen" "J", Cond.methodLink RX4 89 yX4_isBox, Cond.static yX4_isBox, Cond.initialized RX4, Cond.code yX4_isBox cX4_isBox 1 (some .boolean), Cond.methodLink RX4 36 yX4_in, Cond.static yX4_in, Cond.code yX4_in cX4_in 3 (some .boolean), Cond.methodLink RX4 93 yX4_isKind, Cond.static yX4_isKind, Cond.code yX4_isKind cX4_isKind 1 (some .boolean), Cond.methodLink RX4 104 yX4_goToNumber, Cond.instanceMethod yX4_goToNumber, Cond.selects RX4 yX4_goToNumber yX4_goToNumber, Cond.code yX4_goToNumber cX4_goToNumber 7 (some .int), Cond.fieldLink RX4 13 "DrillCoresModel" "depthOf" "[I", Cond.fieldLink RX4 16 "DrillCoresModel" "many" "[I", Cond.methodLink RX4 82 yX4_goToRow, Cond.instanceMethod yX4_goToRow, Cond.selects RX4 yX4_goToRow yX4_goToRow, Cond.code yX4_goToRow cX4_goToRow 6 (some .int)]
def wsX4_read_r2 : List Cond := [Cond.methodLink RX4 74 yX4_go, Cond.instanceMethod yX4_go, Cond.selects RX4 yX4_go yX4_go, Cond.code yX4_go cX4_go 9 (some .int), Cond.fieldLink RX4 26 "DrillCoresModel" "boxes" "[I", Cond.fieldLink RX4 71 "DrillCoresModel" "numberAt" "I", Cond.fieldLink RX4 23 "DrillCoresModel" "hung" "[I", Cond.methodLink RX4 78 yX4_wantRow, Cond.instanceMethod yX4_wantRow, Cond.selects RX4 yX4_wantRow yX4_wantRow, Cond.code yX4_wantRow cX4_wantRow 1 (some .int), Cond.methodLink RX4 86 yX4_last, Cond.static yX4_last, Cond.code yX4_last cX4_last 4 (some .int), Cond.methodLink RX4 107 yX4_goesInto, Cond.static yX4_goesInto, Cond.code yX4_goesInto cX4_goesInto 2 (some .boolean), Cond.methodLink RX4 96 yX4_fails, Cond.instanceMethod yX4_fails, Cond.selects RX4 yX4_fails yX4_fails, Cond.code yX4_fails cX4_fails 2 (some .int), Cond.fieldLink RX4 29 "DrillCoresModel" "counts" "[I", Cond.methodLink RX4 111 yX4_as, Cond.static yX4_as]
def wsX4_read_r3 : List Cond := [Cond.code yX4_as cX4_as 5 (some .long), Cond.methodLink RX4 52 ⟨"java/lang/Float", "intBitsToFloat", "(I)F"⟩, Cond.native ⟨"java/lang/Float", "intBitsToFloat", "(I)F"⟩, Cond.static ⟨"java/lang/Float", "intBitsToFloat", "(I)F"⟩, Cond.initialized "java/lang/Float", Cond.constantLong RX4 44 (2143289344), Cond.constantLong RX4 50 (9221120237041090560), Cond.methodLink RX4 58 yJxe99ae_doubleToLongBits_ccdee, Cond.static yJxe99ae_doubleToLongBits_ccdee, Cond.initialized RJxe99ae, Cond.code yJxe99ae_doubleToLongBits_ccdee cJxe99ae_doubleToLongBits_ccdee 2 (some .long), Cond.methodLink RJxe99ae 134 ⟨"java/lang/Double", "doubleToRawLongBits", "(D)J"⟩, Cond.native ⟨"java/lang/Double", "doubleToRawLongBits", "(D)J"⟩, Cond.static ⟨"java/lang/Double", "doubleToRawLongBits", "(D)J"⟩, Cond.initialized "java/lang/Double", Cond.constantLong RJxe99ae 137 (9221120237041090560), Cond.methodLink RJxe99ae 122 yJxe99ae_isNaN_b9ae7, Cond.static yJxe99ae_isNaN_b9ae7, Cond.code yJxe99ae_isNaN_b9ae7 cJxe99ae_isNaN_b9ae7 2 (some .boolean), Cond.methodLink RX4 64 yJxf58ca_floatToIntBits_5c35a, Cond.static yJxf58ca_floatToIntBits_5c35a, Cond.initialized RJxf58ca, Cond.code yJxf58ca_floatToIntBits_5c35a cJxf58ca_floatToIntBits_5c35a 1 (some .int), Cond.methodLink RJxf58ca 74 ⟨"java/lang/Float", "floatToRawIntBits", "(F)I"⟩]
def wsX4_read_r4 : List Cond := [Cond.native ⟨"java/lang/Float", "floatToRawIntBits", "(F)I"⟩, Cond.static ⟨"java/lang/Float", "floatToRawIntBits", "(F)I"⟩, Cond.constant RJxf58ca 77 (2143289344), Cond.methodLink RJxf58ca 59 yJxf58ca_isNaN_12338, Cond.static yJxf58ca_isNaN_12338, Cond.code yJxf58ca_isNaN_12338 cJxf58ca_isNaN_12338 1 (some .boolean)]
def wsX4_read : List Cond := .code yX4_read cX4_read 8 (some .int) :: ((wsX4_read_r1 ++ (wsX4_read_r2 ++ (wsX4_read_r3 ++ wsX4_read_r4))) ++ wsX40)
def wsX4_write_r1 : List Cond := [Cond.fieldLink RX4 7 "DrillCoresModel" "kindOf" "[I", Cond.fieldLink RX4 68 "DrillCoresModel" "there" "I", Cond.fieldLink RX4 19 "DrillCoresModel" "number" "[J", Cond.methodLink RX4 89 yX4_isBox, Cond.static yX4_isBox, Cond.initialized RX4, Cond.code yX4_isBox cX4_isBox 1 (some .boolean), Cond.methodLink RX4 36 yX4_in, Cond.static yX4_in, Cond.code yX4_in cX4_in 3 (some .boolean), Cond.methodLink RX4 93 yX4_isKind, Cond.static yX4_isKind, Cond.code yX4_isKind cX4_isKind 1 (some .boolean), Cond.methodLink RX4 104 yX4_goToNumber, Cond.instanceMethod yX4_goToNumber, Cond.selects RX4 yX4_goToNumber yX4_goToNumber, Cond.code yX4_goToNumber cX4_goToNumber 7 (some .int), Cond.fieldLink RX4 13 "DrillCoresModel" "depthOf" "[I", Cond.fieldLink RX4 16 "DrillCoresModel" "many" "[I", Cond.methodLink RX4 82 yX4_goToRow, Cond.instanceMethod yX4_goToRow, Cond.selects RX4 yX4_goToRow yX4_goToRow, Cond.code yX4_goToRow cX4_goToRow 6 (some .int), Cond.methodLink RX4 74 yX4_go]
def wsX4_write_r2 : List Cond := [Cond.instanceMethod yX4_go, Cond.selects RX4 yX4_go yX4_go, Cond.code yX4_go cX4_go 9 (some .int), Cond.fieldLink RX4 26 "DrillCoresModel" "boxes" "[I", Cond.fieldLink RX4 71 "DrillCoresModel" "numberAt" "I", Cond.fieldLink RX4 23 "DrillCoresModel" "hung" "[I", Cond.methodLink RX4 78 yX4_wantRow, Cond.instanceMethod yX4_wantRow, Cond.selects RX4 yX4_wantRow yX4_wantRow, Cond.code yX4_wantRow cX4_wantRow 1 (some .int), Cond.methodLink RX4 86 yX4_last, Cond.static yX4_last, Cond.code yX4_last cX4_last 4 (some .int), Cond.methodLink RX4 107 yX4_goesInto, Cond.static yX4_goesInto, Cond.code yX4_goesInto cX4_goesInto 2 (some .boolean), Cond.methodLink RX4 96 yX4_fails, Cond.instanceMethod yX4_fails, Cond.selects RX4 yX4_fails yX4_fails, Cond.code yX4_fails cX4_fails 2 (some .int), Cond.fieldLink RX4 29 "DrillCoresModel" "counts" "[I", Cond.methodLink RX4 115 yX4_ofBits, Cond.static yX4_ofBits, Cond.code yX4_ofBits cX4_ofBits 3 (some .long)]
def wsX4_write_r3 : List Cond := [Cond.constantLong RX4 40 (65535), Cond.constant RX4 42 (2147483647), Cond.constant RX4 43 (2139095040), Cond.constantLong RX4 44 (2143289344), Cond.constantLong RX4 46 (9223372036854775807), Cond.constantLong RX4 48 (9218868437227405312), Cond.constantLong RX4 50 (9221120237041090560), Cond.methodLink RX4 111 yX4_as, Cond.static yX4_as, Cond.code yX4_as cX4_as 5 (some .long), Cond.methodLink RX4 52 ⟨"java/lang/Float", "intBitsToFloat", "(I)F"⟩, Cond.native ⟨"java/lang/Float", "intBitsToFloat", "(I)F"⟩, Cond.static ⟨"java/lang/Float", "intBitsToFloat", "(I)F"⟩, Cond.initialized "java/lang/Float", Cond.methodLink RX4 58 yJxe99ae_doubleToLongBits_ccdee, Cond.static yJxe99ae_doubleToLongBits_ccdee, Cond.initialized RJxe99ae, Cond.code yJxe99ae_doubleToLongBits_ccdee cJxe99ae_doubleToLongBits_ccdee 2 (some .long), Cond.methodLink RJxe99ae 134 ⟨"java/lang/Double", "doubleToRawLongBits", "(D)J"⟩, Cond.native ⟨"java/lang/Double", "doubleToRawLongBits", "(D)J"⟩, Cond.static ⟨"java/lang/Double", "doubleToRawLongBits", "(D)J"⟩, Cond.initialized "java/lang/Double", Cond.constantLong RJxe99ae 137 (9221120237041090560), Cond.methodLink RJxe99ae 122 yJxe99ae_isNaN_b9ae7]
def wsX4_write_r4 : List Cond := [Cond.static yJxe99ae_isNaN_b9ae7, Cond.code yJxe99ae_isNaN_b9ae7 cJxe99ae_isNaN_b9ae7 2 (some .boolean), Cond.methodLink RX4 64 yJxf58ca_floatToIntBits_5c35a, Cond.static yJxf58ca_floatToIntBits_5c35a, Cond.initialized RJxf58ca, Cond.code yJxf58ca_floatToIntBits_5c35a cJxf58ca_floatToIntBits_5c35a 1 (some .int), Cond.methodLink RJxf58ca 74 ⟨"java/lang/Float", "floatToRawIntBits", "(F)I"⟩, Cond.native ⟨"java/lang/Float", "floatToRawIntBits", "(F)I"⟩, Cond.static ⟨"java/lang/Float", "floatToRawIntBits", "(F)I"⟩, Cond.constant RJxf58ca 77 (2143289344), Cond.methodLink RJxf58ca 59 yJxf58ca_isNaN_12338, Cond.static yJxf58ca_isNaN_12338, Cond.code yJxf58ca_isNaN_12338 cJxf58ca_isNaN_12338 1 (some .boolean)]
def wsX4_write : List Cond := .code yX4_write cX4_write 10 (some .int) :: ((wsX4_write_r1 ++ (wsX4_write_r2 ++ (wsX4_write_r3 ++ wsX4_write_r4))) ++ wsX40)
def wsX4_fits : List Cond := .code yX4_fits cX4_fits 3 (some .boolean) :: ([.fieldLink RX4 7 "DrillCoresModel" "kindOf" "[I", .fieldLink RX4 13 "DrillCoresModel" "depthOf" "[I"] ++ wsX40)
def wsX4_hang_r1 : List Cond := [Cond.fieldLink RX4 26 "DrillCoresModel" "boxes" "[I", Cond.fieldLink RX4 13 "DrillCoresModel" "depthOf" "[I", Cond.fieldLink RX4 68 "DrillCoresModel" "there" "I", Cond.fieldLink RX4 16 "DrillCoresModel" "many" "[I", Cond.fieldLink RX4 23 "DrillCoresModel" "hung" "[I", Cond.methodLink RX4 89 yX4_isBox, Cond.static yX4_isBox, Cond.initialized RX4, Cond.code yX4_isBox cX4_isBox 1 (some .boolean), Cond.methodLink RX4 36 yX4_in, Cond.static yX4_in, Cond.code yX4_in cX4_in 3 (some .boolean), Cond.methodLink RX4 82 yX4_goToRow, Cond.instanceMethod yX4_goToRow, Cond.selects RX4 yX4_goToRow yX4_goToRow, Cond.code yX4_goToRow cX4_goToRow 6 (some .int), Cond.methodLink RX4 74 yX4_go, Cond.instanceMethod yX4_go, Cond.selects RX4 yX4_go yX4_go, Cond.code yX4_go cX4_go 9 (some .int), Cond.fieldLink RX4 71 "DrillCoresModel" "numberAt" "I", Cond.methodLink RX4 78 yX4_wantRow, Cond.instanceMethod yX4_wantRow, Cond.selects RX4 yX4_wantRow yX4_wantRow]
def wsX4_hang_r2 : List Cond := [Cond.code yX4_wantRow cX4_wantRow 1 (some .int), Cond.methodLink RX4 96 yX4_fails, Cond.instanceMethod yX4_fails, Cond.selects RX4 yX4_fails yX4_fails, Cond.code yX4_fails cX4_fails 2 (some .int), Cond.fieldLink RX4 29 "DrillCoresModel" "counts" "[I", Cond.methodLink RX4 86 yX4_last, Cond.static yX4_last, Cond.code yX4_last cX4_last 4 (some .int), Cond.methodLink RX4 119 yX4_fits, Cond.instanceMethod yX4_fits, Cond.selects RX4 yX4_fits yX4_fits, Cond.code yX4_fits cX4_fits 3 (some .boolean), Cond.fieldLink RX4 7 "DrillCoresModel" "kindOf" "[I"]
def wsX4_hang : List Cond := .code yX4_hang cX4_hang 11 (some .int) :: ((wsX4_hang_r1 ++ wsX4_hang_r2) ++ wsX40)
def wsX4_lift : List Cond := .code yX4_lift cX4_lift 8 (some .int) :: ([.fieldLink RX4 71 "DrillCoresModel" "numberAt" "I", .fieldLink RX4 26 "DrillCoresModel" "boxes" "[I", .fieldLink RX4 68 "DrillCoresModel" "there" "I", .methodLink RX4 89 yX4_isBox, .static yX4_isBox, .initialized RX4, .code yX4_isBox cX4_isBox 1 (some .boolean), .methodLink RX4 36 yX4_in, .static yX4_in, .code yX4_in cX4_in 3 (some .boolean), .methodLink RX4 74 yX4_go, .instanceMethod yX4_go, .selects RX4 yX4_go yX4_go, .code yX4_go cX4_go 9 (some .int), .fieldLink RX4 16 "DrillCoresModel" "many" "[I", .fieldLink RX4 13 "DrillCoresModel" "depthOf" "[I", .fieldLink RX4 23 "DrillCoresModel" "hung" "[I", .methodLink RX4 96 yX4_fails, .instanceMethod yX4_fails, .selects RX4 yX4_fails yX4_fails, .code yX4_fails cX4_fails 2 (some .int), .fieldLink RX4 29 "DrillCoresModel" "counts" "[I"] ++ wsX40)
def wsX4_turn_r1 : List Cond := [Cond.fieldLink RX4 16 "DrillCoresModel" "many" "[I", Cond.fieldLink RX4 68 "DrillCoresModel" "there" "I", Cond.fieldLink RX4 19 "DrillCoresModel" "number" "[J", Cond.fieldLink RX4 23 "DrillCoresModel" "hung" "[I", Cond.methodLink RX4 89 yX4_isBox, Cond.static yX4_isBox, Cond.initialized RX4, Cond.code yX4_isBox cX4_isBox 1 (some .boolean), Cond.methodLink RX4 36 yX4_in, Cond.static yX4_in, Cond.code yX4_in cX4_in 3 (some .boolean), Cond.methodLink RX4 82 yX4_goToRow, Cond.instanceMethod yX4_goToRow, Cond.selects RX4 yX4_goToRow yX4_goToRow, Cond.code yX4_goToRow cX4_goToRow 6 (some .int), Cond.methodLink RX4 74 yX4_go, Cond.instanceMethod yX4_go, Cond.selects RX4 yX4_go yX4_go, Cond.code yX4_go cX4_go 9 (some .int), Cond.fieldLink RX4 26 "DrillCoresModel" "boxes" "[I", Cond.fieldLink RX4 71 "DrillCoresModel" "numberAt" "I", Cond.fieldLink RX4 13 "DrillCoresModel" "depthOf" "[I", Cond.methodLink RX4 78 yX4_wantRow, Cond.instanceMethod yX4_wantRow]
def wsX4_turn_r2 : List Cond := [Cond.selects RX4 yX4_wantRow yX4_wantRow, Cond.code yX4_wantRow cX4_wantRow 1 (some .int), Cond.methodLink RX4 96 yX4_fails, Cond.instanceMethod yX4_fails, Cond.selects RX4 yX4_fails yX4_fails, Cond.code yX4_fails cX4_fails 2 (some .int), Cond.fieldLink RX4 29 "DrillCoresModel" "counts" "[I"]
def wsX4_turn : List Cond := .code yX4_turn cX4_turn 13 (some .int) :: ((wsX4_turn_r1 ++ wsX4_turn_r2) ++ wsX40)
def wsX4_fill_r1 : List Cond := [Cond.fieldLink RX4 16 "DrillCoresModel" "many" "[I", Cond.fieldLink RX4 68 "DrillCoresModel" "there" "I", Cond.fieldLink RX4 13 "DrillCoresModel" "depthOf" "[I", Cond.fieldLink RX4 7 "DrillCoresModel" "kindOf" "[I", Cond.fieldLink RX4 19 "DrillCoresModel" "number" "[J", Cond.methodLink RX4 89 yX4_isBox, Cond.static yX4_isBox, Cond.initialized RX4, Cond.code yX4_isBox cX4_isBox 1 (some .boolean), Cond.methodLink RX4 36 yX4_in, Cond.static yX4_in, Cond.code yX4_in cX4_in 3 (some .boolean), Cond.methodLink RX4 93 yX4_isKind, Cond.static yX4_isKind, Cond.code yX4_isKind cX4_isKind 1 (some .boolean), Cond.methodLink RX4 82 yX4_goToRow, Cond.instanceMethod yX4_goToRow, Cond.selects RX4 yX4_goToRow yX4_goToRow, Cond.code yX4_goToRow cX4_goToRow 6 (some .int), Cond.methodLink RX4 74 yX4_go, Cond.instanceMethod yX4_go, Cond.selects RX4 yX4_go yX4_go, Cond.code yX4_go cX4_go 9 (some .int), Cond.fieldLink RX4 26 "DrillCoresModel" "boxes" "[I"]
def wsX4_fill_r2 : List Cond := [Cond.fieldLink RX4 71 "DrillCoresModel" "numberAt" "I", Cond.fieldLink RX4 23 "DrillCoresModel" "hung" "[I", Cond.methodLink RX4 78 yX4_wantRow, Cond.instanceMethod yX4_wantRow, Cond.selects RX4 yX4_wantRow yX4_wantRow, Cond.code yX4_wantRow cX4_wantRow 1 (some .int), Cond.methodLink RX4 107 yX4_goesInto, Cond.static yX4_goesInto, Cond.code yX4_goesInto cX4_goesInto 2 (some .boolean), Cond.methodLink RX4 96 yX4_fails, Cond.instanceMethod yX4_fails, Cond.selects RX4 yX4_fails yX4_fails, Cond.code yX4_fails cX4_fails 2 (some .int), Cond.fieldLink RX4 29 "DrillCoresModel" "counts" "[I", Cond.methodLink RX4 115 yX4_ofBits, Cond.static yX4_ofBits, Cond.code yX4_ofBits cX4_ofBits 3 (some .long), Cond.constantLong RX4 40 (65535), Cond.constant RX4 42 (2147483647), Cond.constant RX4 43 (2139095040), Cond.constantLong RX4 44 (2143289344), Cond.constantLong RX4 46 (9223372036854775807), Cond.constantLong RX4 48 (9218868437227405312), Cond.constantLong RX4 50 (9221120237041090560)]
def wsX4_fill_r3 : List Cond := [Cond.methodLink RX4 111 yX4_as, Cond.static yX4_as, Cond.code yX4_as cX4_as 5 (some .long), Cond.methodLink RX4 52 ⟨"java/lang/Float", "intBitsToFloat", "(I)F"⟩, Cond.native ⟨"java/lang/Float", "intBitsToFloat", "(I)F"⟩, Cond.static ⟨"java/lang/Float", "intBitsToFloat", "(I)F"⟩, Cond.initialized "java/lang/Float", Cond.methodLink RX4 58 yJxe99ae_doubleToLongBits_ccdee, Cond.static yJxe99ae_doubleToLongBits_ccdee, Cond.initialized RJxe99ae, Cond.code yJxe99ae_doubleToLongBits_ccdee cJxe99ae_doubleToLongBits_ccdee 2 (some .long), Cond.methodLink RJxe99ae 134 ⟨"java/lang/Double", "doubleToRawLongBits", "(D)J"⟩, Cond.native ⟨"java/lang/Double", "doubleToRawLongBits", "(D)J"⟩, Cond.static ⟨"java/lang/Double", "doubleToRawLongBits", "(D)J"⟩, Cond.initialized "java/lang/Double", Cond.constantLong RJxe99ae 137 (9221120237041090560), Cond.methodLink RJxe99ae 122 yJxe99ae_isNaN_b9ae7, Cond.static yJxe99ae_isNaN_b9ae7, Cond.code yJxe99ae_isNaN_b9ae7 cJxe99ae_isNaN_b9ae7 2 (some .boolean), Cond.methodLink RX4 64 yJxf58ca_floatToIntBits_5c35a, Cond.static yJxf58ca_floatToIntBits_5c35a, Cond.initialized RJxf58ca, Cond.code yJxf58ca_floatToIntBits_5c35a cJxf58ca_floatToIntBits_5c35a 1 (some .int), Cond.methodLink RJxf58ca 74 ⟨"java/lang/Float", "floatToRawIntBits", "(F)I"⟩]
def wsX4_fill_r4 : List Cond := [Cond.native ⟨"java/lang/Float", "floatToRawIntBits", "(F)I"⟩, Cond.static ⟨"java/lang/Float", "floatToRawIntBits", "(F)I"⟩, Cond.constant RJxf58ca 77 (2143289344), Cond.methodLink RJxf58ca 59 yJxf58ca_isNaN_12338, Cond.static yJxf58ca_isNaN_12338, Cond.code yJxf58ca_isNaN_12338 cJxf58ca_isNaN_12338 1 (some .boolean)]
def wsX4_fill : List Cond := .code yX4_fill cX4_fill 10 (some .int) :: ((wsX4_fill_r1 ++ (wsX4_fill_r2 ++ (wsX4_fill_r3 ++ wsX4_fill_r4))) ++ wsX40)
def wsX4_pourOne_r1 : List Cond := [Cond.fieldLink RX4 13 "DrillCoresModel" "depthOf" "[I", Cond.fieldLink RX4 23 "DrillCoresModel" "hung" "[I", Cond.fieldLink RX4 16 "DrillCoresModel" "many" "[I", Cond.fieldLink RX4 7 "DrillCoresModel" "kindOf" "[I", Cond.fieldLink RX4 19 "DrillCoresModel" "number" "[J", Cond.methodLink RX4 107 yX4_goesInto, Cond.static yX4_goesInto, Cond.initialized RX4, Cond.code yX4_goesInto cX4_goesInto 2 (some .boolean), Cond.methodLink RX4 111 yX4_as, Cond.static yX4_as, Cond.code yX4_as cX4_as 5 (some .long), Cond.methodLink RX4 52 ⟨"java/lang/Float", "intBitsToFloat", "(I)F"⟩, Cond.native ⟨"java/lang/Float", "intBitsToFloat", "(I)F"⟩, Cond.static ⟨"java/lang/Float", "intBitsToFloat", "(I)F"⟩, Cond.initialized "java/lang/Float", Cond.constantLong RX4 44 (2143289344), Cond.constantLong RX4 50 (9221120237041090560), Cond.methodLink RX4 58 yJxe99ae_doubleToLongBits_ccdee, Cond.static yJxe99ae_doubleToLongBits_ccdee, Cond.initialized RJxe99ae, Cond.code yJxe99ae_doubleToLongBits_ccdee cJxe99ae_doubleToLongBits_ccdee 2 (some .long), Cond.methodLink RJxe99ae 134 ⟨"java/lang/Double", "doubleToRawLongBits", "(D)J"⟩, Cond.native ⟨"java/lang/Double", "doubleToRawLongBits", "(D)J"⟩]
def wsX4_pourOne_r2 : List Cond := [Cond.static ⟨"java/lang/Double", "doubleToRawLongBits", "(D)J"⟩, Cond.initialized "java/lang/Double", Cond.constantLong RJxe99ae 137 (9221120237041090560), Cond.methodLink RJxe99ae 122 yJxe99ae_isNaN_b9ae7, Cond.static yJxe99ae_isNaN_b9ae7, Cond.code yJxe99ae_isNaN_b9ae7 cJxe99ae_isNaN_b9ae7 2 (some .boolean), Cond.methodLink RX4 64 yJxf58ca_floatToIntBits_5c35a, Cond.static yJxf58ca_floatToIntBits_5c35a, Cond.initialized RJxf58ca, Cond.code yJxf58ca_floatToIntBits_5c35a cJxf58ca_floatToIntBits_5c35a 1 (some .int), Cond.methodLink RJxf58ca 74 ⟨"java/lang/Float", "floatToRawIntBits", "(F)I"⟩, Cond.native ⟨"java/lang/Float", "floatToRawIntBits", "(F)I"⟩, Cond.static ⟨"java/lang/Float", "floatToRawIntBits", "(F)I"⟩, Cond.constant RJxf58ca 77 (2143289344), Cond.methodLink RJxf58ca 59 yJxf58ca_isNaN_12338, Cond.static yJxf58ca_isNaN_12338, Cond.code yJxf58ca_isNaN_12338 cJxf58ca_isNaN_12338 1 (some .boolean), Cond.methodLink RX4 119 yX4_fits, Cond.instanceMethod yX4_fits, Cond.selects RX4 yX4_fits yX4_fits, Cond.code yX4_fits cX4_fits 3 (some .boolean)]
def wsX4_pourOne : List Cond := .code yX4_pourOne cX4_pourOne 6 (some .int) :: ((wsX4_pourOne_r1 ++ wsX4_pourOne_r2) ++ wsX40)
def wsX4_pour_r1 : List Cond := [Cond.fieldLink RX4 122 "DrillCoresModel" "moved" "I", Cond.fieldLink RX4 26 "DrillCoresModel" "boxes" "[I", Cond.fieldLink RX4 16 "DrillCoresModel" "many" "[I", Cond.methodLink RX4 89 yX4_isBox, Cond.static yX4_isBox, Cond.initialized RX4, Cond.code yX4_isBox cX4_isBox 1 (some .boolean), Cond.methodLink RX4 36 yX4_in, Cond.static yX4_in, Cond.code yX4_in cX4_in 3 (some .boolean), Cond.methodLink RX4 96 yX4_fails, Cond.instanceMethod yX4_fails, Cond.selects RX4 yX4_fails yX4_fails, Cond.code yX4_fails cX4_fails 2 (some .int), Cond.fieldLink RX4 29 "DrillCoresModel" "counts" "[I", Cond.methodLink RX4 125 yX4_pourOne, Cond.instanceMethod yX4_pourOne, Cond.selects RX4 yX4_pourOne yX4_pourOne, Cond.code yX4_pourOne cX4_pourOne 6 (some .int), Cond.fieldLink RX4 13 "DrillCoresModel" "depthOf" "[I", Cond.fieldLink RX4 23 "DrillCoresModel" "hung" "[I", Cond.fieldLink RX4 7 "DrillCoresModel" "kindOf" "[I", Cond.fieldLink RX4 19 "DrillCoresModel" "number" "[J", Cond.methodLink RX4 107 yX4_goesInto]
def wsX4_pour_r2 : List Cond := [Cond.static yX4_goesInto, Cond.code yX4_goesInto cX4_goesInto 2 (some .boolean), Cond.methodLink RX4 111 yX4_as, Cond.static yX4_as, Cond.code yX4_as cX4_as 5 (some .long), Cond.methodLink RX4 52 ⟨"java/lang/Float", "intBitsToFloat", "(I)F"⟩, Cond.native ⟨"java/lang/Float", "intBitsToFloat", "(I)F"⟩, Cond.static ⟨"java/lang/Float", "intBitsToFloat", "(I)F"⟩, Cond.initialized "java/lang/Float", Cond.constantLong RX4 44 (2143289344), Cond.constantLong RX4 50 (9221120237041090560), Cond.methodLink RX4 58 yJxe99ae_doubleToLongBits_ccdee, Cond.static yJxe99ae_doubleToLongBits_ccdee, Cond.initialized RJxe99ae, Cond.code yJxe99ae_doubleToLongBits_ccdee cJxe99ae_doubleToLongBits_ccdee 2 (some .long), Cond.methodLink RJxe99ae 134 ⟨"java/lang/Double", "doubleToRawLongBits", "(D)J"⟩, Cond.native ⟨"java/lang/Double", "doubleToRawLongBits", "(D)J"⟩, Cond.static ⟨"java/lang/Double", "doubleToRawLongBits", "(D)J"⟩, Cond.initialized "java/lang/Double", Cond.constantLong RJxe99ae 137 (9221120237041090560), Cond.methodLink RJxe99ae 122 yJxe99ae_isNaN_b9ae7, Cond.static yJxe99ae_isNaN_b9ae7, Cond.code yJxe99ae_isNaN_b9ae7 cJxe99ae_isNaN_b9ae7 2 (some .boolean), Cond.methodLink RX4 64 yJxf58ca_floatToIntBits_5c35a]
def wsX4_pour_r3 : List Cond := [Cond.static yJxf58ca_floatToIntBits_5c35a, Cond.initialized RJxf58ca, Cond.code yJxf58ca_floatToIntBits_5c35a cJxf58ca_floatToIntBits_5c35a 1 (some .int), Cond.methodLink RJxf58ca 74 ⟨"java/lang/Float", "floatToRawIntBits", "(F)I"⟩, Cond.native ⟨"java/lang/Float", "floatToRawIntBits", "(F)I"⟩, Cond.static ⟨"java/lang/Float", "floatToRawIntBits", "(F)I"⟩, Cond.constant RJxf58ca 77 (2143289344), Cond.methodLink RJxf58ca 59 yJxf58ca_isNaN_12338, Cond.static yJxf58ca_isNaN_12338, Cond.code yJxf58ca_isNaN_12338 cJxf58ca_isNaN_12338 1 (some .boolean), Cond.methodLink RX4 119 yX4_fits, Cond.instanceMethod yX4_fits, Cond.selects RX4 yX4_fits yX4_fits, Cond.code yX4_fits cX4_fits 3 (some .boolean)]
def wsX4_pour : List Cond := .code yX4_pour cX4_pour 5 (some .int) :: ((wsX4_pour_r1 ++ (wsX4_pour_r2 ++ wsX4_pour_r3)) ++ wsX40)
def wsX4_moved : List Cond := .code yX4_moved cX4_moved 1 (some .int) :: ([.fieldLink RX4 122 "DrillCoresModel" "moved" "I"] ++ wsX40)
def wsX4_goOver : List Cond := .code yX4_goOver cX4_goOver 3 none :: ([.fieldLink RX4 16 "DrillCoresModel" "many" "[I", .fieldLink RX4 129 "DrillCoresModel" "gone" "I", .fieldLink RX4 132 "DrillCoresModel" "sum" "J", .fieldLink RX4 19 "DrillCoresModel" "number" "[J"] ++ wsX40)
def wsX4_goOverTwo : List Cond := .code yX4_goOverTwo cX4_goOverTwo 3 none :: ([.fieldLink RX4 16 "DrillCoresModel" "many" "[I", .fieldLink RX4 23 "DrillCoresModel" "hung" "[I", .methodLink RX4 135 yX4_goOver, .instanceMethod yX4_goOver, .selects RX4 yX4_goOver yX4_goOver, .initialized RX4, .code yX4_goOver cX4_goOver 3 none, .fieldLink RX4 129 "DrillCoresModel" "gone" "I", .fieldLink RX4 132 "DrillCoresModel" "sum" "J", .fieldLink RX4 19 "DrillCoresModel" "number" "[J"] ++ wsX40)
def wsX4_goOverAll : List Cond := .code yX4_goOverAll cX4_goOverAll 3 none :: ([.fieldLink RX4 129 "DrillCoresModel" "gone" "I", .fieldLink RX4 132 "DrillCoresModel" "sum" "J", .fieldLink RX4 13 "DrillCoresModel" "depthOf" "[I", .fieldLink RX4 16 "DrillCoresModel" "many" "[I", .fieldLink RX4 23 "DrillCoresModel" "hung" "[I", .methodLink RX4 135 yX4_goOver, .instanceMethod yX4_goOver, .selects RX4 yX4_goOver yX4_goOver, .initialized RX4, .code yX4_goOver cX4_goOver 3 none, .fieldLink RX4 19 "DrillCoresModel" "number" "[J", .methodLink RX4 139 yX4_goOverTwo, .instanceMethod yX4_goOverTwo, .selects RX4 yX4_goOverTwo yX4_goOverTwo, .code yX4_goOverTwo cX4_goOverTwo 3 none] ++ wsX40)
def wsX4_total_r1 : List Cond := [Cond.fieldLink RX4 68 "DrillCoresModel" "there" "I", Cond.fieldLink RX4 7 "DrillCoresModel" "kindOf" "[I", Cond.fieldLink RX4 129 "DrillCoresModel" "gone" "I", Cond.fieldLink RX4 132 "DrillCoresModel" "sum" "J", Cond.fieldLink RX4 100 "DrillCoresModel" "seen" "J", Cond.methodLink RX4 89 yX4_isBox, Cond.static yX4_isBox, Cond.initialized RX4, Cond.code yX4_isBox cX4_isBox 1 (some .boolean), Cond.methodLink RX4 36 yX4_in, Cond.static yX4_in, Cond.code yX4_in cX4_in 3 (some .boolean), Cond.methodLink RX4 82 yX4_goToRow, Cond.instanceMethod yX4_goToRow, Cond.selects RX4 yX4_goToRow yX4_goToRow, Cond.code yX4_goToRow cX4_goToRow 6 (some .int), Cond.methodLink RX4 74 yX4_go, Cond.instanceMethod yX4_go, Cond.selects RX4 yX4_go yX4_go, Cond.code yX4_go cX4_go 9 (some .int), Cond.fieldLink RX4 26 "DrillCoresModel" "boxes" "[I", Cond.fieldLink RX4 71 "DrillCoresModel" "numberAt" "I", Cond.fieldLink RX4 16 "DrillCoresModel" "many" "[I", Cond.fieldLink RX4 13 "DrillCoresModel" "depthOf" "[I"]
def wsX4_total_r2 : List Cond := [Cond.fieldLink RX4 23 "DrillCoresModel" "hung" "[I", Cond.methodLink RX4 78 yX4_wantRow, Cond.instanceMethod yX4_wantRow, Cond.selects RX4 yX4_wantRow yX4_wantRow, Cond.code yX4_wantRow cX4_wantRow 1 (some .int), Cond.methodLink RX4 142 yX4_goOverAll, Cond.instanceMethod yX4_goOverAll, Cond.selects RX4 yX4_goOverAll yX4_goOverAll, Cond.code yX4_goOverAll cX4_goOverAll 3 none, Cond.methodLink RX4 135 yX4_goOver, Cond.instanceMethod yX4_goOver, Cond.selects RX4 yX4_goOver yX4_goOver, Cond.code yX4_goOver cX4_goOver 3 none, Cond.fieldLink RX4 19 "DrillCoresModel" "number" "[J", Cond.methodLink RX4 139 yX4_goOverTwo, Cond.instanceMethod yX4_goOverTwo, Cond.selects RX4 yX4_goOverTwo yX4_goOverTwo, Cond.code yX4_goOverTwo cX4_goOverTwo 3 none, Cond.methodLink RX4 107 yX4_goesInto, Cond.static yX4_goesInto, Cond.code yX4_goesInto cX4_goesInto 2 (some .boolean), Cond.methodLink RX4 96 yX4_fails, Cond.instanceMethod yX4_fails, Cond.selects RX4 yX4_fails yX4_fails]
def wsX4_total_r3 : List Cond := [Cond.code yX4_fails cX4_fails 2 (some .int), Cond.fieldLink RX4 29 "DrillCoresModel" "counts" "[I"]
def wsX4_total : List Cond := .code yX4_total cX4_total 6 (some .int) :: ((wsX4_total_r1 ++ (wsX4_total_r2 ++ wsX4_total_r3)) ++ wsX40)
def wsX4_count_r1 : List Cond := [Cond.fieldLink RX4 68 "DrillCoresModel" "there" "I", Cond.fieldLink RX4 129 "DrillCoresModel" "gone" "I", Cond.methodLink RX4 89 yX4_isBox, Cond.static yX4_isBox, Cond.initialized RX4, Cond.code yX4_isBox cX4_isBox 1 (some .boolean), Cond.methodLink RX4 36 yX4_in, Cond.static yX4_in, Cond.code yX4_in cX4_in 3 (some .boolean), Cond.methodLink RX4 82 yX4_goToRow, Cond.instanceMethod yX4_goToRow, Cond.selects RX4 yX4_goToRow yX4_goToRow, Cond.code yX4_goToRow cX4_goToRow 6 (some .int), Cond.methodLink RX4 74 yX4_go, Cond.instanceMethod yX4_go, Cond.selects RX4 yX4_go yX4_go, Cond.code yX4_go cX4_go 9 (some .int), Cond.fieldLink RX4 26 "DrillCoresModel" "boxes" "[I", Cond.fieldLink RX4 71 "DrillCoresModel" "numberAt" "I", Cond.fieldLink RX4 16 "DrillCoresModel" "many" "[I", Cond.fieldLink RX4 13 "DrillCoresModel" "depthOf" "[I", Cond.fieldLink RX4 23 "DrillCoresModel" "hung" "[I", Cond.methodLink RX4 78 yX4_wantRow, Cond.instanceMethod yX4_wantRow]
def wsX4_count_r2 : List Cond := [Cond.selects RX4 yX4_wantRow yX4_wantRow, Cond.code yX4_wantRow cX4_wantRow 1 (some .int), Cond.methodLink RX4 96 yX4_fails, Cond.instanceMethod yX4_fails, Cond.selects RX4 yX4_fails yX4_fails, Cond.code yX4_fails cX4_fails 2 (some .int), Cond.fieldLink RX4 29 "DrillCoresModel" "counts" "[I", Cond.methodLink RX4 142 yX4_goOverAll, Cond.instanceMethod yX4_goOverAll, Cond.selects RX4 yX4_goOverAll yX4_goOverAll, Cond.code yX4_goOverAll cX4_goOverAll 3 none, Cond.fieldLink RX4 132 "DrillCoresModel" "sum" "J", Cond.methodLink RX4 135 yX4_goOver, Cond.instanceMethod yX4_goOver, Cond.selects RX4 yX4_goOver yX4_goOver, Cond.code yX4_goOver cX4_goOver 3 none, Cond.fieldLink RX4 19 "DrillCoresModel" "number" "[J", Cond.methodLink RX4 139 yX4_goOverTwo, Cond.instanceMethod yX4_goOverTwo, Cond.selects RX4 yX4_goOverTwo yX4_goOverTwo, Cond.code yX4_goOverTwo cX4_goOverTwo 3 none]
def wsX4_count : List Cond := .code yX4_count cX4_count 6 (some .int) :: ((wsX4_count_r1 ++ wsX4_count_r2) ++ wsX40)
def wsX4_seen : List Cond := .code yX4_seen cX4_seen 1 (some .long) :: ([.fieldLink RX4 100 "DrillCoresModel" "seen" "J"] ++ wsX40)
def wsX4_about : List Cond := .code yX4_about cX4_about 4 (some .int) :: ([.fieldLink RX4 26 "DrillCoresModel" "boxes" "[I", .fieldLink RX4 32 "DrillCoresModel" "made" "I", .fieldLink RX4 29 "DrillCoresModel" "counts" "[I", .methodLink RX4 36 yX4_in, .static yX4_in, .initialized RX4, .code yX4_in cX4_in 3 (some .boolean)] ++ wsX40)
def wsL_law_r1 : List Cond := [Cond.classLink RL 7 RX3, Cond.instantiable RX3 6, Cond.initialized RX3, Cond.classLink RL 10 RX4, Cond.instantiable RX4 14, Cond.initialized RX4, Cond.constantLong RL 46 (4294967295), Cond.methodLink RL 9 yX3_init, Cond.instanceMethod yX3_init, Cond.code yX3_init cX3_init 1 none, Cond.methodLink RX3 1 objectInit, Cond.instanceMethod objectInit, Cond.code objectInit ⟨#[0xb1]⟩ 1 none, Cond.classLink RX3 9 RX2, Cond.fieldLink RX3 11 "DrillCores" "boxes" "[LDrillCores$Row;", Cond.arrayClass .int, Cond.fieldLink RX3 15 "DrillCores" "causesMet" "[I", Cond.classLink RX3 19 RX0, Cond.instantiable RX0 5, Cond.initialized RX0, Cond.fieldLink RX3 22 "DrillCores" "hand" "LDrillCores$Hand;", Cond.fieldLink RX3 26 "DrillCores" "rowsMade" "I", Cond.fieldLink RX3 30 "DrillCores" "lastMoved" "I", Cond.fieldLink RX3 33 "DrillCores" "lastSeen" "J"]
def wsL_law_r2 : List Cond := [Cond.instanceMethod yX0_init, Cond.code yX0_init cX0_init 1 none, Cond.methodLink RX0 3 objectInit, Cond.methodLink RL 12 yX4_init, Cond.instanceMethod yX4_init, Cond.code yX4_init cX4_init 1 none, Cond.methodLink RX4 1 objectInit, Cond.fieldLink RX4 7 "DrillCoresModel" "kindOf" "[I", Cond.fieldLink RX4 13 "DrillCoresModel" "depthOf" "[I", Cond.fieldLink RX4 16 "DrillCoresModel" "many" "[I", Cond.arrayClass .long, Cond.fieldLink RX4 19 "DrillCoresModel" "number" "[J", Cond.fieldLink RX4 23 "DrillCoresModel" "hung" "[I", Cond.fieldLink RX4 26 "DrillCoresModel" "boxes" "[I", Cond.fieldLink RX4 29 "DrillCoresModel" "counts" "[I", Cond.fieldLink RX4 32 "DrillCoresModel" "made" "I", Cond.methodLink RL 13 yX3_make, Cond.instanceMethod yX3_make, Cond.selects RX3 yX3_make yX3_make, Cond.code yX3_make cX3_make 5 (some .int), Cond.instantiable RX2 5, Cond.initialized RX2, Cond.methodLink RX3 37 yX3_isBox, Cond.static yX3_isBox]
def wsL_law_r3 : List Cond := [Cond.code yX3_isBox cX3_isBox 1 (some .boolean), Cond.methodLink RX3 41 yX3_isKind, Cond.static yX3_isKind, Cond.code yX3_isKind cX3_isKind 1 (some .boolean), Cond.methodLink RX3 44 yX3_met, Cond.instanceMethod yX3_met, Cond.selects RX3 yX3_met yX3_met, Cond.code yX3_met cX3_met 2 (some .int), Cond.methodLink RX3 48 yX2_init, Cond.instanceMethod yX2_init, Cond.code yX2_init cX2_init 4 none, Cond.methodLink RX2 3 objectInit, Cond.fieldLink RX2 9 "DrillCores$Row" "kind" "I", Cond.fieldLink RX2 15 "DrillCores$Row" "depth" "I", Cond.fieldLink RX2 18 "DrillCores$Row" "size" "I", Cond.fieldLink RX2 21 "DrillCores$Row" "numbers" "[J", Cond.classLink RX2 10 RX2, Cond.fieldLink RX2 25 "DrillCores$Row" "rows" "[LDrillCores$Row;", Cond.methodLink RL 17 yX4_make, Cond.instanceMethod yX4_make, Cond.selects RX4 yX4_make yX4_make, Cond.code yX4_make cX4_make 6 (some .int), Cond.methodLink RX4 89 yX4_isBox, Cond.static yX4_isBox]
def wsL_law_r4 : List Cond := [Cond.code yX4_isBox cX4_isBox 1 (some .boolean), Cond.methodLink RX4 36 yX4_in, Cond.static yX4_in, Cond.code yX4_in cX4_in 3 (some .boolean), Cond.methodLink RX4 93 yX4_isKind, Cond.static yX4_isKind, Cond.code yX4_isKind cX4_isKind 1 (some .boolean), Cond.methodLink RX4 96 yX4_fails, Cond.instanceMethod yX4_fails, Cond.selects RX4 yX4_fails yX4_fails, Cond.code yX4_fails cX4_fails 2 (some .int), Cond.methodLink RL 18 yX3_take, Cond.instanceMethod yX3_take, Cond.selects RX3 yX3_take yX3_take, Cond.code yX3_take cX3_take 3 (some .int), Cond.methodLink RL 22 yX4_take, Cond.instanceMethod yX4_take, Cond.selects RX4 yX4_take yX4_take, Cond.code yX4_take cX4_take 3 (some .int), Cond.methodLink RL 23 yX3_empty, Cond.instanceMethod yX3_empty, Cond.selects RX3 yX3_empty yX3_empty, Cond.code yX3_empty cX3_empty 3 (some .int), Cond.methodLink RL 27 yX4_empty]
def wsL_law_r5 : List Cond := [Cond.instanceMethod yX4_empty, Cond.selects RX4 yX4_empty yX4_empty, Cond.code yX4_empty cX4_empty 3 (some .int), Cond.methodLink RL 28 yX3_same, Cond.instanceMethod yX3_same, Cond.selects RX3 yX3_same yX3_same, Cond.code yX3_same cX3_same 3 (some .int), Cond.methodLink RL 31 yX4_same, Cond.instanceMethod yX4_same, Cond.selects RX4 yX4_same yX4_same, Cond.code yX4_same cX4_same 3 (some .int), Cond.methodLink RL 32 yX3_look, Cond.instanceMethod yX3_look, Cond.selects RX3 yX3_look yX3_look, Cond.code yX3_look cX3_look 8 (some .int), Cond.fieldLink RX3 59 "DrillCores$Hand" "onNumber" "Z", Cond.fieldLink RX3 63 "DrillCores$Hand" "number" "J", Cond.fieldLink RX3 66 "DrillCores$Hand" "kind" "I", Cond.fieldLink RX3 69 "DrillCores$Hand" "row" "LDrillCores$Row;", Cond.fieldLink RX3 73 "DrillCores$Row" "kind" "I", Cond.fieldLink RX3 74 "DrillCores$Row" "depth" "I", Cond.methodLink RX3 51 yX3_isSteps, Cond.static yX3_isSteps, Cond.code yX3_isSteps cX3_isSteps 3 (some .boolean)]
def wsL_law_r6 : List Cond := [Cond.methodLink RX3 55 yX3_walk, Cond.instanceMethod yX3_walk, Cond.selects RX3 yX3_walk yX3_walk, Cond.code yX3_walk cX3_walk 7 (some .int), Cond.fieldLink RX3 81 "DrillCores$Hand" "cause" "I", Cond.methodLink RX3 149 yX0_startAt, Cond.instanceMethod yX0_startAt, Cond.selects RX0 yX0_startAt yX0_startAt, Cond.code yX0_startAt cX0_startAt 2 none, Cond.fieldLink RX0 9 "DrillCores$Hand" "row" "LDrillCores$Row;", Cond.fieldLink RX0 15 "DrillCores$Hand" "onNumber" "Z", Cond.fieldLink RX0 19 "DrillCores$Hand" "cause" "I", Cond.methodLink RX3 87 yX3_placeOfStep, Cond.static yX3_placeOfStep, Cond.code yX3_placeOfStep cX3_placeOfStep 4 (some .int), Cond.methodLink RX3 153 yX0_stepTo, Cond.instanceMethod yX0_stepTo, Cond.selects RX0 yX0_stepTo yX0_stepTo, Cond.code yX0_stepTo cX0_stepTo 3 none, Cond.fieldLink RX0 36 "DrillCores$Row" "kind" "I", Cond.fieldLink RX0 39 "DrillCores$Hand" "kind" "I", Cond.fieldLink RX0 40 "DrillCores$Row" "numbers" "[J", Cond.fieldLink RX0 44 "DrillCores$Hand" "number" "J", Cond.fieldLink RX0 48 "DrillCores$Row" "rows" "[LDrillCores$Row;"]
def wsL_law_r7 : List Cond := [Cond.methodLink RX0 23 yX0_wantRow, Cond.instanceMethod yX0_wantRow, Cond.selects RX0 yX0_wantRow yX0_wantRow, Cond.code yX0_wantRow cX0_wantRow 1 none, Cond.methodLink RX0 26 yX2_hasPlace, Cond.instanceMethod yX2_hasPlace, Cond.selects RX2 yX2_hasPlace yX2_hasPlace, Cond.code yX2_hasPlace cX2_hasPlace 2 (some .boolean), Cond.methodLink RX0 32 yX2_hasNumbers, Cond.instanceMethod yX2_hasNumbers, Cond.selects RX2 yX2_hasNumbers yX2_hasNumbers, Cond.code yX2_hasNumbers cX2_hasNumbers 1 (some .boolean), Cond.methodLink RL 36 yX4_look, Cond.instanceMethod yX4_look, Cond.selects RX4 yX4_look yX4_look, Cond.code yX4_look cX4_look 7 (some .int), Cond.fieldLink RX4 71 "DrillCoresModel" "numberAt" "I", Cond.fieldLink RX4 100 "DrillCoresModel" "seen" "J", Cond.fieldLink RX4 68 "DrillCoresModel" "there" "I", Cond.methodLink RX4 74 yX4_go, Cond.instanceMethod yX4_go, Cond.selects RX4 yX4_go yX4_go, Cond.code yX4_go cX4_go 9 (some .int), Cond.methodLink RL 37 yX3_length]
def wsL_law_r8 : List Cond := [Cond.instanceMethod yX3_length, Cond.selects RX3 yX3_length yX3_length, Cond.code yX3_length cX3_length 7 (some .int), Cond.fieldLink RX3 84 "DrillCores$Row" "size" "I", Cond.methodLink RX3 77 yX3_rowThere, Cond.instanceMethod yX3_rowThere, Cond.selects RX3 yX3_rowThere yX3_rowThere, Cond.code yX3_rowThere cX3_rowThere 6 (some (.object "DrillCores$Row")), Cond.methodLink RX3 157 yX0_wantRow, Cond.methodLink RL 40 yX4_length, Cond.instanceMethod yX4_length, Cond.selects RX4 yX4_length yX4_length, Cond.code yX4_length cX4_length 7 (some .int), Cond.methodLink RX4 78 yX4_wantRow, Cond.instanceMethod yX4_wantRow, Cond.selects RX4 yX4_wantRow yX4_wantRow, Cond.code yX4_wantRow cX4_wantRow 1 (some .int), Cond.methodLink RL 41 yX3_read, Cond.instanceMethod yX3_read, Cond.selects RX3 yX3_read yX3_read, Cond.code yX3_read cX3_read 10 (some .int), Cond.fieldLink RX3 95 "DrillCores$Row" "numbers" "[J", Cond.methodLink RX3 91 yX2_causeToRead, Cond.instanceMethod yX2_causeToRead]
def wsL_law_r9 : List Cond := [Cond.selects RX2 yX2_causeToRead yX2_causeToRead, Cond.code yX2_causeToRead cX2_causeToRead 3 (some .int), Cond.methodLink RX2 29 yX2_causeAtNumber, Cond.instanceMethod yX2_causeAtNumber, Cond.selects RX2 yX2_causeAtNumber yX2_causeAtNumber, Cond.code yX2_causeAtNumber cX2_causeAtNumber 4 (some .int), Cond.methodLink RX2 33 yX2_hasNumbers, Cond.methodLink RX2 37 yX2_hasPlace, Cond.methodLink RX2 41 yX1_goesInto, Cond.static yX1_goesInto, Cond.initialized RX1, Cond.code yX1_goesInto cX1_goesInto 2 (some .boolean), Cond.methodLink RX3 99 yX1_asKind, Cond.static yX1_asKind, Cond.code yX1_asKind cX1_asKind 4 (some .long), Cond.methodLink RX1 21 yX1_doubleOfFloat, Cond.static yX1_doubleOfFloat, Cond.code yX1_doubleOfFloat cX1_doubleOfFloat 10 (some .long), Cond.constantLong RX1 13 (2139095040), Cond.constantLong RX1 19 (9221120237041090560), Cond.constantLong RX1 17 (9218868437227405312), Cond.constantLong RX1 42 (127), Cond.constantLong RX1 44 (1023), Cond.methodLink RX1 9 yX1_lowBits]
def wsL_law_r10 : List Cond := [Cond.static yX1_lowBits, Cond.code yX1_lowBits cX1_lowBits 1 (some .long), Cond.methodLink RX1 34 yX1_nearest, Cond.static yX1_nearest, Cond.code yX1_nearest cX1_nearest 7 (some .long), Cond.methodLink RX1 46 yJ13_numberOfLeadingZeros_95d88, Cond.static yJ13_numberOfLeadingZeros_95d88, Cond.initialized RJ13, Cond.code yJ13_numberOfLeadingZeros_95d88 cJ13_numberOfLeadingZeros_95d88 3 (some .int), Cond.methodLink RJ13 308 yJ6_numberOfLeadingZeros_0f7a4, Cond.static yJ6_numberOfLeadingZeros_0f7a4, Cond.initialized RJ6, Cond.code yJ6_numberOfLeadingZeros_0f7a4 cJ6_numberOfLeadingZeros_0f7a4 2 (some .int), Cond.constant RJ6 264 (65536), Cond.methodLink RX1 52 yX1_roundedOff, Cond.static yX1_roundedOff, Cond.code yX1_roundedOff cX1_roundedOff 10 (some .long), Cond.methodLink RX1 38 yX1_withSign, Cond.static yX1_withSign, Cond.code yX1_withSign cX1_withSign 4 (some .long), Cond.constantLong RX1 56 (-1), Cond.methodLink RX1 25 yX1_nearestFloat, Cond.static yX1_nearestFloat, Cond.code yX1_nearestFloat cX1_nearestFloat 4 (some .long)]
def wsL_law_r11 : List Cond := [Cond.methodLink RX1 31 yX1_sizeOf, Cond.static yX1_sizeOf, Cond.code yX1_sizeOf cX1_sizeOf 2 (some .long), Cond.methodLink RX1 28 yX1_nearestDouble, Cond.static yX1_nearestDouble, Cond.code yX1_nearestDouble cX1_nearestDouble 4 (some .long), Cond.methodLink RL 45 yX4_read, Cond.instanceMethod yX4_read, Cond.selects RX4 yX4_read yX4_read, Cond.code yX4_read cX4_read 8 (some .int), Cond.methodLink RX4 104 yX4_goToNumber, Cond.instanceMethod yX4_goToNumber, Cond.selects RX4 yX4_goToNumber yX4_goToNumber, Cond.code yX4_goToNumber cX4_goToNumber 7 (some .int), Cond.methodLink RX4 82 yX4_goToRow, Cond.instanceMethod yX4_goToRow, Cond.selects RX4 yX4_goToRow yX4_goToRow, Cond.code yX4_goToRow cX4_goToRow 6 (some .int), Cond.methodLink RX4 86 yX4_last, Cond.static yX4_last, Cond.code yX4_last cX4_last 4 (some .int), Cond.methodLink RX4 107 yX4_goesInto, Cond.static yX4_goesInto, Cond.code yX4_goesInto cX4_goesInto 2 (some .boolean)]
def wsL_law_r12 : List Cond := [Cond.methodLink RX4 111 yX4_as, Cond.static yX4_as, Cond.code yX4_as cX4_as 5 (some .long), Cond.methodLink RX4 52 ⟨"java/lang/Float", "intBitsToFloat", "(I)F"⟩, Cond.native ⟨"java/lang/Float", "intBitsToFloat", "(I)F"⟩, Cond.static ⟨"java/lang/Float", "intBitsToFloat", "(I)F"⟩, Cond.initialized "java/lang/Float", Cond.constantLong RX4 44 (2143289344), Cond.constantLong RX4 50 (9221120237041090560), Cond.methodLink RX4 58 yJxe99ae_doubleToLongBits_ccdee, Cond.static yJxe99ae_doubleToLongBits_ccdee, Cond.initialized RJxe99ae, Cond.code yJxe99ae_doubleToLongBits_ccdee cJxe99ae_doubleToLongBits_ccdee 2 (some .long), Cond.methodLink RJxe99ae 134 ⟨"java/lang/Double", "doubleToRawLongBits", "(D)J"⟩, Cond.native ⟨"java/lang/Double", "doubleToRawLongBits", "(D)J"⟩, Cond.static ⟨"java/lang/Double", "doubleToRawLongBits", "(D)J"⟩, Cond.initialized "java/lang/Double", Cond.constantLong RJxe99ae 137 (9221120237041090560), Cond.methodLink RJxe99ae 122 yJxe99ae_isNaN_b9ae7, Cond.static yJxe99ae_isNaN_b9ae7, Cond.code yJxe99ae_isNaN_b9ae7 cJxe99ae_isNaN_b9ae7 2 (some .boolean), Cond.methodLink RX4 64 yJxf58ca_floatToIntBits_5c35a, Cond.static yJxf58ca_floatToIntBits_5c35a, Cond.initialized RJxf58ca]
def wsL_law_r13 : List Cond := [Cond.code yJxf58ca_floatToIntBits_5c35a cJxf58ca_floatToIntBits_5c35a 1 (some .int), Cond.methodLink RJxf58ca 74 ⟨"java/lang/Float", "floatToRawIntBits", "(F)I"⟩, Cond.native ⟨"java/lang/Float", "floatToRawIntBits", "(F)I"⟩, Cond.static ⟨"java/lang/Float", "floatToRawIntBits", "(F)I"⟩, Cond.constant RJxf58ca 77 (2143289344), Cond.methodLink RJxf58ca 59 yJxf58ca_isNaN_12338, Cond.static yJxf58ca_isNaN_12338, Cond.code yJxf58ca_isNaN_12338 cJxf58ca_isNaN_12338 1 (some .boolean), Cond.methodLink RL 48 yX3_write, Cond.instanceMethod yX3_write, Cond.selects RX3 yX3_write yX3_write, Cond.code yX3_write cX3_write 12 (some .int), Cond.methodLink RX3 105 yX2_causeToWrite, Cond.instanceMethod yX2_causeToWrite, Cond.selects RX2 yX2_causeToWrite yX2_causeToWrite, Cond.code yX2_causeToWrite cX2_causeToWrite 3 (some .int), Cond.methodLink RX3 108 yX1_told, Cond.static yX1_told, Cond.code yX1_told cX1_told 3 (some .long), Cond.constantLong RX1 15 (2143289344), Cond.methodLink RL 52 yX4_write, Cond.instanceMethod yX4_write, Cond.selects RX4 yX4_write yX4_write, Cond.code yX4_write cX4_write 10 (some .int)]
def wsL_law_r14 : List Cond := [Cond.methodLink RX4 115 yX4_ofBits, Cond.static yX4_ofBits, Cond.code yX4_ofBits cX4_ofBits 3 (some .long), Cond.constantLong RX4 40 (65535), Cond.constant RX4 42 (2147483647), Cond.constant RX4 43 (2139095040), Cond.constantLong RX4 46 (9223372036854775807), Cond.constantLong RX4 48 (9218868437227405312), Cond.methodLink RL 53 yX3_hang, Cond.instanceMethod yX3_hang, Cond.selects RX3 yX3_hang yX3_hang, Cond.code yX3_hang cX3_hang 10 (some .int), Cond.fieldLink RX3 116 "DrillCores$Row" "rows" "[LDrillCores$Row;", Cond.methodLink RX3 112 yX2_causeToHang, Cond.instanceMethod yX2_causeToHang, Cond.selects RX2 yX2_causeToHang yX2_causeToHang, Cond.code yX2_causeToHang cX2_causeToHang 3 (some .int), Cond.methodLink RL 56 yX4_hang, Cond.instanceMethod yX4_hang, Cond.selects RX4 yX4_hang yX4_hang, Cond.code yX4_hang cX4_hang 11 (some .int), Cond.methodLink RX4 119 yX4_fits, Cond.instanceMethod yX4_fits, Cond.selects RX4 yX4_fits yX4_fits]
def wsL_law_r15 : List Cond := [Cond.code yX4_fits cX4_fits 3 (some .boolean), Cond.methodLink RL 57 yX3_lift, Cond.instanceMethod yX3_lift, Cond.selects RX3 yX3_lift yX3_lift, Cond.code yX3_lift cX3_lift 8 (some .int), Cond.methodLink RL 60 yX4_lift, Cond.instanceMethod yX4_lift, Cond.selects RX4 yX4_lift yX4_lift, Cond.code yX4_lift cX4_lift 8 (some .int), Cond.methodLink RL 61 yX3_turn, Cond.instanceMethod yX3_turn, Cond.selects RX3 yX3_turn yX3_turn, Cond.code yX3_turn cX3_turn 8 (some .int), Cond.methodLink RX3 119 yX2_hasPlace, Cond.methodLink RX3 122 yX2_exchange, Cond.instanceMethod yX2_exchange, Cond.selects RX2 yX2_exchange yX2_exchange, Cond.code yX2_exchange cX2_exchange 5 none, Cond.methodLink RL 64 yX4_turn, Cond.instanceMethod yX4_turn, Cond.selects RX4 yX4_turn yX4_turn, Cond.code yX4_turn cX4_turn 13 (some .int), Cond.methodLink RL 65 yX3_fill, Cond.instanceMethod yX3_fill]
def wsL_law_r16 : List Cond := [Cond.selects RX3 yX3_fill yX3_fill, Cond.code yX3_fill cX3_fill 13 (some .int), Cond.methodLink RL 69 yX4_fill, Cond.instanceMethod yX4_fill, Cond.selects RX4 yX4_fill yX4_fill, Cond.code yX4_fill cX4_fill 10 (some .int), Cond.methodLink RL 70 yX3_pour, Cond.instanceMethod yX3_pour, Cond.selects RX3 yX3_pour yX3_pour, Cond.code yX3_pour cX3_pour 7 (some .int), Cond.methodLink RX3 126 yX2_causeToPour, Cond.instanceMethod yX2_causeToPour, Cond.selects RX2 yX2_causeToPour yX2_causeToPour, Cond.code yX2_causeToPour cX2_causeToPour 3 (some .int), Cond.methodLink RX2 47 yX2_causeToHang, Cond.methodLink RX3 129 yX2_pourIn, Cond.instanceMethod yX2_pourIn, Cond.selects RX2 yX2_pourIn yX2_pourIn, Cond.code yX2_pourIn cX2_pourIn 3 none, Cond.methodLink RX2 51 yX1_asKind, Cond.methodLink RL 73 yX4_pour, Cond.instanceMethod yX4_pour, Cond.selects RX4 yX4_pour yX4_pour, Cond.code yX4_pour cX4_pour 5 (some .int)]
def wsL_law_r17 : List Cond := [Cond.fieldLink RX4 122 "DrillCoresModel" "moved" "I", Cond.methodLink RX4 125 yX4_pourOne, Cond.instanceMethod yX4_pourOne, Cond.selects RX4 yX4_pourOne yX4_pourOne, Cond.code yX4_pourOne cX4_pourOne 6 (some .int), Cond.methodLink RL 74 yX3_moved, Cond.instanceMethod yX3_moved, Cond.selects RX3 yX3_moved yX3_moved, Cond.code yX3_moved cX3_moved 1 (some .int), Cond.methodLink RL 78 yX4_moved, Cond.instanceMethod yX4_moved, Cond.selects RX4 yX4_moved yX4_moved, Cond.code yX4_moved cX4_moved 1 (some .int), Cond.methodLink RL 79 yX3_total, Cond.instanceMethod yX3_total, Cond.selects RX3 yX3_total yX3_total, Cond.code yX3_total cX3_total 6 (some .int), Cond.methodLink RX3 133 yX1_goesInto, Cond.methodLink RX3 137 yX3_numbersIn, Cond.static yX3_numbersIn, Cond.code yX3_numbersIn cX3_numbersIn 4 (some .int), Cond.methodLink RX3 141 yX3_sumOf, Cond.static yX3_sumOf, Cond.code yX3_sumOf cX3_sumOf 5 (some .long)]
def wsL_law_r18 : List Cond := [Cond.methodLink RL 82 yX4_total, Cond.instanceMethod yX4_total, Cond.selects RX4 yX4_total yX4_total, Cond.code yX4_total cX4_total 6 (some .int), Cond.fieldLink RX4 129 "DrillCoresModel" "gone" "I", Cond.fieldLink RX4 132 "DrillCoresModel" "sum" "J", Cond.methodLink RX4 142 yX4_goOverAll, Cond.instanceMethod yX4_goOverAll, Cond.selects RX4 yX4_goOverAll yX4_goOverAll, Cond.code yX4_goOverAll cX4_goOverAll 3 none, Cond.methodLink RX4 135 yX4_goOver, Cond.instanceMethod yX4_goOver, Cond.selects RX4 yX4_goOver yX4_goOver, Cond.code yX4_goOver cX4_goOver 3 none, Cond.methodLink RX4 139 yX4_goOverTwo, Cond.instanceMethod yX4_goOverTwo, Cond.selects RX4 yX4_goOverTwo yX4_goOverTwo, Cond.code yX4_goOverTwo cX4_goOverTwo 3 none, Cond.methodLink RL 83 yX3_count, Cond.instanceMethod yX3_count, Cond.selects RX3 yX3_count yX3_count, Cond.code yX3_count cX3_count 6 (some .int), Cond.methodLink RL 86 yX4_count, Cond.instanceMethod yX4_count]
def wsL_law_r19 : List Cond := [Cond.selects RX4 yX4_count yX4_count, Cond.code yX4_count cX4_count 6 (some .int), Cond.methodLink RL 87 yX3_seen, Cond.instanceMethod yX3_seen, Cond.selects RX3 yX3_seen yX3_seen, Cond.code yX3_seen cX3_seen 1 (some .long), Cond.methodLink RL 91 yX4_seen, Cond.instanceMethod yX4_seen, Cond.selects RX4 yX4_seen yX4_seen, Cond.code yX4_seen cX4_seen 1 (some .long), Cond.methodLink RL 92 yX3_about, Cond.instanceMethod yX3_about, Cond.selects RX3 yX3_about yX3_about, Cond.code yX3_about cX3_about 2 (some .int), Cond.methodLink RX3 145 yX3_boxesInUse, Cond.instanceMethod yX3_boxesInUse, Cond.selects RX3 yX3_boxesInUse yX3_boxesInUse, Cond.code yX3_boxesInUse cX3_boxesInUse 3 (some .int), Cond.methodLink RL 95 yX4_about, Cond.instanceMethod yX4_about, Cond.selects RX4 yX4_about yX4_about, Cond.code yX4_about cX4_about 4 (some .int)]
def wsL_law : List Cond := (wsL_law_r1 ++ (wsL_law_r2 ++ (wsL_law_r3 ++ (wsL_law_r4 ++ (wsL_law_r5 ++ (wsL_law_r6 ++ (wsL_law_r7 ++ (wsL_law_r8 ++ (wsL_law_r9 ++ (wsL_law_r10 ++ (wsL_law_r11 ++ (wsL_law_r12 ++ (wsL_law_r13 ++ (wsL_law_r14 ++ (wsL_law_r15 ++ (wsL_law_r16 ++ (wsL_law_r17 ++ (wsL_law_r18 ++ wsL_law_r19)))))))))))))))))) ++ wsX30 ++ wsX40 ++ wsX00 ++ wsX20 ++ ([] : List Cond)
set_option maxRecDepth 20000 in
theorem wsL_law_in : ∀ w ∈ wsL_law, w ∈ lw_tbl := fun w h => (goodIn_p wsL_law [29, 32, 39, 325, 85, 88, 91, 95, 99, 373, 376, 379, 382, 386, 130, 390, 134, 394, 138, 398, 142, 145, 149, 153, 156, 160, 164, 168, 172, 402, 406, 176, 180, 410, 414, 185, 189, 193, 198, 201, 204, 207, 213, 216, 219, 223, 228, 232, 235, 238, 418, 422, 426, 429, 432, 435, 443, 446, 453, 456, 242, 246, 249, 464, 467, 254, 258, 476, 480, 262, 484, 266, 271, 488, 275, 492, 279, 283, 288, 496, 500, 293, 504, 297, 301, 304, 508, 512, 516, 520, 308, 524, 312, 528, 316, 320, 532] (by decide +kernel) (by decide +kernel) w h).1
theorem inlX0 : ∀ w ∈ wsX00, w ∈ wsL_law := fun _ h => List.mem_append_left _ (List.mem_append_left _ (List.mem_append_right _ h))
theorem inX0 : ∀ w ∈ wsX00, w ∈ lw_tbl := fun w h => wsL_law_in w (inlX0 w h)
theorem inX1 : ∀ w ∈ wsX10, w ∈ lw_tbl := by decide +kernel
theorem inlX2 : ∀ w ∈ wsX20, w ∈ wsL_law := fun _ h => List.mem_append_left _ (List.mem_append_right _ h)
theorem inX2 : ∀ w ∈ wsX20, w ∈ lw_tbl := fun w h => wsL_law_in w (inlX2 w h)
theorem inlX3 : ∀ w ∈ wsX30, w ∈ wsL_law := fun _ h => List.mem_append_left _ (List.mem_append_left _ (List.mem_append_left _ (List.mem_append_left _ (List.mem_append_right _ h))))
theorem inX3 : ∀ w ∈ wsX30, w ∈ lw_tbl := fun w h => wsL_law_in w (inlX3 w h)
theorem inlX4 : ∀ w ∈ wsX40, w ∈ wsL_law := fun _ h => List.mem_append_left _ (List.mem_append_left _ (List.mem_append_left _ (List.mem_append_right _ h)))
theorem inX4 : ∀ w ∈ wsX40, w ∈ lw_tbl := fun w h => wsL_law_in w (inlX4 w h)
theorem inJxe99ae : ∀ w ∈ wsJxe99ae0, w ∈ lw_tbl := by decide +kernel
theorem inJxf58ca : ∀ w ∈ wsJxf58ca0, w ∈ lw_tbl := by decide +kernel
theorem inJ6 : ∀ w ∈ wsJ60, w ∈ lw_tbl := by decide +kernel
theorem inJ13 : ∀ w ∈ wsJ130, w ∈ lw_tbl := by decide +kernel
abbrev vwCl : List vw_C := [(RX0, TX0, 5), (RX2, TX2, 5), (RX3, TX3, 6), (RX4, TX4, 14)]
end
section
theorem dX0_init_0 : decode cX0_init 0 = .ok (.aload_n 0, 1) := by decide +kernel
theorem dX0_init_1 : decode cX0_init 1 = .ok (.invokespecial 3, 3) := by decide +kernel
theorem dX0_init_4 : decode cX0_init 4 = .ok (.return_, 1) := by decide +kernel
theorem dX0_startAt_0 : decode cX0_startAt 0 = .ok (.aload_n 0, 1) := by decide +kernel
theorem dX0_startAt_1 : decode cX0_startAt 1 = .ok (.aload_n 1, 1) := by decide +kernel
theorem dX0_startAt_2 : decode cX0_startAt 2 = .ok (.putfield 9, 3) := by decide +kernel
theorem dX0_startAt_5 : decode cX0_startAt 5 = .ok (.aload_n 0, 1) := by decide +kernel
theorem dX0_startAt_6 : decode cX0_startAt 6 = .ok (.iconst 0, 1) := by decide +kernel
theorem dX0_startAt_7 : decode cX0_startAt 7 = .ok (.putfield 15, 3) := by decide +kernel
theorem dX0_startAt_10 : decode cX0_startAt 10 = .ok (.aload_n 0, 1) := by decide +kernel
theorem dX0_startAt_11 : decode cX0_startAt 11 = .ok (.iconst 0, 1) := by decide +kernel
theorem dX0_startAt_12 : decode cX0_startAt 12 = .ok (.putfield 19, 3) := by decide +kernel
theorem dX0_startAt_15 : decode cX0_startAt 15 = .ok (.return_, 1) := by decide +kernel
set_option maxRecDepth 20000 in
theorem ggX0_stepTo_X0_wantRow : GoodIn wsX0_stepTo wsX0_wantRow := goodIn_r _ [13, 2, 1, 3, 25, 26, 27, 28, 29] (by decide +kernel) (by decide +kernel)
set_option maxRecDepth 20000 in
theorem gX0_stepTo_X0_wantRow : GoodIn wsX0_stepTo (wsV RX0 23 RX0 yX0_wantRow wsX0_wantRow) := goodIn_app (goodIn_of _ (by decide +kernel)) ggX0_stepTo_X0_wantRow
set_option maxRecDepth 20000 in
theorem ggX0_stepTo_X2_hasPlace : GoodIn wsX0_stepTo wsX2_hasPlace := goodIn_r _ [18, 19, 30, 31, 32, 33, 34] (by decide +kernel) (by decide +kernel)
set_option maxRecDepth 20000 in
theorem gX0_stepTo_X2_hasPlace : GoodIn wsX0_stepTo (wsV RX0 26 RX2 yX2_hasPlace wsX2_hasPlace) := goodIn_app (goodIn_of _ (by decide +kernel)) ggX0_stepTo_X2_hasPlace
set_option maxRecDepth 20000 in
theorem ggX0_stepTo_X2_hasNumbers : GoodIn wsX0_stepTo wsX2_hasNumbers := goodIn_r _ [23, 24, 30, 31, 32, 33, 34] (by decide +kernel) (by decide +kernel)
set_option maxRecDepth 20000 in
theorem gX0_stepTo_X2_hasNumbers : GoodIn wsX0_stepTo (wsV RX0 32 RX2 yX2_hasNumbers wsX2_hasNumbers) := goodIn_app (goodIn_of _ (by decide +kernel)) ggX0_stepTo_X2_hasNumbers
theorem dX0_stepTo_0 : decode cX0_stepTo 0 = .ok (.aload_n 0, 1) := by decide +kernel
theorem dX0_stepTo_1 : decode cX0_stepTo 1 = .ok (.invokevirtual 23, 3) := by decide +kernel
theorem dX0_stepTo_4 : decode cX0_stepTo 4 = .ok (.aload_n 0, 1) := by decide +kernel
theorem dX0_stepTo_5 : decode cX0_stepTo 5 = .ok (.getfield 9, 3) := by decide +kernel
theorem dX0_stepTo_8 : decode cX0_stepTo 8 = .ok (.astore_n 2, 1) := by decide +kernel
theorem dX0_stepTo_9 : decode cX0_stepTo 9 = .ok (.aload_n 0, 1) := by decide +kernel
theorem dX0_stepTo_10 : decode cX0_stepTo 10 = .ok (.getfield 19, 3) := by decide +kernel
theorem dX0_stepTo_13 : decode cX0_stepTo 13 = .ok (.ifCond .ne 7, 3) := by decide +kernel
theorem dX0_stepTo_16 : decode cX0_stepTo 16 = .ok (.aload_n 2, 1) := by decide +kernel
theorem dX0_stepTo_17 : decode cX0_stepTo 17 = .ok (.ifnonnull 4, 3) := by decide +kernel
theorem dX0_stepTo_20 : decode cX0_stepTo 20 = .ok (.return_, 1) := by decide +kernel
theorem dX0_stepTo_21 : decode cX0_stepTo 21 = .ok (.aload_n 2, 1) := by decide +kernel
theorem dX0_stepTo_22 : decode cX0_stepTo 22 = .ok (.iload_n 1, 1) := by decide +kernel
theorem dX0_stepTo_23 : decode cX0_stepTo 23 = .ok (.invokevirtual 26, 3) := by decide +kernel
theorem dX0_stepTo_26 : decode cX0_stepTo 26 = .ok (.ifCond .ne 11, 3) := by decide +kernel
theorem dX0_stepTo_29 : decode cX0_stepTo 29 = .ok (.aload_n 0, 1) := by decide +kernel
theorem dX0_stepTo_30 : decode cX0_stepTo 30 = .ok (.iconst 3, 1) := by decide +kernel
theorem dX0_stepTo_31 : decode cX0_stepTo 31 = .ok (.putfield 19, 3) := by decide +kernel
theorem dX0_stepTo_34 : decode cX0_stepTo 34 = .ok (.goto 51, 3) := by decide +kernel
theorem dX0_stepTo_37 : decode cX0_stepTo 37 = .ok (.aload_n 2, 1) := by decide +kernel
theorem dX0_stepTo_38 : decode cX0_stepTo 38 = .ok (.invokevirtual 32, 3) := by decide +kernel
theorem dX0_stepTo_41 : decode cX0_stepTo 41 = .ok (.ifCond .eq 34, 3) := by decide +kernel
theorem dX0_stepTo_44 : decode cX0_stepTo 44 = .ok (.aload_n 0, 1) := by decide +kernel
theorem dX0_stepTo_45 : decode cX0_stepTo 45 = .ok (.iconst 1, 1) := by decide +kernel
theorem dX0_stepTo_46 : decode cX0_stepTo 46 = .ok (.putfield 15, 3) := by decide +kernel
theorem dX0_stepTo_49 : decode cX0_stepTo 49 = .ok (.aload_n 0, 1) := by decide +kernel
theorem dX0_stepTo_50 : decode cX0_stepTo 50 = .ok (.aload_n 2, 1) := by decide +kernel
theorem dX0_stepTo_51 : decode cX0_stepTo 51 = .ok (.getfield 36, 3) := by decide +kernel
theorem dX0_stepTo_54 : decode cX0_stepTo 54 = .ok (.putfield 39, 3) := by decide +kernel
theorem dX0_stepTo_57 : decode cX0_stepTo 57 = .ok (.aload_n 0, 1) := by decide +kernel
theorem dX0_stepTo_58 : decode cX0_stepTo 58 = .ok (.aload_n 2, 1) := by decide +kernel
theorem dX0_stepTo_59 : decode cX0_stepTo 59 = .ok (.getfield 40, 3) := by decide +kernel
theorem dX0_stepTo_62 : decode cX0_stepTo 62 = .ok (.iload_n 1, 1) := by decide +kernel
theorem dX0_stepTo_63 : decode cX0_stepTo 63 = .ok (.laload, 1) := by decide +kernel
theorem dX0_stepTo_64 : decode cX0_stepTo 64 = .ok (.putfield 44, 3) := by decide +kernel
theorem dX0_stepTo_67 : decode cX0_stepTo 67 = .ok (.aload_n 0, 1) := by decide +kernel
theorem dX0_stepTo_68 : decode cX0_stepTo 68 = .ok (.aconst_null, 1) := by decide +kernel
theorem dX0_stepTo_69 : decode cX0_stepTo 69 = .ok (.putfield 9, 3) := by decide +kernel
theorem dX0_stepTo_72 : decode cX0_stepTo 72 = .ok (.goto 13, 3) := by decide +kernel
theorem dX0_stepTo_75 : decode cX0_stepTo 75 = .ok (.aload_n 0, 1) := by decide +kernel
theorem dX0_stepTo_76 : decode cX0_stepTo 76 = .ok (.aload_n 2, 1) := by decide +kernel
theorem dX0_stepTo_77 : decode cX0_stepTo 77 = .ok (.getfield 48, 3) := by decide +kernel
theorem dX0_stepTo_80 : decode cX0_stepTo 80 = .ok (.iload_n 1, 1) := by decide +kernel
theorem dX0_stepTo_81 : decode cX0_stepTo 81 = .ok (.aaload, 1) := by decide +kernel
theorem dX0_stepTo_82 : decode cX0_stepTo 82 = .ok (.putfield 9, 3) := by decide +kernel
theorem dX0_stepTo_85 : decode cX0_stepTo 85 = .ok (.return_, 1) := by decide +kernel
theorem dX0_wantRow_0 : decode cX0_wantRow 0 = .ok (.aload_n 0, 1) := by decide +kernel
theorem dX0_wantRow_1 : decode cX0_wantRow 1 = .ok (.getfield 19, 3) := by decide +kernel
theorem dX0_wantRow_4 : decode cX0_wantRow 4 = .ok (.ifCond .ne 26, 3) := by decide +kernel
theorem dX0_wantRow_7 : decode cX0_wantRow 7 = .ok (.aload_n 0, 1) := by decide +kernel
theorem dX0_wantRow_8 : decode cX0_wantRow 8 = .ok (.getfield 9, 3) := by decide +kernel
theorem dX0_wantRow_11 : decode cX0_wantRow 11 = .ok (.ifnonnull 19, 3) := by decide +kernel
theorem dX0_wantRow_14 : decode cX0_wantRow 14 = .ok (.aload_n 0, 1) := by decide +kernel
theorem dX0_wantRow_15 : decode cX0_wantRow 15 = .ok (.aload_n 0, 1) := by decide +kernel
theorem dX0_wantRow_16 : decode cX0_wantRow 16 = .ok (.getfield 15, 3) := by decide +kernel
theorem dX0_wantRow_19 : decode cX0_wantRow 19 = .ok (.ifCond .eq 7, 3) := by decide +kernel
theorem dX0_wantRow_22 : decode cX0_wantRow 22 = .ok (.iconst 2, 1) := by decide +kernel
theorem dX0_wantRow_23 : decode cX0_wantRow 23 = .ok (.goto 4, 3) := by decide +kernel
theorem dX0_wantRow_26 : decode cX0_wantRow 26 = .ok (.iconst 1, 1) := by decide +kernel
theorem dX0_wantRow_27 : decode cX0_wantRow 27 = .ok (.putfield 19, 3) := by decide +kernel
theorem dX0_wantRow_30 : decode cX0_wantRow 30 = .ok (.return_, 1) := by decide +kernel
theorem dX1_goesInto_0 : decode cX1_goesInto 0 = .ok (.iload_n 0, 1) := by decide +kernel
theorem dX1_goesInto_1 : decode cX1_goesInto 1 = .ok (.iload_n 1, 1) := by decide +kernel
theorem dX1_goesInto_2 : decode cX1_goesInto 2 = .ok (.if_icmp .ne 5, 3) := by decide +kernel
theorem dX1_goesInto_5 : decode cX1_goesInto 5 = .ok (.iconst 1, 1) := by decide +kernel
theorem dX1_goesInto_6 : decode cX1_goesInto 6 = .ok (.ireturn, 1) := by decide +kernel
theorem dX1_goesInto_7 : decode cX1_goesInto 7 = .ok (.iload_n 0, 1) := by decide +kernel
theorem dX1_goesInto_8 : decode cX1_goesInto 8 = .ok (.ifCond .ne 5, 3) := by decide +kernel
theorem dX1_goesInto_11 : decode cX1_goesInto 11 = .ok (.iconst 0, 1) := by decide +kernel
theorem dX1_goesInto_12 : decode cX1_goesInto 12 = .ok (.ireturn, 1) := by decide +kernel
theorem dX1_goesInto_13 : decode cX1_goesInto 13 = .ok (.iload_n 0, 1) := by decide +kernel
theorem dX1_goesInto_14 : decode cX1_goesInto 14 = .ok (.iconst 1, 1) := by decide +kernel
theorem dX1_goesInto_15 : decode cX1_goesInto 15 = .ok (.if_icmp .ne 10, 3) := by decide +kernel
theorem dX1_goesInto_18 : decode cX1_goesInto 18 = .ok (.iload_n 1, 1) := by decide +kernel
theorem dX1_goesInto_19 : decode cX1_goesInto 19 = .ok (.iconst 2, 1) := by decide +kernel
theorem dX1_goesInto_20 : decode cX1_goesInto 20 = .ok (.if_icmp .ne 5, 3) := by decide +kernel
theorem dX1_goesInto_23 : decode cX1_goesInto 23 = .ok (.iconst 1, 1) := by decide +kernel
theorem dX1_goesInto_24 : decode cX1_goesInto 24 = .ok (.ireturn, 1) := by decide +kernel
theorem dX1_goesInto_25 : decode cX1_goesInto 25 = .ok (.iload_n 1, 1) := by decide +kernel
theorem dX1_goesInto_26 : decode cX1_goesInto 26 = .ok (.iconst 4, 1) := by decide +kernel
theorem dX1_goesInto_27 : decode cX1_goesInto 27 = .ok (.if_icmp .lt 12, 3) := by decide +kernel
theorem dX1_goesInto_30 : decode cX1_goesInto 30 = .ok (.iload_n 1, 1) := by decide +kernel
theorem dX1_goesInto_31 : decode cX1_goesInto 31 = .ok (.iload_n 0, 1) := by decide +kernel
theorem dX1_goesInto_32 : decode cX1_goesInto 32 = .ok (.if_icmp .le 7, 3) := by decide +kernel
theorem dX1_goesInto_35 : decode cX1_goesInto 35 = .ok (.iconst 1, 1) := by decide +kernel
theorem dX1_goesInto_36 : decode cX1_goesInto 36 = .ok (.goto 4, 3) := by decide +kernel
theorem dX1_goesInto_39 : decode cX1_goesInto 39 = .ok (.iconst 0, 1) := by decide +kernel
theorem dX1_goesInto_40 : decode cX1_goesInto 40 = .ok (.ireturn, 1) := by decide +kernel
set_option maxRecDepth 20000 in
theorem ggX1_told_X1_lowBits : GoodIn wsX1_told wsX1_lowBits := goodIn_r _ [8] (by decide +kernel) (by decide +kernel)
set_option maxRecDepth 20000 in
theorem gX1_told_X1_lowBits : GoodIn wsX1_told (va_wsS RX1 9 yX1_lowBits wsX1_lowBits) := goodIn_app (goodIn_of _ (by decide +kernel)) ggX1_told_X1_lowBits
theorem dX1_told_0 : decode cX1_told 0 = .ok (.iload_n 0, 1) := by decide +kernel
theorem dX1_told_1 : decode cX1_told 1 = .ok (.tableswitch 116 0 7 #[47, 51, 56, 61, 66, 116, 70, 94], 47) := by decide +kernel
theorem dX1_told_48 : decode cX1_told 48 = .ok (.lload_n 1, 1) := by decide +kernel
theorem dX1_told_49 : decode cX1_told 49 = .ok (.lconst 1, 1) := by decide +kernel
theorem dX1_told_50 : decode cX1_told 50 = .ok (.land, 1) := by decide +kernel
theorem dX1_told_51 : decode cX1_told 51 = .ok (.lreturn, 1) := by decide +kernel
theorem dX1_told_52 : decode cX1_told 52 = .ok (.lload_n 1, 1) := by decide +kernel
theorem dX1_told_53 : decode cX1_told 53 = .ok (.l2i, 1) := by decide +kernel
theorem dX1_told_54 : decode cX1_told 54 = .ok (.i2b, 1) := by decide +kernel
theorem dX1_told_55 : decode cX1_told 55 = .ok (.i2l, 1) := by decide +kernel
theorem dX1_told_56 : decode cX1_told 56 = .ok (.lreturn, 1) := by decide +kernel
theorem dX1_told_57 : decode cX1_told 57 = .ok (.lload_n 1, 1) := by decide +kernel
theorem dX1_told_58 : decode cX1_told 58 = .ok (.l2i, 1) := by decide +kernel
theorem dX1_told_59 : decode cX1_told 59 = .ok (.i2s, 1) := by decide +kernel
theorem dX1_told_60 : decode cX1_told 60 = .ok (.i2l, 1) := by decide +kernel
theorem dX1_told_61 : decode cX1_told 61 = .ok (.lreturn, 1) := by decide +kernel
theorem dX1_told_62 : decode cX1_told 62 = .ok (.lload_n 1, 1) := by decide +kernel
theorem dX1_told_63 : decode cX1_told 63 = .ok (.l2i, 1) := by decide +kernel
theorem dX1_told_64 : decode cX1_told 64 = .ok (.i2c, 1) := by decide +kernel
theorem dX1_told_65 : decode cX1_told 65 = .ok (.i2l, 1) := by decide +kernel
theorem dX1_told_66 : decode cX1_told 66 = .ok (.lreturn, 1) := by decide +kernel
theorem dX1_told_67 : decode cX1_told 67 = .ok (.lload_n 1, 1) := by decide +kernel
theorem dX1_told_68 : decode cX1_told 68 = .ok (.l2i, 1) := by decide +kernel
theorem dX1_told_69 : decode cX1_told 69 = .ok (.i2l, 1) := by decide +kernel
theorem dX1_told_70 : decode cX1_told 70 = .ok (.lreturn, 1) := by decide +kernel
theorem dX1_told_71 : decode cX1_told 71 = .ok (.lload_n 1, 1) := by decide +kernel
theorem dX1_told_72 : decode cX1_told 72 = .ok (.bipush 31, 2) := by decide +kernel
theorem dX1_told_74 : decode cX1_told 74 = .ok (.invokestatic 9, 3) := by decide +kernel
theorem dX1_told_77 : decode cX1_told 77 = .ok (.land, 1) := by decide +kernel
theorem dX1_told_78 : decode cX1_told 78 = .ok (.ldc2_w 13, 3) := by decide +kernel
theorem dX1_told_81 : decode cX1_told 81 = .ok (.lcmp, 1) := by decide +kernel
theorem dX1_told_82 : decode cX1_told 82 = .ok (.ifCond .le 9, 3) := by decide +kernel
theorem dX1_told_85 : decode cX1_told 85 = .ok (.ldc2_w 15, 3) := by decide +kernel
theorem dX1_told_88 : decode cX1_told 88 = .ok (.goto 6, 3) := by decide +kernel
theorem dX1_told_91 : decode cX1_told 91 = .ok (.lload_n 1, 1) := by decide +kernel
theorem dX1_told_92 : decode cX1_told 92 = .ok (.l2i, 1) := by decide +kernel
theorem dX1_told_93 : decode cX1_told 93 = .ok (.i2l, 1) := by decide +kernel
theorem dX1_told_94 : decode cX1_told 94 = .ok (.lreturn, 1) := by decide +kernel
theorem dX1_told_95 : decode cX1_told 95 = .ok (.lload_n 1, 1) := by decide +kernel
theorem dX1_told_96 : decode cX1_told 96 = .ok (.bipush 63, 2) := by decide +kernel
theorem dX1_told_98 : decode cX1_told 98 = .ok (.invokestatic 9, 3) := by decide +kernel
theorem dX1_told_101 : decode cX1_told 101 = .ok (.land, 1) := by decide +kernel
theorem dX1_told_102 : decode cX1_told 102 = .ok (.ldc2_w 17, 3) := by decide +kernel
theorem dX1_told_105 : decode cX1_told 105 = .ok (.lcmp, 1) := by decide +kernel
theorem dX1_told_106 : decode cX1_told 106 = .ok (.ifCond .le 9, 3) := by decide +kernel
theorem dX1_told_109 : decode cX1_told 109 = .ok (.ldc2_w 19, 3) := by decide +kernel
theorem dX1_told_112 : decode cX1_told 112 = .ok (.goto 4, 3) := by decide +kernel
theorem dX1_told_115 : decode cX1_told 115 = .ok (.lload_n 1, 1) := by decide +kernel
theorem dX1_told_116 : decode cX1_told 116 = .ok (.lreturn, 1) := by decide +kernel
theorem dX1_told_117 : decode cX1_told 117 = .ok (.lload_n 1, 1) := by decide +kernel
theorem dX1_told_118 : decode cX1_told 118 = .ok (.lreturn, 1) := by decide +kernel
set_option maxRecDepth 20000 in
theorem ggX1_asKind_X1_doubleOfFloat : GoodIn wsX1_asKind wsX1_doubleOfFloat := goodIn_r _ [4, 5, 6, 7, 8, 9, 10, 11, 3, 12, 13, 14, 15, 16, 17, 18, 19, 20, 21, 22, 23, 24, 25, 26, 27, 28, 29, 30, 31] (by decide +kernel) (by decide +kernel)
set_option maxRecDepth 20000 in
theorem gX1_asKind_X1_doubleOfFloat : GoodIn wsX1_asKind (va_wsS RX1 21 yX1_doubleOfFloat wsX1_doubleOfFloat) := goodIn_app (goodIn_of _ (by decide +kernel)) ggX1_asKind_X1_doubleOfFloat
set_option maxRecDepth 20000 in
theorem ggX1_asKind_X1_nearestFloat : GoodIn wsX1_asKind wsX1_nearestFloat := goodIn_r _ [34, 35, 36, 3, 37, 13, 14, 15, 16, 17, 18, 19, 20, 21, 22, 23, 24, 25, 26, 27, 10, 11, 12, 28, 29, 30, 31] (by decide +kernel) (by decide +kernel)
set_option maxRecDepth 20000 in
theorem gX1_asKind_X1_nearestFloat : GoodIn wsX1_asKind (va_wsS RX1 25 yX1_nearestFloat wsX1_nearestFloat) := goodIn_app (goodIn_of _ (by decide +kernel)) ggX1_asKind_X1_nearestFloat
set_option maxRecDepth 20000 in
theorem ggX1_asKind_X1_nearestDouble : GoodIn wsX1_asKind wsX1_nearestDouble := goodIn_r _ [40, 35, 36, 3, 37, 13, 14, 15, 16, 17, 18, 19, 20, 21, 22, 23, 24, 25, 26, 27, 10, 11, 12, 28, 29, 30, 31] (by decide +kernel) (by decide +kernel)
set_option maxRecDepth 20000 in
theorem gX1_asKind_X1_nearestDouble : GoodIn wsX1_asKind (va_wsS RX1 28 yX1_nearestDouble wsX1_nearestDouble) := goodIn_app (goodIn_of _ (by decide +kernel)) ggX1_asKind_X1_nearestDouble
theorem dX1_asKind_0 : decode cX1_asKind 0 = .ok (.iload_n 2, 1) := by decide +kernel
theorem dX1_asKind_1 : decode cX1_asKind 1 = .ok (.iload_n 3, 1) := by decide +kernel
theorem dX1_asKind_2 : decode cX1_asKind 2 = .ok (.if_icmp .eq 9, 3) := by decide +kernel
theorem dX1_asKind_5 : decode cX1_asKind 5 = .ok (.iload_n 3, 1) := by decide +kernel
theorem dX1_asKind_6 : decode cX1_asKind 6 = .ok (.bipush 6, 2) := by decide +kernel
theorem dX1_asKind_8 : decode cX1_asKind 8 = .ok (.if_icmp .ge 5, 3) := by decide +kernel
theorem dX1_asKind_11 : decode cX1_asKind 11 = .ok (.lload_n 0, 1) := by decide +kernel
theorem dX1_asKind_12 : decode cX1_asKind 12 = .ok (.lreturn, 1) := by decide +kernel
theorem dX1_asKind_13 : decode cX1_asKind 13 = .ok (.iload_n 2, 1) := by decide +kernel
theorem dX1_asKind_14 : decode cX1_asKind 14 = .ok (.bipush 6, 2) := by decide +kernel
theorem dX1_asKind_16 : decode cX1_asKind 16 = .ok (.if_icmp .ne 8, 3) := by decide +kernel
theorem dX1_asKind_19 : decode cX1_asKind 19 = .ok (.lload_n 0, 1) := by decide +kernel
theorem dX1_asKind_20 : decode cX1_asKind 20 = .ok (.invokestatic 21, 3) := by decide +kernel
theorem dX1_asKind_23 : decode cX1_asKind 23 = .ok (.lreturn, 1) := by decide +kernel
theorem dX1_asKind_24 : decode cX1_asKind 24 = .ok (.iload_n 3, 1) := by decide +kernel
theorem dX1_asKind_25 : decode cX1_asKind 25 = .ok (.bipush 6, 2) := by decide +kernel
theorem dX1_asKind_27 : decode cX1_asKind 27 = .ok (.if_icmp .ne 10, 3) := by decide +kernel
theorem dX1_asKind_30 : decode cX1_asKind 30 = .ok (.lload_n 0, 1) := by decide +kernel
theorem dX1_asKind_31 : decode cX1_asKind 31 = .ok (.invokestatic 25, 3) := by decide +kernel
theorem dX1_asKind_34 : decode cX1_asKind 34 = .ok (.goto 7, 3) := by decide +kernel
theorem dX1_asKind_37 : decode cX1_asKind 37 = .ok (.lload_n 0, 1) := by decide +kernel
theorem dX1_asKind_38 : decode cX1_asKind 38 = .ok (.invokestatic 28, 3) := by decide +kernel
theorem dX1_asKind_41 : decode cX1_asKind 41 = .ok (.lreturn, 1) := by decide +kernel
set_option maxRecDepth 20000 in
theorem ggX1_nearestFloat_X1_sizeOf : GoodIn wsX1_nearestFloat wsX1_sizeOf := goodIn_r _ [4] (by decide +kernel) (by decide +kernel)
set_option maxRecDepth 20000 in
theorem gX1_nearestFloat_X1_sizeOf : GoodIn wsX1_nearestFloat (va_wsS RX1 31 yX1_sizeOf wsX1_sizeOf) := goodIn_app (goodIn_of _ (by decide +kernel)) ggX1_nearestFloat_X1_sizeOf
set_option maxRecDepth 20000 in
theorem ggX1_nearestFloat_X1_nearest : GoodIn wsX1_nearestFloat wsX1_nearest := goodIn_r _ [7, 8, 9, 10, 11, 12, 13, 14, 15, 16, 17, 18, 3, 19, 20, 21, 22] (by decide +kernel) (by decide +kernel)
set_option maxRecDepth 20000 in
theorem gX1_nearestFloat_X1_nearest : GoodIn wsX1_nearestFloat (va_wsS RX1 34 yX1_nearest wsX1_nearest) := goodIn_app (goodIn_of _ (by decide +kernel)) ggX1_nearestFloat_X1_nearest
set_option maxRecDepth 20000 in
theorem ggX1_nearestFloat_X1_withSign : GoodIn wsX1_nearestFloat wsX1_withSign := goodIn_r _ [25, 26] (by decide +kernel) (by decide +kernel)
set_option maxRecDepth 20000 in
theorem gX1_nearestFloat_X1_withSign : GoodIn wsX1_nearestFloat (va_wsS RX1 38 yX1_withSign wsX1_withSign) := goodIn_app (goodIn_of _ (by decide +kernel)) ggX1_nearestFloat_X1_withSign
theorem dX1_nearestFloat_0 : decode cX1_nearestFloat 0 = .ok (.lload_n 0, 1) := by decide +kernel
theorem dX1_nearestFloat_1 : decode cX1_nearestFloat 1 = .ok (.invokestatic 31, 3) := by decide +kernel
theorem dX1_nearestFloat_4 : decode cX1_nearestFloat 4 = .ok (.bipush 23, 2) := by decide +kernel
theorem dX1_nearestFloat_6 : decode cX1_nearestFloat 6 = .ok (.bipush 127, 2) := by decide +kernel
theorem dX1_nearestFloat_8 : decode cX1_nearestFloat 8 = .ok (.invokestatic 34, 3) := by decide +kernel
theorem dX1_nearestFloat_11 : decode cX1_nearestFloat 11 = .ok (.lstore_n 2, 1) := by decide +kernel
theorem dX1_nearestFloat_12 : decode cX1_nearestFloat 12 = .ok (.lload_n 2, 1) := by decide +kernel
theorem dX1_nearestFloat_13 : decode cX1_nearestFloat 13 = .ok (.lload_n 0, 1) := by decide +kernel
theorem dX1_nearestFloat_14 : decode cX1_nearestFloat 14 = .ok (.lconst 0, 1) := by decide +kernel
theorem dX1_nearestFloat_15 : decode cX1_nearestFloat 15 = .ok (.lcmp, 1) := by decide +kernel
theorem dX1_nearestFloat_16 : decode cX1_nearestFloat 16 = .ok (.ifCond .ge 7, 3) := by decide +kernel
theorem dX1_nearestFloat_19 : decode cX1_nearestFloat 19 = .ok (.iconst 1, 1) := by decide +kernel
theorem dX1_nearestFloat_20 : decode cX1_nearestFloat 20 = .ok (.goto 4, 3) := by decide +kernel
theorem dX1_nearestFloat_23 : decode cX1_nearestFloat 23 = .ok (.iconst 0, 1) := by decide +kernel
theorem dX1_nearestFloat_24 : decode cX1_nearestFloat 24 = .ok (.bipush 31, 2) := by decide +kernel
theorem dX1_nearestFloat_26 : decode cX1_nearestFloat 26 = .ok (.invokestatic 38, 3) := by decide +kernel
theorem dX1_nearestFloat_29 : decode cX1_nearestFloat 29 = .ok (.lreturn, 1) := by decide +kernel
set_option maxRecDepth 20000 in
theorem ggX1_nearestDouble_X1_sizeOf : GoodIn wsX1_nearestDouble wsX1_sizeOf := goodIn_r _ [4] (by decide +kernel) (by decide +kernel)
set_option maxRecDepth 20000 in
theorem gX1_nearestDouble_X1_sizeOf : GoodIn wsX1_nearestDouble (va_wsS RX1 31 yX1_sizeOf wsX1_sizeOf) := goodIn_app (goodIn_of _ (by decide +kernel)) ggX1_nearestDouble_X1_sizeOf
set_option maxRecDepth 20000 in
theorem ggX1_nearestDouble_X1_nearest : GoodIn wsX1_nearestDouble wsX1_nearest := goodIn_r _ [7, 8, 9, 10, 11, 12, 13, 14, 15, 16, 17, 18, 3, 19, 20, 21, 22] (by decide +kernel) (by decide +kernel)
set_option maxRecDepth 20000 in
theorem gX1_nearestDouble_X1_nearest : GoodIn wsX1_nearestDouble (va_wsS RX1 34 yX1_nearest wsX1_nearest) := goodIn_app (goodIn_of _ (by decide +kernel)) ggX1_nearestDouble_X1_nearest
set_option maxRecDepth 20000 in
theorem ggX1_nearestDouble_X1_withSign : GoodIn wsX1_nearestDouble wsX1_withSign := goodIn_r _ [25, 26] (by decide +kernel) (by decide +kernel)
set_option maxRecDepth 20000 in
theorem gX1_nearestDouble_X1_withSign : GoodIn wsX1_nearestDouble (va_wsS RX1 38 yX1_withSign wsX1_withSign) := goodIn_app (goodIn_of _ (by decide +kernel)) ggX1_nearestDouble_X1_withSign
theorem dX1_nearestDouble_0 : decode cX1_nearestDouble 0 = .ok (.lload_n 0, 1) := by decide +kernel
theorem dX1_nearestDouble_1 : decode cX1_nearestDouble 1 = .ok (.invokestatic 31, 3) := by decide +kernel
theorem dX1_nearestDouble_4 : decode cX1_nearestDouble 4 = .ok (.bipush 52, 2) := by decide +kernel
theorem dX1_nearestDouble_6 : decode cX1_nearestDouble 6 = .ok (.sipush 1023, 3) := by decide +kernel
theorem dX1_nearestDouble_9 : decode cX1_nearestDouble 9 = .ok (.invokestatic 34, 3) := by decide +kernel
theorem dX1_nearestDouble_12 : decode cX1_nearestDouble 12 = .ok (.lstore_n 2, 1) := by decide +kernel
theorem dX1_nearestDouble_13 : decode cX1_nearestDouble 13 = .ok (.lload_n 2, 1) := by decide +kernel
theorem dX1_nearestDouble_14 : decode cX1_nearestDouble 14 = .ok (.lload_n 0, 1) := by decide +kernel
theorem dX1_nearestDouble_15 : decode cX1_nearestDouble 15 = .ok (.lconst 0, 1) := by decide +kernel
theorem dX1_nearestDouble_16 : decode cX1_nearestDouble 16 = .ok (.lcmp, 1) := by decide +kernel
theorem dX1_nearestDouble_17 : decode cX1_nearestDouble 17 = .ok (.ifCond .ge 7, 3) := by decide +kernel
theorem dX1_nearestDouble_20 : decode cX1_nearestDouble 20 = .ok (.iconst 1, 1) := by decide +kernel
theorem dX1_nearestDouble_21 : decode cX1_nearestDouble 21 = .ok (.goto 4, 3) := by decide +kernel
theorem dX1_nearestDouble_24 : decode cX1_nearestDouble 24 = .ok (.iconst 0, 1) := by decide +kernel
theorem dX1_nearestDouble_25 : decode cX1_nearestDouble 25 = .ok (.bipush 63, 2) := by decide +kernel
theorem dX1_nearestDouble_27 : decode cX1_nearestDouble 27 = .ok (.invokestatic 38, 3) := by decide +kernel
theorem dX1_nearestDouble_30 : decode cX1_nearestDouble 30 = .ok (.lreturn, 1) := by decide +kernel
set_option maxRecDepth 20000 in
theorem ggX1_doubleOfFloat_X1_lowBits : GoodIn wsX1_doubleOfFloat wsX1_lowBits := goodIn_r _ [9] (by decide +kernel) (by decide +kernel)
set_option maxRecDepth 20000 in
theorem gX1_doubleOfFloat_X1_lowBits : GoodIn wsX1_doubleOfFloat (va_wsS RX1 9 yX1_lowBits wsX1_lowBits) := goodIn_app (goodIn_of _ (by decide +kernel)) ggX1_doubleOfFloat_X1_lowBits
set_option maxRecDepth 20000 in
theorem ggX1_doubleOfFloat_X1_nearest : GoodIn wsX1_doubleOfFloat wsX1_nearest := goodIn_r _ [12, 13, 14, 15, 16, 17, 18, 19, 20, 21, 22, 23, 8, 24, 6, 7, 9] (by decide +kernel) (by decide +kernel)
set_option maxRecDepth 20000 in
theorem gX1_doubleOfFloat_X1_nearest : GoodIn wsX1_doubleOfFloat (va_wsS RX1 34 yX1_nearest wsX1_nearest) := goodIn_app (goodIn_of _ (by decide +kernel)) ggX1_doubleOfFloat_X1_nearest
set_option maxRecDepth 20000 in
theorem ggX1_doubleOfFloat_X1_withSign : GoodIn wsX1_doubleOfFloat wsX1_withSign := goodIn_r _ [27, 28] (by decide +kernel) (by decide +kernel)
set_option maxRecDepth 20000 in
theorem gX1_doubleOfFloat_X1_withSign : GoodIn wsX1_doubleOfFloat (va_wsS RX1 38 yX1_withSign wsX1_withSign) := goodIn_app (goodIn_of _ (by decide +kernel)) ggX1_doubleOfFloat_X1_withSign
theorem dX1_doubleOfFloat_0 : decode cX1_doubleOfFloat 0 = .ok (.lload_n 0, 1) := by decide +kernel
theorem dX1_doubleOfFloat_1 : decode cX1_doubleOfFloat 1 = .ok (.bipush 31, 2) := by decide +kernel
theorem dX1_doubleOfFloat_3 : decode cX1_doubleOfFloat 3 = .ok (.invokestatic 9, 3) := by decide +kernel
theorem dX1_doubleOfFloat_6 : decode cX1_doubleOfFloat 6 = .ok (.land, 1) := by decide +kernel
theorem dX1_doubleOfFloat_7 : decode cX1_doubleOfFloat 7 = .ok (.lstore_n 2, 1) := by decide +kernel
theorem dX1_doubleOfFloat_8 : decode cX1_doubleOfFloat 8 = .ok (.lload_n 2, 1) := by decide +kernel
theorem dX1_doubleOfFloat_9 : decode cX1_doubleOfFloat 9 = .ok (.ldc2_w 13, 3) := by decide +kernel
theorem dX1_doubleOfFloat_12 : decode cX1_doubleOfFloat 12 = .ok (.lcmp, 1) := by decide +kernel
theorem dX1_doubleOfFloat_13 : decode cX1_doubleOfFloat 13 = .ok (.ifCond .le 7, 3) := by decide +kernel
theorem dX1_doubleOfFloat_16 : decode cX1_doubleOfFloat 16 = .ok (.ldc2_w 19, 3) := by decide +kernel
theorem dX1_doubleOfFloat_19 : decode cX1_doubleOfFloat 19 = .ok (.lreturn, 1) := by decide +kernel
theorem dX1_doubleOfFloat_20 : decode cX1_doubleOfFloat 20 = .ok (.lload_n 2, 1) := by decide +kernel
theorem dX1_doubleOfFloat_21 : decode cX1_doubleOfFloat 21 = .ok (.bipush 23, 2) := by decide +kernel
theorem dX1_doubleOfFloat_23 : decode cX1_doubleOfFloat 23 = .ok (.lushr, 1) := by decide +kernel
theorem dX1_doubleOfFloat_24 : decode cX1_doubleOfFloat 24 = .ok (.lstore 4, 2) := by decide +kernel
theorem dX1_doubleOfFloat_26 : decode cX1_doubleOfFloat 26 = .ok (.lload_n 2, 1) := by decide +kernel
theorem dX1_doubleOfFloat_27 : decode cX1_doubleOfFloat 27 = .ok (.bipush 23, 2) := by decide +kernel
theorem dX1_doubleOfFloat_29 : decode cX1_doubleOfFloat 29 = .ok (.invokestatic 9, 3) := by decide +kernel
theorem dX1_doubleOfFloat_32 : decode cX1_doubleOfFloat 32 = .ok (.land, 1) := by decide +kernel
theorem dX1_doubleOfFloat_33 : decode cX1_doubleOfFloat 33 = .ok (.lstore 6, 2) := by decide +kernel
theorem dX1_doubleOfFloat_35 : decode cX1_doubleOfFloat 35 = .ok (.lload_n 2, 1) := by decide +kernel
theorem dX1_doubleOfFloat_36 : decode cX1_doubleOfFloat 36 = .ok (.ldc2_w 13, 3) := by decide +kernel
theorem dX1_doubleOfFloat_39 : decode cX1_doubleOfFloat 39 = .ok (.lcmp, 1) := by decide +kernel
theorem dX1_doubleOfFloat_40 : decode cX1_doubleOfFloat 40 = .ok (.ifCond .ne 11, 3) := by decide +kernel
theorem dX1_doubleOfFloat_43 : decode cX1_doubleOfFloat 43 = .ok (.ldc2_w 17, 3) := by decide +kernel
theorem dX1_doubleOfFloat_46 : decode cX1_doubleOfFloat 46 = .ok (.lstore 8, 2) := by decide +kernel
theorem dX1_doubleOfFloat_48 : decode cX1_doubleOfFloat 48 = .ok (.goto 46, 3) := by decide +kernel
theorem dX1_doubleOfFloat_51 : decode cX1_doubleOfFloat 51 = .ok (.lload 4, 2) := by decide +kernel
theorem dX1_doubleOfFloat_53 : decode cX1_doubleOfFloat 53 = .ok (.lconst 0, 1) := by decide +kernel
theorem dX1_doubleOfFloat_54 : decode cX1_doubleOfFloat 54 = .ok (.lcmp, 1) := by decide +kernel
theorem dX1_doubleOfFloat_55 : decode cX1_doubleOfFloat 55 = .ok (.ifCond .ne 18, 3) := by decide +kernel
theorem dX1_doubleOfFloat_58 : decode cX1_doubleOfFloat 58 = .ok (.lload 6, 2) := by decide +kernel
theorem dX1_doubleOfFloat_60 : decode cX1_doubleOfFloat 60 = .ok (.bipush 52, 2) := by decide +kernel
theorem dX1_doubleOfFloat_62 : decode cX1_doubleOfFloat 62 = .ok (.sipush 874, 3) := by decide +kernel
theorem dX1_doubleOfFloat_65 : decode cX1_doubleOfFloat 65 = .ok (.invokestatic 34, 3) := by decide +kernel
theorem dX1_doubleOfFloat_68 : decode cX1_doubleOfFloat 68 = .ok (.lstore 8, 2) := by decide +kernel
theorem dX1_doubleOfFloat_70 : decode cX1_doubleOfFloat 70 = .ok (.goto 24, 3) := by decide +kernel
theorem dX1_doubleOfFloat_73 : decode cX1_doubleOfFloat 73 = .ok (.lload 4, 2) := by decide +kernel
theorem dX1_doubleOfFloat_75 : decode cX1_doubleOfFloat 75 = .ok (.ldc2_w 42, 3) := by decide +kernel
theorem dX1_doubleOfFloat_78 : decode cX1_doubleOfFloat 78 = .ok (.lsub, 1) := by decide +kernel
theorem dX1_doubleOfFloat_79 : decode cX1_doubleOfFloat 79 = .ok (.ldc2_w 44, 3) := by decide +kernel
theorem dX1_doubleOfFloat_82 : decode cX1_doubleOfFloat 82 = .ok (.ladd, 1) := by decide +kernel
theorem dX1_doubleOfFloat_83 : decode cX1_doubleOfFloat 83 = .ok (.bipush 52, 2) := by decide +kernel
theorem dX1_doubleOfFloat_85 : decode cX1_doubleOfFloat 85 = .ok (.lshl, 1) := by decide +kernel
theorem dX1_doubleOfFloat_86 : decode cX1_doubleOfFloat 86 = .ok (.lload 6, 2) := by decide +kernel
theorem dX1_doubleOfFloat_88 : decode cX1_doubleOfFloat 88 = .ok (.bipush 29, 2) := by decide +kernel
theorem dX1_doubleOfFloat_90 : decode cX1_doubleOfFloat 90 = .ok (.lshl, 1) := by decide +kernel
theorem dX1_doubleOfFloat_91 : decode cX1_doubleOfFloat 91 = .ok (.ladd, 1) := by decide +kernel
theorem dX1_doubleOfFloat_92 : decode cX1_doubleOfFloat 92 = .ok (.lstore 8, 2) := by decide +kernel
theorem dX1_doubleOfFloat_94 : decode cX1_doubleOfFloat 94 = .ok (.lload 8, 2) := by decide +kernel
theorem dX1_doubleOfFloat_96 : decode cX1_doubleOfFloat 96 = .ok (.lload_n 0, 1) := by decide +kernel
theorem dX1_doubleOfFloat_97 : decode cX1_doubleOfFloat 97 = .ok (.lconst 0, 1) := by decide +kernel
theorem dX1_doubleOfFloat_98 : decode cX1_doubleOfFloat 98 = .ok (.lcmp, 1) := by decide +kernel
theorem dX1_doubleOfFloat_99 : decode cX1_doubleOfFloat 99 = .ok (.ifCond .ge 7, 3) := by decide +kernel
theorem dX1_doubleOfFloat_102 : decode cX1_doubleOfFloat 102 = .ok (.iconst 1, 1) := by decide +kernel
theorem dX1_doubleOfFloat_103 : decode cX1_doubleOfFloat 103 = .ok (.goto 4, 3) := by decide +kernel
theorem dX1_doubleOfFloat_106 : decode cX1_doubleOfFloat 106 = .ok (.iconst 0, 1) := by decide +kernel
theorem dX1_doubleOfFloat_107 : decode cX1_doubleOfFloat 107 = .ok (.bipush 63, 2) := by decide +kernel
theorem dX1_doubleOfFloat_109 : decode cX1_doubleOfFloat 109 = .ok (.invokestatic 38, 3) := by decide +kernel
theorem dX1_doubleOfFloat_112 : decode cX1_doubleOfFloat 112 = .ok (.lreturn, 1) := by decide +kernel
theorem dX1_sizeOf_0 : decode cX1_sizeOf 0 = .ok (.lload_n 0, 1) := by decide +kernel
theorem dX1_sizeOf_1 : decode cX1_sizeOf 1 = .ok (.lconst 0, 1) := by decide +kernel
theorem dX1_sizeOf_2 : decode cX1_sizeOf 2 = .ok (.lcmp, 1) := by decide +kernel
theorem dX1_sizeOf_3 : decode cX1_sizeOf 3 = .ok (.ifCond .ge 8, 3) := by decide +kernel
theorem dX1_sizeOf_6 : decode cX1_sizeOf 6 = .ok (.lload_n 0, 1) := by decide +kernel
theorem dX1_sizeOf_7 : decode cX1_sizeOf 7 = .ok (.lneg, 1) := by decide +kernel
theorem dX1_sizeOf_8 : decode cX1_sizeOf 8 = .ok (.goto 4, 3) := by decide +kernel
theorem dX1_sizeOf_11 : decode cX1_sizeOf 11 = .ok (.lload_n 0, 1) := by decide +kernel
theorem dX1_sizeOf_12 : decode cX1_sizeOf 12 = .ok (.lreturn, 1) := by decide +kernel
set_option maxRecDepth 20000 in
theorem ggX1_nearest_J13_numberOfLeadingZeros_95d88 : GoodIn wsX1_nearest wsJ13_numberOfLeadingZeros_95d88 := goodIn_r _ [4, 5, 6, 7, 8, 9] (by decide +kernel) (by decide +kernel)
set_option maxRecDepth 20000 in
theorem gX1_nearest_J13_numberOfLeadingZeros_95d88 : GoodIn wsX1_nearest (va_wsS RX1 46 yJ13_numberOfLeadingZeros_95d88 wsJ13_numberOfLeadingZeros_95d88) := goodIn_app (goodIn_of _ (by decide +kernel)) ggX1_nearest_J13_numberOfLeadingZeros_95d88
set_option maxRecDepth 20000 in
theorem ggX1_nearest_X1_roundedOff : GoodIn wsX1_nearest wsX1_roundedOff := goodIn_r _ [13, 14, 15, 12, 16] (by decide +kernel) (by decide +kernel)
set_option maxRecDepth 20000 in
theorem gX1_nearest_X1_roundedOff : GoodIn wsX1_nearest (va_wsS RX1 52 yX1_roundedOff wsX1_roundedOff) := goodIn_app (goodIn_of _ (by decide +kernel)) ggX1_nearest_X1_roundedOff
theorem dX1_nearest_0 : decode cX1_nearest 0 = .ok (.lload_n 0, 1) := by decide +kernel
theorem dX1_nearest_1 : decode cX1_nearest 1 = .ok (.lconst 0, 1) := by decide +kernel
theorem dX1_nearest_2 : decode cX1_nearest 2 = .ok (.lcmp, 1) := by decide +kernel
theorem dX1_nearest_3 : decode cX1_nearest 3 = .ok (.ifCond .ne 5, 3) := by decide +kernel
theorem dX1_nearest_6 : decode cX1_nearest 6 = .ok (.lconst 0, 1) := by decide +kernel
theorem dX1_nearest_7 : decode cX1_nearest 7 = .ok (.lreturn, 1) := by decide +kernel
theorem dX1_nearest_8 : decode cX1_nearest 8 = .ok (.bipush 63, 2) := by decide +kernel
theorem dX1_nearest_10 : decode cX1_nearest 10 = .ok (.lload_n 0, 1) := by decide +kernel
theorem dX1_nearest_11 : decode cX1_nearest 11 = .ok (.invokestatic 46, 3) := by decide +kernel
theorem dX1_nearest_14 : decode cX1_nearest 14 = .ok (.isub, 1) := by decide +kernel
theorem dX1_nearest_15 : decode cX1_nearest 15 = .ok (.istore 4, 2) := by decide +kernel
theorem dX1_nearest_17 : decode cX1_nearest 17 = .ok (.iload 4, 2) := by decide +kernel
theorem dX1_nearest_19 : decode cX1_nearest 19 = .ok (.iload_n 2, 1) := by decide +kernel
theorem dX1_nearest_20 : decode cX1_nearest 20 = .ok (.if_icmp .gt 12, 3) := by decide +kernel
theorem dX1_nearest_23 : decode cX1_nearest 23 = .ok (.lload_n 0, 1) := by decide +kernel
theorem dX1_nearest_24 : decode cX1_nearest 24 = .ok (.iload_n 2, 1) := by decide +kernel
theorem dX1_nearest_25 : decode cX1_nearest 25 = .ok (.iload 4, 2) := by decide +kernel
theorem dX1_nearest_27 : decode cX1_nearest 27 = .ok (.isub, 1) := by decide +kernel
theorem dX1_nearest_28 : decode cX1_nearest 28 = .ok (.lshl, 1) := by decide +kernel
theorem dX1_nearest_29 : decode cX1_nearest 29 = .ok (.goto 11, 3) := by decide +kernel
theorem dX1_nearest_32 : decode cX1_nearest 32 = .ok (.lload_n 0, 1) := by decide +kernel
theorem dX1_nearest_33 : decode cX1_nearest 33 = .ok (.iload 4, 2) := by decide +kernel
theorem dX1_nearest_35 : decode cX1_nearest 35 = .ok (.iload_n 2, 1) := by decide +kernel
theorem dX1_nearest_36 : decode cX1_nearest 36 = .ok (.isub, 1) := by decide +kernel
theorem dX1_nearest_37 : decode cX1_nearest 37 = .ok (.invokestatic 52, 3) := by decide +kernel
theorem dX1_nearest_40 : decode cX1_nearest 40 = .ok (.lstore 5, 2) := by decide +kernel
theorem dX1_nearest_42 : decode cX1_nearest 42 = .ok (.iload 4, 2) := by decide +kernel
theorem dX1_nearest_44 : decode cX1_nearest 44 = .ok (.iload_n 3, 1) := by decide +kernel
theorem dX1_nearest_45 : decode cX1_nearest 45 = .ok (.iadd, 1) := by decide +kernel
theorem dX1_nearest_46 : decode cX1_nearest 46 = .ok (.iconst 1, 1) := by decide +kernel
theorem dX1_nearest_47 : decode cX1_nearest 47 = .ok (.isub, 1) := by decide +kernel
theorem dX1_nearest_48 : decode cX1_nearest 48 = .ok (.i2l, 1) := by decide +kernel
theorem dX1_nearest_49 : decode cX1_nearest 49 = .ok (.iload_n 2, 1) := by decide +kernel
theorem dX1_nearest_50 : decode cX1_nearest 50 = .ok (.lshl, 1) := by decide +kernel
theorem dX1_nearest_51 : decode cX1_nearest 51 = .ok (.lload 5, 2) := by decide +kernel
theorem dX1_nearest_53 : decode cX1_nearest 53 = .ok (.ladd, 1) := by decide +kernel
theorem dX1_nearest_54 : decode cX1_nearest 54 = .ok (.lreturn, 1) := by decide +kernel
set_option maxRecDepth 20000 in
theorem ggX1_roundedOff_X1_lowBits : GoodIn wsX1_roundedOff wsX1_lowBits := goodIn_r _ [4] (by decide +kernel) (by decide +kernel)
set_option maxRecDepth 20000 in
theorem gX1_roundedOff_X1_lowBits : GoodIn wsX1_roundedOff (va_wsS RX1 9 yX1_lowBits wsX1_lowBits) := goodIn_app (goodIn_of _ (by decide +kernel)) ggX1_roundedOff_X1_lowBits
theorem dX1_roundedOff_0 : decode cX1_roundedOff 0 = .ok (.lload_n 0, 1) := by decide +kernel
theorem dX1_roundedOff_1 : decode cX1_roundedOff 1 = .ok (.iload_n 2, 1) := by decide +kernel
theorem dX1_roundedOff_2 : decode cX1_roundedOff 2 = .ok (.lushr, 1) := by decide +kernel
theorem dX1_roundedOff_3 : decode cX1_roundedOff 3 = .ok (.lstore_n 3, 1) := by decide +kernel
theorem dX1_roundedOff_4 : decode cX1_roundedOff 4 = .ok (.lload_n 0, 1) := by decide +kernel
theorem dX1_roundedOff_5 : decode cX1_roundedOff 5 = .ok (.iload_n 2, 1) := by decide +kernel
theorem dX1_roundedOff_6 : decode cX1_roundedOff 6 = .ok (.invokestatic 9, 3) := by decide +kernel
theorem dX1_roundedOff_9 : decode cX1_roundedOff 9 = .ok (.land, 1) := by decide +kernel
theorem dX1_roundedOff_10 : decode cX1_roundedOff 10 = .ok (.lstore 5, 2) := by decide +kernel
theorem dX1_roundedOff_12 : decode cX1_roundedOff 12 = .ok (.lconst 1, 1) := by decide +kernel
theorem dX1_roundedOff_13 : decode cX1_roundedOff 13 = .ok (.iload_n 2, 1) := by decide +kernel
theorem dX1_roundedOff_14 : decode cX1_roundedOff 14 = .ok (.iconst 1, 1) := by decide +kernel
theorem dX1_roundedOff_15 : decode cX1_roundedOff 15 = .ok (.isub, 1) := by decide +kernel
theorem dX1_roundedOff_16 : decode cX1_roundedOff 16 = .ok (.lshl, 1) := by decide +kernel
theorem dX1_roundedOff_17 : decode cX1_roundedOff 17 = .ok (.lstore 7, 2) := by decide +kernel
theorem dX1_roundedOff_19 : decode cX1_roundedOff 19 = .ok (.lload 5, 2) := by decide +kernel
theorem dX1_roundedOff_21 : decode cX1_roundedOff 21 = .ok (.lload 7, 2) := by decide +kernel
theorem dX1_roundedOff_23 : decode cX1_roundedOff 23 = .ok (.lcmp, 1) := by decide +kernel
theorem dX1_roundedOff_24 : decode cX1_roundedOff 24 = .ok (.ifCond .gt 19, 3) := by decide +kernel
theorem dX1_roundedOff_27 : decode cX1_roundedOff 27 = .ok (.lload 5, 2) := by decide +kernel
theorem dX1_roundedOff_29 : decode cX1_roundedOff 29 = .ok (.lload 7, 2) := by decide +kernel
theorem dX1_roundedOff_31 : decode cX1_roundedOff 31 = .ok (.lcmp, 1) := by decide +kernel
theorem dX1_roundedOff_32 : decode cX1_roundedOff 32 = .ok (.ifCond .ne 15, 3) := by decide +kernel
theorem dX1_roundedOff_35 : decode cX1_roundedOff 35 = .ok (.lload_n 3, 1) := by decide +kernel
theorem dX1_roundedOff_36 : decode cX1_roundedOff 36 = .ok (.lconst 1, 1) := by decide +kernel
theorem dX1_roundedOff_37 : decode cX1_roundedOff 37 = .ok (.land, 1) := by decide +kernel
theorem dX1_roundedOff_38 : decode cX1_roundedOff 38 = .ok (.lconst 1, 1) := by decide +kernel
theorem dX1_roundedOff_39 : decode cX1_roundedOff 39 = .ok (.lcmp, 1) := by decide +kernel
theorem dX1_roundedOff_40 : decode cX1_roundedOff 40 = .ok (.ifCond .ne 7, 3) := by decide +kernel
theorem dX1_roundedOff_43 : decode cX1_roundedOff 43 = .ok (.iconst 1, 1) := by decide +kernel
theorem dX1_roundedOff_44 : decode cX1_roundedOff 44 = .ok (.goto 4, 3) := by decide +kernel
theorem dX1_roundedOff_47 : decode cX1_roundedOff 47 = .ok (.iconst 0, 1) := by decide +kernel
theorem dX1_roundedOff_48 : decode cX1_roundedOff 48 = .ok (.istore 9, 2) := by decide +kernel
theorem dX1_roundedOff_50 : decode cX1_roundedOff 50 = .ok (.iload 9, 2) := by decide +kernel
theorem dX1_roundedOff_52 : decode cX1_roundedOff 52 = .ok (.ifCond .eq 9, 3) := by decide +kernel
theorem dX1_roundedOff_55 : decode cX1_roundedOff 55 = .ok (.lload_n 3, 1) := by decide +kernel
theorem dX1_roundedOff_56 : decode cX1_roundedOff 56 = .ok (.lconst 1, 1) := by decide +kernel
theorem dX1_roundedOff_57 : decode cX1_roundedOff 57 = .ok (.ladd, 1) := by decide +kernel
theorem dX1_roundedOff_58 : decode cX1_roundedOff 58 = .ok (.goto 4, 3) := by decide +kernel
theorem dX1_roundedOff_61 : decode cX1_roundedOff 61 = .ok (.lload_n 3, 1) := by decide +kernel
theorem dX1_roundedOff_62 : decode cX1_roundedOff 62 = .ok (.lreturn, 1) := by decide +kernel
theorem dX1_lowBits_0 : decode cX1_lowBits 0 = .ok (.lconst 1, 1) := by decide +kernel
theorem dX1_lowBits_1 : decode cX1_lowBits 1 = .ok (.iload_n 0, 1) := by decide +kernel
theorem dX1_lowBits_2 : decode cX1_lowBits 2 = .ok (.lshl, 1) := by decide +kernel
theorem dX1_lowBits_3 : decode cX1_lowBits 3 = .ok (.lconst 1, 1) := by decide +kernel
theorem dX1_lowBits_4 : decode cX1_lowBits 4 = .ok (.lsub, 1) := by decide +kernel
theorem dX1_lowBits_5 : decode cX1_lowBits 5 = .ok (.lreturn, 1) := by decide +kernel
theorem dX1_withSign_0 : decode cX1_withSign 0 = .ok (.iload_n 2, 1) := by decide +kernel
theorem dX1_withSign_1 : decode cX1_withSign 1 = .ok (.ifCond .eq 13, 3) := by decide +kernel
theorem dX1_withSign_4 : decode cX1_withSign 4 = .ok (.lload_n 0, 1) := by decide +kernel
theorem dX1_withSign_5 : decode cX1_withSign 5 = .ok (.ldc2_w 56, 3) := by decide +kernel
theorem dX1_withSign_8 : decode cX1_withSign 8 = .ok (.iload_n 3, 1) := by decide +kernel
theorem dX1_withSign_9 : decode cX1_withSign 9 = .ok (.lshl, 1) := by decide +kernel
theorem dX1_withSign_10 : decode cX1_withSign 10 = .ok (.lor, 1) := by decide +kernel
theorem dX1_withSign_11 : decode cX1_withSign 11 = .ok (.goto 4, 3) := by decide +kernel
theorem dX1_withSign_14 : decode cX1_withSign 14 = .ok (.lload_n 0, 1) := by decide +kernel
theorem dX1_withSign_15 : decode cX1_withSign 15 = .ok (.lreturn, 1) := by decide +kernel
theorem dX2_init_0 : decode cX2_init 0 = .ok (.aload_n 0, 1) := by decide +kernel
theorem dX2_init_1 : decode cX2_init 1 = .ok (.invokespecial 3, 3) := by decide +kernel
theorem dX2_init_4 : decode cX2_init 4 = .ok (.aload_n 0, 1) := by decide +kernel
theorem dX2_init_5 : decode cX2_init 5 = .ok (.iload_n 1, 1) := by decide +kernel
theorem dX2_init_6 : decode cX2_init 6 = .ok (.putfield 9, 3) := by decide +kernel
theorem dX2_init_9 : decode cX2_init 9 = .ok (.aload_n 0, 1) := by decide +kernel
theorem dX2_init_10 : decode cX2_init 10 = .ok (.iload_n 2, 1) := by decide +kernel
theorem dX2_init_11 : decode cX2_init 11 = .ok (.putfield 15, 3) := by decide +kernel
theorem dX2_init_14 : decode cX2_init 14 = .ok (.aload_n 0, 1) := by decide +kernel
theorem dX2_init_15 : decode cX2_init 15 = .ok (.iload_n 3, 1) := by decide +kernel
theorem dX2_init_16 : decode cX2_init 16 = .ok (.putfield 18, 3) := by decide +kernel
theorem dX2_init_19 : decode cX2_init 19 = .ok (.aload_n 0, 1) := by decide +kernel
theorem dX2_init_20 : decode cX2_init 20 = .ok (.iload_n 2, 1) := by decide +kernel
theorem dX2_init_21 : decode cX2_init 21 = .ok (.iconst 1, 1) := by decide +kernel
theorem dX2_init_22 : decode cX2_init 22 = .ok (.if_icmp .ne 7, 3) := by decide +kernel
theorem dX2_init_25 : decode cX2_init 25 = .ok (.iload_n 3, 1) := by decide +kernel
theorem dX2_init_26 : decode cX2_init 26 = .ok (.goto 4, 3) := by decide +kernel
theorem dX2_init_29 : decode cX2_init 29 = .ok (.iconst 0, 1) := by decide +kernel
theorem dX2_init_30 : decode cX2_init 30 = .ok (.newarray .long, 2) := by decide +kernel
theorem dX2_init_32 : decode cX2_init 32 = .ok (.putfield 21, 3) := by decide +kernel
theorem dX2_init_35 : decode cX2_init 35 = .ok (.aload_n 0, 1) := by decide +kernel
theorem dX2_init_36 : decode cX2_init 36 = .ok (.iload_n 2, 1) := by decide +kernel
theorem dX2_init_37 : decode cX2_init 37 = .ok (.iconst 1, 1) := by decide +kernel
theorem dX2_init_38 : decode cX2_init 38 = .ok (.if_icmp .ne 7, 3) := by decide +kernel
theorem dX2_init_41 : decode cX2_init 41 = .ok (.iconst 0, 1) := by decide +kernel
theorem dX2_init_42 : decode cX2_init 42 = .ok (.goto 4, 3) := by decide +kernel
theorem dX2_init_45 : decode cX2_init 45 = .ok (.iload_n 3, 1) := by decide +kernel
theorem dX2_init_46 : decode cX2_init 46 = .ok (.anewarray 10, 3) := by decide +kernel
theorem dX2_init_49 : decode cX2_init 49 = .ok (.putfield 25, 3) := by decide +kernel
theorem dX2_init_52 : decode cX2_init 52 = .ok (.return_, 1) := by decide +kernel
theorem dX2_hasNumbers_0 : decode cX2_hasNumbers 0 = .ok (.aload_n 0, 1) := by decide +kernel
theorem dX2_hasNumbers_1 : decode cX2_hasNumbers 1 = .ok (.getfield 15, 3) := by decide +kernel
theorem dX2_hasNumbers_4 : decode cX2_hasNumbers 4 = .ok (.iconst 1, 1) := by decide +kernel
theorem dX2_hasNumbers_5 : decode cX2_hasNumbers 5 = .ok (.if_icmp .ne 7, 3) := by decide +kernel
theorem dX2_hasNumbers_8 : decode cX2_hasNumbers 8 = .ok (.iconst 1, 1) := by decide +kernel
theorem dX2_hasNumbers_9 : decode cX2_hasNumbers 9 = .ok (.goto 4, 3) := by decide +kernel
theorem dX2_hasNumbers_12 : decode cX2_hasNumbers 12 = .ok (.iconst 0, 1) := by decide +kernel
theorem dX2_hasNumbers_13 : decode cX2_hasNumbers 13 = .ok (.ireturn, 1) := by decide +kernel
theorem dX2_hasPlace_0 : decode cX2_hasPlace 0 = .ok (.iload_n 1, 1) := by decide +kernel
theorem dX2_hasPlace_1 : decode cX2_hasPlace 1 = .ok (.ifCond .lt 15, 3) := by decide +kernel
theorem dX2_hasPlace_4 : decode cX2_hasPlace 4 = .ok (.iload_n 1, 1) := by decide +kernel
theorem dX2_hasPlace_5 : decode cX2_hasPlace 5 = .ok (.aload_n 0, 1) := by decide +kernel
theorem dX2_hasPlace_6 : decode cX2_hasPlace 6 = .ok (.getfield 18, 3) := by decide +kernel
theorem dX2_hasPlace_9 : decode cX2_hasPlace 9 = .ok (.if_icmp .ge 7, 3) := by decide +kernel
theorem dX2_hasPlace_12 : decode cX2_hasPlace 12 = .ok (.iconst 1, 1) := by decide +kernel
theorem dX2_hasPlace_13 : decode cX2_hasPlace 13 = .ok (.goto 4, 3) := by decide +kernel
theorem dX2_hasPlace_16 : decode cX2_hasPlace 16 = .ok (.iconst 0, 1) := by decide +kernel
theorem dX2_hasPlace_17 : decode cX2_hasPlace 17 = .ok (.ireturn, 1) := by decide +kernel
set_option maxRecDepth 20000 in
theorem ggX2_causeToRead_X2_causeAtNumber : GoodIn wsX2_causeToRead wsX2_causeAtNumber := goodIn_r _ [6, 7, 8, 9, 5, 10, 11, 12, 13, 14, 15, 16, 17, 18, 19, 20, 21, 22, 23, 24, 25] (by decide +kernel) (by decide +kernel)
set_option maxRecDepth 20000 in
theorem gX2_causeToRead_X2_causeAtNumber : GoodIn wsX2_causeToRead (wsV RX2 29 RX2 yX2_causeAtNumber wsX2_causeAtNumber) := goodIn_app (goodIn_of _ (by decide +kernel)) ggX2_causeToRead_X2_causeAtNumber
theorem dX2_causeToRead_0 : decode cX2_causeToRead 0 = .ok (.aload_n 0, 1) := by decide +kernel
theorem dX2_causeToRead_1 : decode cX2_causeToRead 1 = .ok (.iload_n 1, 1) := by decide +kernel
theorem dX2_causeToRead_2 : decode cX2_causeToRead 2 = .ok (.aload_n 0, 1) := by decide +kernel
theorem dX2_causeToRead_3 : decode cX2_causeToRead 3 = .ok (.getfield 9, 3) := by decide +kernel
theorem dX2_causeToRead_6 : decode cX2_causeToRead 6 = .ok (.iload_n 2, 1) := by decide +kernel
theorem dX2_causeToRead_7 : decode cX2_causeToRead 7 = .ok (.invokevirtual 29, 3) := by decide +kernel
theorem dX2_causeToRead_10 : decode cX2_causeToRead 10 = .ok (.ireturn, 1) := by decide +kernel
set_option maxRecDepth 20000 in
theorem ggX2_causeToWrite_X2_causeAtNumber : GoodIn wsX2_causeToWrite wsX2_causeAtNumber := goodIn_r _ [6, 7, 8, 9, 5, 10, 11, 12, 13, 14, 15, 16, 17, 18, 19, 20, 21, 22, 23, 24, 25] (by decide +kernel) (by decide +kernel)
set_option maxRecDepth 20000 in
theorem gX2_causeToWrite_X2_causeAtNumber : GoodIn wsX2_causeToWrite (wsV RX2 29 RX2 yX2_causeAtNumber wsX2_causeAtNumber) := goodIn_app (goodIn_of _ (by decide +kernel)) ggX2_causeToWrite_X2_causeAtNumber
theorem dX2_causeToWrite_0 : decode cX2_causeToWrite 0 = .ok (.aload_n 0, 1) := by decide +kernel
theorem dX2_causeToWrite_1 : decode cX2_causeToWrite 1 = .ok (.iload_n 1, 1) := by decide +kernel
theorem dX2_causeToWrite_2 : decode cX2_causeToWrite 2 = .ok (.iload_n 2, 1) := by decide +kernel
theorem dX2_causeToWrite_3 : decode cX2_causeToWrite 3 = .ok (.aload_n 0, 1) := by decide +kernel
theorem dX2_causeToWrite_4 : decode cX2_causeToWrite 4 = .ok (.getfield 9, 3) := by decide +kernel
theorem dX2_causeToWrite_7 : decode cX2_causeToWrite 7 = .ok (.invokevirtual 29, 3) := by decide +kernel
theorem dX2_causeToWrite_10 : decode cX2_causeToWrite 10 = .ok (.ireturn, 1) := by decide +kernel
set_option maxRecDepth 20000 in
theorem ggX2_causeAtNumber_X2_hasNumbers : GoodIn wsX2_causeAtNumber wsX2_hasNumbers := goodIn_r _ [5, 6, 16, 17, 18, 19, 20] (by decide +kernel) (by decide +kernel)
set_option maxRecDepth 20000 in
theorem gX2_causeAtNumber_X2_hasNumbers : GoodIn wsX2_causeAtNumber (wsV RX2 33 RX2 yX2_hasNumbers wsX2_hasNumbers) := goodIn_app (goodIn_of _ (by decide +kernel)) ggX2_causeAtNumber_X2_hasNumbers
set_option maxRecDepth 20000 in
theorem ggX2_causeAtNumber_X2_hasPlace : GoodIn wsX2_causeAtNumber wsX2_hasPlace := goodIn_r _ [10, 11, 16, 17, 18, 19, 20] (by decide +kernel) (by decide +kernel)
set_option maxRecDepth 20000 in
theorem gX2_causeAtNumber_X2_hasPlace : GoodIn wsX2_causeAtNumber (wsV RX2 37 RX2 yX2_hasPlace wsX2_hasPlace) := goodIn_app (goodIn_of _ (by decide +kernel)) ggX2_causeAtNumber_X2_hasPlace
set_option maxRecDepth 20000 in
theorem ggX2_causeAtNumber_X1_goesInto : GoodIn wsX2_causeAtNumber wsX1_goesInto := goodIn_r _ [15] (by decide +kernel) (by decide +kernel)
set_option maxRecDepth 20000 in
theorem gX2_causeAtNumber_X1_goesInto : GoodIn wsX2_causeAtNumber (va_wsS RX2 41 yX1_goesInto wsX1_goesInto) := goodIn_app (goodIn_of _ (by decide +kernel)) ggX2_causeAtNumber_X1_goesInto
theorem dX2_causeAtNumber_0 : decode cX2_causeAtNumber 0 = .ok (.aload_n 0, 1) := by decide +kernel
theorem dX2_causeAtNumber_1 : decode cX2_causeAtNumber 1 = .ok (.invokevirtual 33, 3) := by decide +kernel
theorem dX2_causeAtNumber_4 : decode cX2_causeAtNumber 4 = .ok (.ifCond .ne 5, 3) := by decide +kernel
theorem dX2_causeAtNumber_7 : decode cX2_causeAtNumber 7 = .ok (.iconst 2, 1) := by decide +kernel
theorem dX2_causeAtNumber_8 : decode cX2_causeAtNumber 8 = .ok (.ireturn, 1) := by decide +kernel
theorem dX2_causeAtNumber_9 : decode cX2_causeAtNumber 9 = .ok (.aload_n 0, 1) := by decide +kernel
theorem dX2_causeAtNumber_10 : decode cX2_causeAtNumber 10 = .ok (.iload_n 1, 1) := by decide +kernel
theorem dX2_causeAtNumber_11 : decode cX2_causeAtNumber 11 = .ok (.invokevirtual 37, 3) := by decide +kernel
theorem dX2_causeAtNumber_14 : decode cX2_causeAtNumber 14 = .ok (.ifCond .ne 5, 3) := by decide +kernel
theorem dX2_causeAtNumber_17 : decode cX2_causeAtNumber 17 = .ok (.iconst 3, 1) := by decide +kernel
theorem dX2_causeAtNumber_18 : decode cX2_causeAtNumber 18 = .ok (.ireturn, 1) := by decide +kernel
theorem dX2_causeAtNumber_19 : decode cX2_causeAtNumber 19 = .ok (.iload_n 2, 1) := by decide +kernel
theorem dX2_causeAtNumber_20 : decode cX2_causeAtNumber 20 = .ok (.iload_n 3, 1) := by decide +kernel
theorem dX2_causeAtNumber_21 : decode cX2_causeAtNumber 21 = .ok (.invokestatic 41, 3) := by decide +kernel
theorem dX2_causeAtNumber_24 : decode cX2_causeAtNumber 24 = .ok (.ifCond .eq 7, 3) := by decide +kernel
theorem dX2_causeAtNumber_27 : decode cX2_causeAtNumber 27 = .ok (.iconst 0, 1) := by decide +kernel
theorem dX2_causeAtNumber_28 : decode cX2_causeAtNumber 28 = .ok (.goto 4, 3) := by decide +kernel
theorem dX2_causeAtNumber_31 : decode cX2_causeAtNumber 31 = .ok (.iconst 4, 1) := by decide +kernel
theorem dX2_causeAtNumber_32 : decode cX2_causeAtNumber 32 = .ok (.ireturn, 1) := by decide +kernel
set_option maxRecDepth 20000 in
theorem ggX2_causeToHang_X2_hasNumbers : GoodIn wsX2_causeToHang wsX2_hasNumbers := goodIn_r _ [7, 2, 13, 14, 15, 16, 17] (by decide +kernel) (by decide +kernel)
set_option maxRecDepth 20000 in
theorem gX2_causeToHang_X2_hasNumbers : GoodIn wsX2_causeToHang (wsV RX2 33 RX2 yX2_hasNumbers wsX2_hasNumbers) := goodIn_app (goodIn_of _ (by decide +kernel)) ggX2_causeToHang_X2_hasNumbers
set_option maxRecDepth 20000 in
theorem ggX2_causeToHang_X2_hasPlace : GoodIn wsX2_causeToHang wsX2_hasPlace := goodIn_r _ [11, 12, 13, 14, 15, 16, 17] (by decide +kernel) (by decide +kernel)
set_option maxRecDepth 20000 in
theorem gX2_causeToHang_X2_hasPlace : GoodIn wsX2_causeToHang (wsV RX2 37 RX2 yX2_hasPlace wsX2_hasPlace) := goodIn_app (goodIn_of _ (by decide +kernel)) ggX2_causeToHang_X2_hasPlace
theorem dX2_causeToHang_0 : decode cX2_causeToHang 0 = .ok (.aload_n 0, 1) := by decide +kernel
theorem dX2_causeToHang_1 : decode cX2_causeToHang 1 = .ok (.invokevirtual 33, 3) := by decide +kernel
theorem dX2_causeToHang_4 : decode cX2_causeToHang 4 = .ok (.ifCond .eq 9, 3) := by decide +kernel
theorem dX2_causeToHang_7 : decode cX2_causeToHang 7 = .ok (.aload_n 2, 1) := by decide +kernel
theorem dX2_causeToHang_8 : decode cX2_causeToHang 8 = .ok (.ifnonnull 5, 3) := by decide +kernel
theorem dX2_causeToHang_11 : decode cX2_causeToHang 11 = .ok (.iconst 4, 1) := by decide +kernel
theorem dX2_causeToHang_12 : decode cX2_causeToHang 12 = .ok (.ireturn, 1) := by decide +kernel
theorem dX2_causeToHang_13 : decode cX2_causeToHang 13 = .ok (.aload_n 0, 1) := by decide +kernel
theorem dX2_causeToHang_14 : decode cX2_causeToHang 14 = .ok (.iload_n 1, 1) := by decide +kernel
theorem dX2_causeToHang_15 : decode cX2_causeToHang 15 = .ok (.invokevirtual 37, 3) := by decide +kernel
theorem dX2_causeToHang_18 : decode cX2_causeToHang 18 = .ok (.ifCond .ne 5, 3) := by decide +kernel
theorem dX2_causeToHang_21 : decode cX2_causeToHang 21 = .ok (.iconst 3, 1) := by decide +kernel
theorem dX2_causeToHang_22 : decode cX2_causeToHang 22 = .ok (.ireturn, 1) := by decide +kernel
theorem dX2_causeToHang_23 : decode cX2_causeToHang 23 = .ok (.aload_n 2, 1) := by decide +kernel
theorem dX2_causeToHang_24 : decode cX2_causeToHang 24 = .ok (.ifnonnull 5, 3) := by decide +kernel
theorem dX2_causeToHang_27 : decode cX2_causeToHang 27 = .ok (.iconst 0, 1) := by decide +kernel
theorem dX2_causeToHang_28 : decode cX2_causeToHang 28 = .ok (.ireturn, 1) := by decide +kernel
theorem dX2_causeToHang_29 : decode cX2_causeToHang 29 = .ok (.aload_n 2, 1) := by decide +kernel
theorem dX2_causeToHang_30 : decode cX2_causeToHang 30 = .ok (.getfield 9, 3) := by decide +kernel
theorem dX2_causeToHang_33 : decode cX2_causeToHang 33 = .ok (.aload_n 0, 1) := by decide +kernel
theorem dX2_causeToHang_34 : decode cX2_causeToHang 34 = .ok (.getfield 9, 3) := by decide +kernel
theorem dX2_causeToHang_37 : decode cX2_causeToHang 37 = .ok (.if_icmp .ne 20, 3) := by decide +kernel
theorem dX2_causeToHang_40 : decode cX2_causeToHang 40 = .ok (.aload_n 2, 1) := by decide +kernel
theorem dX2_causeToHang_41 : decode cX2_causeToHang 41 = .ok (.getfield 15, 3) := by decide +kernel
theorem dX2_causeToHang_44 : decode cX2_causeToHang 44 = .ok (.aload_n 0, 1) := by decide +kernel
theorem dX2_causeToHang_45 : decode cX2_causeToHang 45 = .ok (.getfield 15, 3) := by decide +kernel
theorem dX2_causeToHang_48 : decode cX2_causeToHang 48 = .ok (.iconst 1, 1) := by decide +kernel
theorem dX2_causeToHang_49 : decode cX2_causeToHang 49 = .ok (.isub, 1) := by decide +kernel
theorem dX2_causeToHang_50 : decode cX2_causeToHang 50 = .ok (.if_icmp .ne 7, 3) := by decide +kernel
theorem dX2_causeToHang_53 : decode cX2_causeToHang 53 = .ok (.iconst 0, 1) := by decide +kernel
theorem dX2_causeToHang_54 : decode cX2_causeToHang 54 = .ok (.goto 4, 3) := by decide +kernel
theorem dX2_causeToHang_57 : decode cX2_causeToHang 57 = .ok (.iconst 4, 1) := by decide +kernel
theorem dX2_causeToHang_58 : decode cX2_causeToHang 58 = .ok (.ireturn, 1) := by decide +kernel
set_option maxRecDepth 20000 in
theorem ggX2_causeToPour_X2_hasNumbers : GoodIn wsX2_causeToPour wsX2_hasNumbers := goodIn_r _ [7, 8, 22, 23, 24, 25, 26] (by decide +kernel) (by decide +kernel)
set_option maxRecDepth 20000 in
theorem gX2_causeToPour_X2_hasNumbers : GoodIn wsX2_causeToPour (wsV RX2 33 RX2 yX2_hasNumbers wsX2_hasNumbers) := goodIn_app (goodIn_of _ (by decide +kernel)) ggX2_causeToPour_X2_hasNumbers
set_option maxRecDepth 20000 in
theorem ggX2_causeToPour_X2_causeToHang : GoodIn wsX2_causeToPour wsX2_causeToHang := goodIn_r _ [12, 2, 8, 3, 4, 5, 6, 7, 13, 14, 15, 16, 17, 22, 23, 24, 25, 26] (by decide +kernel) (by decide +kernel)
set_option maxRecDepth 20000 in
theorem gX2_causeToPour_X2_causeToHang : GoodIn wsX2_causeToPour (wsV RX2 47 RX2 yX2_causeToHang wsX2_causeToHang) := goodIn_app (goodIn_of _ (by decide +kernel)) ggX2_causeToPour_X2_causeToHang
set_option maxRecDepth 20000 in
theorem ggX2_causeToPour_X2_hasPlace : GoodIn wsX2_causeToPour wsX2_hasPlace := goodIn_r _ [16, 17, 22, 23, 24, 25, 26] (by decide +kernel) (by decide +kernel)
set_option maxRecDepth 20000 in
theorem gX2_causeToPour_X2_hasPlace : GoodIn wsX2_causeToPour (wsV RX2 37 RX2 yX2_hasPlace wsX2_hasPlace) := goodIn_app (goodIn_of _ (by decide +kernel)) ggX2_causeToPour_X2_hasPlace
set_option maxRecDepth 20000 in
theorem ggX2_causeToPour_X1_goesInto : GoodIn wsX2_causeToPour wsX1_goesInto := goodIn_r _ [21] (by decide +kernel) (by decide +kernel)
set_option maxRecDepth 20000 in
theorem gX2_causeToPour_X1_goesInto : GoodIn wsX2_causeToPour (va_wsS RX2 41 yX1_goesInto wsX1_goesInto) := goodIn_app (goodIn_of _ (by decide +kernel)) ggX2_causeToPour_X1_goesInto
theorem dX2_causeToPour_0 : decode cX2_causeToPour 0 = .ok (.aload_n 2, 1) := by decide +kernel
theorem dX2_causeToPour_1 : decode cX2_causeToPour 1 = .ok (.invokevirtual 33, 3) := by decide +kernel
theorem dX2_causeToPour_4 : decode cX2_causeToPour 4 = .ok (.ifCond .ne 15, 3) := by decide +kernel
theorem dX2_causeToPour_7 : decode cX2_causeToPour 7 = .ok (.aload_n 0, 1) := by decide +kernel
theorem dX2_causeToPour_8 : decode cX2_causeToPour 8 = .ok (.iload_n 1, 1) := by decide +kernel
theorem dX2_causeToPour_9 : decode cX2_causeToPour 9 = .ok (.aload_n 2, 1) := by decide +kernel
theorem dX2_causeToPour_10 : decode cX2_causeToPour 10 = .ok (.getfield 25, 3) := by decide +kernel
theorem dX2_causeToPour_13 : decode cX2_causeToPour 13 = .ok (.iload_n 1, 1) := by decide +kernel
theorem dX2_causeToPour_14 : decode cX2_causeToPour 14 = .ok (.aaload, 1) := by decide +kernel
theorem dX2_causeToPour_15 : decode cX2_causeToPour 15 = .ok (.invokevirtual 47, 3) := by decide +kernel
theorem dX2_causeToPour_18 : decode cX2_causeToPour 18 = .ok (.ireturn, 1) := by decide +kernel
theorem dX2_causeToPour_19 : decode cX2_causeToPour 19 = .ok (.aload_n 0, 1) := by decide +kernel
theorem dX2_causeToPour_20 : decode cX2_causeToPour 20 = .ok (.iload_n 1, 1) := by decide +kernel
theorem dX2_causeToPour_21 : decode cX2_causeToPour 21 = .ok (.invokevirtual 37, 3) := by decide +kernel
theorem dX2_causeToPour_24 : decode cX2_causeToPour 24 = .ok (.ifCond .ne 5, 3) := by decide +kernel
theorem dX2_causeToPour_27 : decode cX2_causeToPour 27 = .ok (.iconst 3, 1) := by decide +kernel
theorem dX2_causeToPour_28 : decode cX2_causeToPour 28 = .ok (.ireturn, 1) := by decide +kernel
theorem dX2_causeToPour_29 : decode cX2_causeToPour 29 = .ok (.aload_n 0, 1) := by decide +kernel
theorem dX2_causeToPour_30 : decode cX2_causeToPour 30 = .ok (.invokevirtual 33, 3) := by decide +kernel
theorem dX2_causeToPour_33 : decode cX2_causeToPour 33 = .ok (.ifCond .eq 21, 3) := by decide +kernel
theorem dX2_causeToPour_36 : decode cX2_causeToPour 36 = .ok (.aload_n 2, 1) := by decide +kernel
theorem dX2_causeToPour_37 : decode cX2_causeToPour 37 = .ok (.getfield 9, 3) := by decide +kernel
theorem dX2_causeToPour_40 : decode cX2_causeToPour 40 = .ok (.aload_n 0, 1) := by decide +kernel
theorem dX2_causeToPour_41 : decode cX2_causeToPour 41 = .ok (.getfield 9, 3) := by decide +kernel
theorem dX2_causeToPour_44 : decode cX2_causeToPour 44 = .ok (.invokestatic 41, 3) := by decide +kernel
theorem dX2_causeToPour_47 : decode cX2_causeToPour 47 = .ok (.ifCond .eq 7, 3) := by decide +kernel
theorem dX2_causeToPour_50 : decode cX2_causeToPour 50 = .ok (.iconst 0, 1) := by decide +kernel
theorem dX2_causeToPour_51 : decode cX2_causeToPour 51 = .ok (.goto 4, 3) := by decide +kernel
theorem dX2_causeToPour_54 : decode cX2_causeToPour 54 = .ok (.iconst 4, 1) := by decide +kernel
theorem dX2_causeToPour_55 : decode cX2_causeToPour 55 = .ok (.ireturn, 1) := by decide +kernel
set_option maxRecDepth 20000 in
theorem ggX2_pourIn_X2_hasNumbers : GoodIn wsX2_pourIn wsX2_hasNumbers := goodIn_r _ [8, 9, 53, 54, 55, 56, 57] (by decide +kernel) (by decide +kernel)
set_option maxRecDepth 20000 in
theorem gX2_pourIn_X2_hasNumbers : GoodIn wsX2_pourIn (wsV RX2 33 RX2 yX2_hasNumbers wsX2_hasNumbers) := goodIn_app (goodIn_of _ (by decide +kernel)) ggX2_pourIn_X2_hasNumbers
set_option maxRecDepth 20000 in
theorem ggX2_pourIn_X1_asKind : GoodIn wsX2_pourIn wsX1_asKind := goodIn_r _ [13, 14, 15, 12, 16, 17, 18, 19, 20, 21, 22, 23, 24, 25, 26, 27, 28, 29, 30, 31, 32, 33, 34, 35, 36, 37, 38, 39, 40, 41, 42, 43, 44, 45, 46, 47, 48, 49, 50, 51, 52] (by decide +kernel) (by decide +kernel)
set_option maxRecDepth 20000 in
theorem gX2_pourIn_X1_asKind : GoodIn wsX2_pourIn (va_wsS RX2 51 yX1_asKind wsX1_asKind) := goodIn_app (goodIn_of _ (by decide +kernel)) ggX2_pourIn_X1_asKind
theorem dX2_pourIn_0 : decode cX2_pourIn 0 = .ok (.aload_n 0, 1) := by decide +kernel
theorem dX2_pourIn_1 : decode cX2_pourIn 1 = .ok (.invokevirtual 33, 3) := by decide +kernel
theorem dX2_pourIn_4 : decode cX2_pourIn 4 = .ok (.ifCond .eq 29, 3) := by decide +kernel
theorem dX2_pourIn_7 : decode cX2_pourIn 7 = .ok (.aload_n 0, 1) := by decide +kernel
theorem dX2_pourIn_8 : decode cX2_pourIn 8 = .ok (.getfield 21, 3) := by decide +kernel
theorem dX2_pourIn_11 : decode cX2_pourIn 11 = .ok (.iload_n 1, 1) := by decide +kernel
theorem dX2_pourIn_12 : decode cX2_pourIn 12 = .ok (.aload_n 2, 1) := by decide +kernel
theorem dX2_pourIn_13 : decode cX2_pourIn 13 = .ok (.getfield 21, 3) := by decide +kernel
theorem dX2_pourIn_16 : decode cX2_pourIn 16 = .ok (.iload_n 1, 1) := by decide +kernel
theorem dX2_pourIn_17 : decode cX2_pourIn 17 = .ok (.laload, 1) := by decide +kernel
theorem dX2_pourIn_18 : decode cX2_pourIn 18 = .ok (.aload_n 2, 1) := by decide +kernel
theorem dX2_pourIn_19 : decode cX2_pourIn 19 = .ok (.getfield 9, 3) := by decide +kernel
theorem dX2_pourIn_22 : decode cX2_pourIn 22 = .ok (.aload_n 0, 1) := by decide +kernel
theorem dX2_pourIn_23 : decode cX2_pourIn 23 = .ok (.getfield 9, 3) := by decide +kernel
theorem dX2_pourIn_26 : decode cX2_pourIn 26 = .ok (.invokestatic 51, 3) := by decide +kernel
theorem dX2_pourIn_29 : decode cX2_pourIn 29 = .ok (.lastore, 1) := by decide +kernel
theorem dX2_pourIn_30 : decode cX2_pourIn 30 = .ok (.goto 15, 3) := by decide +kernel
theorem dX2_pourIn_33 : decode cX2_pourIn 33 = .ok (.aload_n 0, 1) := by decide +kernel
theorem dX2_pourIn_34 : decode cX2_pourIn 34 = .ok (.getfield 25, 3) := by decide +kernel
theorem dX2_pourIn_37 : decode cX2_pourIn 37 = .ok (.iload_n 1, 1) := by decide +kernel
theorem dX2_pourIn_38 : decode cX2_pourIn 38 = .ok (.aload_n 2, 1) := by decide +kernel
theorem dX2_pourIn_39 : decode cX2_pourIn 39 = .ok (.getfield 25, 3) := by decide +kernel
theorem dX2_pourIn_42 : decode cX2_pourIn 42 = .ok (.iload_n 1, 1) := by decide +kernel
theorem dX2_pourIn_43 : decode cX2_pourIn 43 = .ok (.aaload, 1) := by decide +kernel
theorem dX2_pourIn_44 : decode cX2_pourIn 44 = .ok (.aastore, 1) := by decide +kernel
theorem dX2_pourIn_45 : decode cX2_pourIn 45 = .ok (.return_, 1) := by decide +kernel
set_option maxRecDepth 20000 in
theorem ggX2_exchange_X2_hasNumbers : GoodIn wsX2_exchange wsX2_hasNumbers := goodIn_r _ [7, 8, 9, 10, 11, 12, 13] (by decide +kernel) (by decide +kernel)
set_option maxRecDepth 20000 in
theorem gX2_exchange_X2_hasNumbers : GoodIn wsX2_exchange (wsV RX2 33 RX2 yX2_hasNumbers wsX2_hasNumbers) := goodIn_app (goodIn_of _ (by decide +kernel)) ggX2_exchange_X2_hasNumbers
theorem dX2_exchange_0 : decode cX2_exchange 0 = .ok (.aload_n 0, 1) := by decide +kernel
theorem dX2_exchange_1 : decode cX2_exchange 1 = .ok (.invokevirtual 33, 3) := by decide +kernel
theorem dX2_exchange_4 : decode cX2_exchange 4 = .ok (.ifCond .eq 32, 3) := by decide +kernel
theorem dX2_exchange_7 : decode cX2_exchange 7 = .ok (.aload_n 0, 1) := by decide +kernel
theorem dX2_exchange_8 : decode cX2_exchange 8 = .ok (.getfield 21, 3) := by decide +kernel
theorem dX2_exchange_11 : decode cX2_exchange 11 = .ok (.iload_n 1, 1) := by decide +kernel
theorem dX2_exchange_12 : decode cX2_exchange 12 = .ok (.laload, 1) := by decide +kernel
theorem dX2_exchange_13 : decode cX2_exchange 13 = .ok (.lstore_n 3, 1) := by decide +kernel
theorem dX2_exchange_14 : decode cX2_exchange 14 = .ok (.aload_n 0, 1) := by decide +kernel
theorem dX2_exchange_15 : decode cX2_exchange 15 = .ok (.getfield 21, 3) := by decide +kernel
theorem dX2_exchange_18 : decode cX2_exchange 18 = .ok (.iload_n 1, 1) := by decide +kernel
theorem dX2_exchange_19 : decode cX2_exchange 19 = .ok (.aload_n 0, 1) := by decide +kernel
theorem dX2_exchange_20 : decode cX2_exchange 20 = .ok (.getfield 21, 3) := by decide +kernel
theorem dX2_exchange_23 : decode cX2_exchange 23 = .ok (.iload_n 2, 1) := by decide +kernel
theorem dX2_exchange_24 : decode cX2_exchange 24 = .ok (.laload, 1) := by decide +kernel
theorem dX2_exchange_25 : decode cX2_exchange 25 = .ok (.lastore, 1) := by decide +kernel
theorem dX2_exchange_26 : decode cX2_exchange 26 = .ok (.aload_n 0, 1) := by decide +kernel
theorem dX2_exchange_27 : decode cX2_exchange 27 = .ok (.getfield 21, 3) := by decide +kernel
theorem dX2_exchange_30 : decode cX2_exchange 30 = .ok (.iload_n 2, 1) := by decide +kernel
theorem dX2_exchange_31 : decode cX2_exchange 31 = .ok (.lload_n 3, 1) := by decide +kernel
theorem dX2_exchange_32 : decode cX2_exchange 32 = .ok (.lastore, 1) := by decide +kernel
theorem dX2_exchange_33 : decode cX2_exchange 33 = .ok (.goto 29, 3) := by decide +kernel
theorem dX2_exchange_36 : decode cX2_exchange 36 = .ok (.aload_n 0, 1) := by decide +kernel
theorem dX2_exchange_37 : decode cX2_exchange 37 = .ok (.getfield 25, 3) := by decide +kernel
theorem dX2_exchange_40 : decode cX2_exchange 40 = .ok (.iload_n 1, 1) := by decide +kernel
theorem dX2_exchange_41 : decode cX2_exchange 41 = .ok (.aaload, 1) := by decide +kernel
theorem dX2_exchange_42 : decode cX2_exchange 42 = .ok (.astore_n 3, 1) := by decide +kernel
theorem dX2_exchange_43 : decode cX2_exchange 43 = .ok (.aload_n 0, 1) := by decide +kernel
theorem dX2_exchange_44 : decode cX2_exchange 44 = .ok (.getfield 25, 3) := by decide +kernel
theorem dX2_exchange_47 : decode cX2_exchange 47 = .ok (.iload_n 1, 1) := by decide +kernel
theorem dX2_exchange_48 : decode cX2_exchange 48 = .ok (.aload_n 0, 1) := by decide +kernel
theorem dX2_exchange_49 : decode cX2_exchange 49 = .ok (.getfield 25, 3) := by decide +kernel
theorem dX2_exchange_52 : decode cX2_exchange 52 = .ok (.iload_n 2, 1) := by decide +kernel
theorem dX2_exchange_53 : decode cX2_exchange 53 = .ok (.aaload, 1) := by decide +kernel
theorem dX2_exchange_54 : decode cX2_exchange 54 = .ok (.aastore, 1) := by decide +kernel
theorem dX2_exchange_55 : decode cX2_exchange 55 = .ok (.aload_n 0, 1) := by decide +kernel
theorem dX2_exchange_56 : decode cX2_exchange 56 = .ok (.getfield 25, 3) := by decide +kernel
theorem dX2_exchange_59 : decode cX2_exchange 59 = .ok (.iload_n 2, 1) := by decide +kernel
theorem dX2_exchange_60 : decode cX2_exchange 60 = .ok (.aload_n 3, 1) := by decide +kernel
theorem dX2_exchange_61 : decode cX2_exchange 61 = .ok (.aastore, 1) := by decide +kernel
theorem dX2_exchange_62 : decode cX2_exchange 62 = .ok (.return_, 1) := by decide +kernel
end
section
set_option maxRecDepth 20000 in
theorem ggX3_init_X0_init : GoodIn wsX3_init wsX0_init := goodIn_r _ [16, 17, 2, 3] (by decide +kernel) (by decide +kernel)
set_option maxRecDepth 20000 in
theorem gX3_init_X0_init_n21 : GoodIn wsX3_init (wsX0_init) := ggX3_init_X0_init
theorem dX3_init_0 : decode cX3_init 0 = .ok (.aload_n 0, 1) := by decide +kernel
theorem dX3_init_1 : decode cX3_init 1 = .ok (.invokespecial 1, 3) := by decide +kernel
theorem dX3_init_4 : decode cX3_init 4 = .ok (.aload_n 0, 1) := by decide +kernel
theorem dX3_init_5 : decode cX3_init 5 = .ok (.bipush 10, 2) := by decide +kernel
theorem dX3_init_7 : decode cX3_init 7 = .ok (.anewarray 9, 3) := by decide +kernel
theorem dX3_init_10 : decode cX3_init 10 = .ok (.putfield 11, 3) := by decide +kernel
theorem dX3_init_13 : decode cX3_init 13 = .ok (.aload_n 0, 1) := by decide +kernel
theorem dX3_init_14 : decode cX3_init 14 = .ok (.bipush 6, 2) := by decide +kernel
theorem dX3_init_16 : decode cX3_init 16 = .ok (.newarray .int, 2) := by decide +kernel
theorem dX3_init_18 : decode cX3_init 18 = .ok (.putfield 15, 3) := by decide +kernel
theorem dX3_init_21 : decode cX3_init 21 = .ok (.aload_n 0, 1) := by decide +kernel
theorem dX3_init_22 : decode cX3_init 22 = .ok (.new 19, 3) := by decide +kernel
theorem dX3_init_25 : decode cX3_init 25 = .ok (.dup, 1) := by decide +kernel
theorem dX3_init_26 : decode cX3_init 26 = .ok (.invokespecial 21, 3) := by decide +kernel
theorem dX3_init_29 : decode cX3_init 29 = .ok (.putfield 22, 3) := by decide +kernel
theorem dX3_init_32 : decode cX3_init 32 = .ok (.aload_n 0, 1) := by decide +kernel
theorem dX3_init_33 : decode cX3_init 33 = .ok (.iconst 0, 1) := by decide +kernel
theorem dX3_init_34 : decode cX3_init 34 = .ok (.putfield 26, 3) := by decide +kernel
theorem dX3_init_37 : decode cX3_init 37 = .ok (.aload_n 0, 1) := by decide +kernel
theorem dX3_init_38 : decode cX3_init 38 = .ok (.iconst 0, 1) := by decide +kernel
theorem dX3_init_39 : decode cX3_init 39 = .ok (.putfield 30, 3) := by decide +kernel
theorem dX3_init_42 : decode cX3_init 42 = .ok (.aload_n 0, 1) := by decide +kernel
theorem dX3_init_43 : decode cX3_init 43 = .ok (.lconst 0, 1) := by decide +kernel
theorem dX3_init_44 : decode cX3_init 44 = .ok (.putfield 33, 3) := by decide +kernel
theorem dX3_init_47 : decode cX3_init 47 = .ok (.return_, 1) := by decide +kernel
set_option maxRecDepth 20000 in
theorem ggX3_make_X3_isBox : GoodIn wsX3_make wsX3_isBox := goodIn_r _ [9] (by decide +kernel) (by decide +kernel)
set_option maxRecDepth 20000 in
theorem gX3_make_X3_isBox : GoodIn wsX3_make (va_wsS RX3 37 yX3_isBox wsX3_isBox) := goodIn_app (goodIn_of _ (by decide +kernel)) ggX3_make_X3_isBox
set_option maxRecDepth 20000 in
theorem ggX3_make_X3_isKind : GoodIn wsX3_make wsX3_isKind := goodIn_r _ [12] (by decide +kernel) (by decide +kernel)
set_option maxRecDepth 20000 in
theorem gX3_make_X3_isKind : GoodIn wsX3_make (va_wsS RX3 41 yX3_isKind wsX3_isKind) := goodIn_app (goodIn_of _ (by decide +kernel)) ggX3_make_X3_isKind
set_option maxRecDepth 20000 in
theorem ggX3_make_X3_met : GoodIn wsX3_make wsX3_met := goodIn_r _ [16, 17, 31, 32, 33, 34, 35, 36] (by decide +kernel) (by decide +kernel)
set_option maxRecDepth 20000 in
theorem gX3_make_X3_met : GoodIn wsX3_make (wsV RX3 44 RX3 yX3_met wsX3_met) := goodIn_app (goodIn_of _ (by decide +kernel)) ggX3_make_X3_met
set_option maxRecDepth 20000 in
theorem ggX3_make_X2_init : GoodIn wsX3_make wsX2_init := goodIn_r _ [20, 21, 22, 23, 24, 25, 26, 27, 28, 29, 30, 37, 38, 39, 40, 41] (by decide +kernel) (by decide +kernel)
set_option maxRecDepth 20000 in
theorem gX3_make_X2_init : GoodIn wsX3_make (wsX2_init) := ggX3_make_X2_init
theorem dX3_make_0 : decode cX3_make 0 = .ok (.iload_n 1, 1) := by decide +kernel
theorem dX3_make_1 : decode cX3_make 1 = .ok (.invokestatic 37, 3) := by decide +kernel
theorem dX3_make_4 : decode cX3_make 4 = .ok (.ifCond .eq 20, 3) := by decide +kernel
theorem dX3_make_7 : decode cX3_make 7 = .ok (.iload_n 2, 1) := by decide +kernel
theorem dX3_make_8 : decode cX3_make 8 = .ok (.invokestatic 41, 3) := by decide +kernel
theorem dX3_make_11 : decode cX3_make 11 = .ok (.ifCond .eq 13, 3) := by decide +kernel
theorem dX3_make_14 : decode cX3_make 14 = .ok (.iload_n 3, 1) := by decide +kernel
theorem dX3_make_15 : decode cX3_make 15 = .ok (.iconst 1, 1) := by decide +kernel
theorem dX3_make_16 : decode cX3_make 16 = .ok (.if_icmp .lt 8, 3) := by decide +kernel
theorem dX3_make_19 : decode cX3_make 19 = .ok (.iload_n 3, 1) := by decide +kernel
theorem dX3_make_20 : decode cX3_make 20 = .ok (.iconst 3, 1) := by decide +kernel
theorem dX3_make_21 : decode cX3_make 21 = .ok (.if_icmp .le 5, 3) := by decide +kernel
theorem dX3_make_24 : decode cX3_make 24 = .ok (.iconst (-1), 1) := by decide +kernel
theorem dX3_make_25 : decode cX3_make 25 = .ok (.ireturn, 1) := by decide +kernel
theorem dX3_make_26 : decode cX3_make 26 = .ok (.aload_n 0, 1) := by decide +kernel
theorem dX3_make_27 : decode cX3_make 27 = .ok (.getfield 26, 3) := by decide +kernel
theorem dX3_make_30 : decode cX3_make 30 = .ok (.bipush 120, 2) := by decide +kernel
theorem dX3_make_32 : decode cX3_make 32 = .ok (.if_icmp .ge 10, 3) := by decide +kernel
theorem dX3_make_35 : decode cX3_make 35 = .ok (.iload 4, 2) := by decide +kernel
theorem dX3_make_37 : decode cX3_make 37 = .ok (.bipush 8, 2) := by decide +kernel
theorem dX3_make_39 : decode cX3_make 39 = .ok (.if_icmp .le 6, 3) := by decide +kernel
theorem dX3_make_42 : decode cX3_make 42 = .ok (.bipush (-2), 2) := by decide +kernel
theorem dX3_make_44 : decode cX3_make 44 = .ok (.ireturn, 1) := by decide +kernel
theorem dX3_make_45 : decode cX3_make 45 = .ok (.iload 4, 2) := by decide +kernel
theorem dX3_make_47 : decode cX3_make 47 = .ok (.ifCond .ge 9, 3) := by decide +kernel
theorem dX3_make_50 : decode cX3_make 50 = .ok (.aload_n 0, 1) := by decide +kernel
theorem dX3_make_51 : decode cX3_make 51 = .ok (.iconst 5, 1) := by decide +kernel
theorem dX3_make_52 : decode cX3_make 52 = .ok (.invokevirtual 44, 3) := by decide +kernel
theorem dX3_make_55 : decode cX3_make 55 = .ok (.ireturn, 1) := by decide +kernel
theorem dX3_make_56 : decode cX3_make 56 = .ok (.aload_n 0, 1) := by decide +kernel
theorem dX3_make_57 : decode cX3_make 57 = .ok (.getfield 11, 3) := by decide +kernel
theorem dX3_make_60 : decode cX3_make 60 = .ok (.iload_n 1, 1) := by decide +kernel
theorem dX3_make_61 : decode cX3_make 61 = .ok (.new 9, 3) := by decide +kernel
theorem dX3_make_64 : decode cX3_make 64 = .ok (.dup, 1) := by decide +kernel
theorem dX3_make_65 : decode cX3_make 65 = .ok (.iload_n 2, 1) := by decide +kernel
theorem dX3_make_66 : decode cX3_make 66 = .ok (.iload_n 3, 1) := by decide +kernel
theorem dX3_make_67 : decode cX3_make 67 = .ok (.iload 4, 2) := by decide +kernel
theorem dX3_make_69 : decode cX3_make 69 = .ok (.invokespecial 48, 3) := by decide +kernel
theorem dX3_make_72 : decode cX3_make 72 = .ok (.aastore, 1) := by decide +kernel
theorem dX3_make_73 : decode cX3_make 73 = .ok (.aload_n 0, 1) := by decide +kernel
theorem dX3_make_74 : decode cX3_make 74 = .ok (.dup, 1) := by decide +kernel
theorem dX3_make_75 : decode cX3_make 75 = .ok (.getfield 26, 3) := by decide +kernel
theorem dX3_make_78 : decode cX3_make 78 = .ok (.iconst 1, 1) := by decide +kernel
theorem dX3_make_79 : decode cX3_make 79 = .ok (.iadd, 1) := by decide +kernel
theorem dX3_make_80 : decode cX3_make 80 = .ok (.putfield 26, 3) := by decide +kernel
theorem dX3_make_83 : decode cX3_make 83 = .ok (.aload_n 0, 1) := by decide +kernel
theorem dX3_make_84 : decode cX3_make 84 = .ok (.getfield 26, 3) := by decide +kernel
theorem dX3_make_87 : decode cX3_make 87 = .ok (.iconst 1, 1) := by decide +kernel
theorem dX3_make_88 : decode cX3_make 88 = .ok (.isub, 1) := by decide +kernel
theorem dX3_make_89 : decode cX3_make 89 = .ok (.ireturn, 1) := by decide +kernel
set_option maxRecDepth 20000 in
theorem ggX3_take_X3_isBox : GoodIn wsX3_take wsX3_isBox := goodIn_r _ [5] (by decide +kernel) (by decide +kernel)
set_option maxRecDepth 20000 in
theorem gX3_take_X3_isBox : GoodIn wsX3_take (va_wsS RX3 37 yX3_isBox wsX3_isBox) := goodIn_app (goodIn_of _ (by decide +kernel)) ggX3_take_X3_isBox
theorem dX3_take_0 : decode cX3_take 0 = .ok (.iload_n 1, 1) := by decide +kernel
theorem dX3_take_1 : decode cX3_take 1 = .ok (.invokestatic 37, 3) := by decide +kernel
theorem dX3_take_4 : decode cX3_take 4 = .ok (.ifCond .eq 10, 3) := by decide +kernel
theorem dX3_take_7 : decode cX3_take 7 = .ok (.iload_n 2, 1) := by decide +kernel
theorem dX3_take_8 : decode cX3_take 8 = .ok (.invokestatic 37, 3) := by decide +kernel
theorem dX3_take_11 : decode cX3_take 11 = .ok (.ifCond .ne 5, 3) := by decide +kernel
theorem dX3_take_14 : decode cX3_take 14 = .ok (.iconst (-1), 1) := by decide +kernel
theorem dX3_take_15 : decode cX3_take 15 = .ok (.ireturn, 1) := by decide +kernel
theorem dX3_take_16 : decode cX3_take 16 = .ok (.aload_n 0, 1) := by decide +kernel
theorem dX3_take_17 : decode cX3_take 17 = .ok (.getfield 11, 3) := by decide +kernel
theorem dX3_take_20 : decode cX3_take 20 = .ok (.iload_n 1, 1) := by decide +kernel
theorem dX3_take_21 : decode cX3_take 21 = .ok (.aload_n 0, 1) := by decide +kernel
theorem dX3_take_22 : decode cX3_take 22 = .ok (.getfield 11, 3) := by decide +kernel
theorem dX3_take_25 : decode cX3_take 25 = .ok (.iload_n 2, 1) := by decide +kernel
theorem dX3_take_26 : decode cX3_take 26 = .ok (.aaload, 1) := by decide +kernel
theorem dX3_take_27 : decode cX3_take 27 = .ok (.aastore, 1) := by decide +kernel
theorem dX3_take_28 : decode cX3_take 28 = .ok (.aload_n 0, 1) := by decide +kernel
theorem dX3_take_29 : decode cX3_take 29 = .ok (.getfield 11, 3) := by decide +kernel
theorem dX3_take_32 : decode cX3_take 32 = .ok (.iload_n 1, 1) := by decide +kernel
theorem dX3_take_33 : decode cX3_take 33 = .ok (.aaload, 1) := by decide +kernel
theorem dX3_take_34 : decode cX3_take 34 = .ok (.ifnonnull 7, 3) := by decide +kernel
theorem dX3_take_37 : decode cX3_take 37 = .ok (.iconst 0, 1) := by decide +kernel
theorem dX3_take_38 : decode cX3_take 38 = .ok (.goto 4, 3) := by decide +kernel
theorem dX3_take_41 : decode cX3_take 41 = .ok (.iconst 1, 1) := by decide +kernel
theorem dX3_take_42 : decode cX3_take 42 = .ok (.ireturn, 1) := by decide +kernel
set_option maxRecDepth 20000 in
theorem ggX3_empty_X3_isBox : GoodIn wsX3_empty wsX3_isBox := goodIn_r _ [5] (by decide +kernel) (by decide +kernel)
set_option maxRecDepth 20000 in
theorem gX3_empty_X3_isBox : GoodIn wsX3_empty (va_wsS RX3 37 yX3_isBox wsX3_isBox) := goodIn_app (goodIn_of _ (by decide +kernel)) ggX3_empty_X3_isBox
theorem dX3_empty_0 : decode cX3_empty 0 = .ok (.iload_n 1, 1) := by decide +kernel
theorem dX3_empty_1 : decode cX3_empty 1 = .ok (.invokestatic 37, 3) := by decide +kernel
theorem dX3_empty_4 : decode cX3_empty 4 = .ok (.ifCond .ne 5, 3) := by decide +kernel
theorem dX3_empty_7 : decode cX3_empty 7 = .ok (.iconst (-1), 1) := by decide +kernel
theorem dX3_empty_8 : decode cX3_empty 8 = .ok (.ireturn, 1) := by decide +kernel
theorem dX3_empty_9 : decode cX3_empty 9 = .ok (.aload_n 0, 1) := by decide +kernel
theorem dX3_empty_10 : decode cX3_empty 10 = .ok (.getfield 11, 3) := by decide +kernel
theorem dX3_empty_13 : decode cX3_empty 13 = .ok (.iload_n 1, 1) := by decide +kernel
theorem dX3_empty_14 : decode cX3_empty 14 = .ok (.aaload, 1) := by decide +kernel
theorem dX3_empty_15 : decode cX3_empty 15 = .ok (.ifnonnull 7, 3) := by decide +kernel
theorem dX3_empty_18 : decode cX3_empty 18 = .ok (.iconst 0, 1) := by decide +kernel
theorem dX3_empty_19 : decode cX3_empty 19 = .ok (.goto 4, 3) := by decide +kernel
theorem dX3_empty_22 : decode cX3_empty 22 = .ok (.iconst 1, 1) := by decide +kernel
theorem dX3_empty_23 : decode cX3_empty 23 = .ok (.istore_n 2, 1) := by decide +kernel
theorem dX3_empty_24 : decode cX3_empty 24 = .ok (.aload_n 0, 1) := by decide +kernel
theorem dX3_empty_25 : decode cX3_empty 25 = .ok (.getfield 11, 3) := by decide +kernel
theorem dX3_empty_28 : decode cX3_empty 28 = .ok (.iload_n 1, 1) := by decide +kernel
theorem dX3_empty_29 : decode cX3_empty 29 = .ok (.aconst_null, 1) := by decide +kernel
theorem dX3_empty_30 : decode cX3_empty 30 = .ok (.aastore, 1) := by decide +kernel
theorem dX3_empty_31 : decode cX3_empty 31 = .ok (.iload_n 2, 1) := by decide +kernel
theorem dX3_empty_32 : decode cX3_empty 32 = .ok (.ireturn, 1) := by decide +kernel
set_option maxRecDepth 20000 in
theorem ggX3_same_X3_isBox : GoodIn wsX3_same wsX3_isBox := goodIn_r _ [5] (by decide +kernel) (by decide +kernel)
set_option maxRecDepth 20000 in
theorem gX3_same_X3_isBox : GoodIn wsX3_same (va_wsS RX3 37 yX3_isBox wsX3_isBox) := goodIn_app (goodIn_of _ (by decide +kernel)) ggX3_same_X3_isBox
theorem dX3_same_0 : decode cX3_same 0 = .ok (.iload_n 1, 1) := by decide +kernel
theorem dX3_same_1 : decode cX3_same 1 = .ok (.invokestatic 37, 3) := by decide +kernel
theorem dX3_same_4 : decode cX3_same 4 = .ok (.ifCond .eq 10, 3) := by decide +kernel
theorem dX3_same_7 : decode cX3_same 7 = .ok (.iload_n 2, 1) := by decide +kernel
theorem dX3_same_8 : decode cX3_same 8 = .ok (.invokestatic 37, 3) := by decide +kernel
theorem dX3_same_11 : decode cX3_same 11 = .ok (.ifCond .ne 5, 3) := by decide +kernel
theorem dX3_same_14 : decode cX3_same 14 = .ok (.iconst (-1), 1) := by decide +kernel
theorem dX3_same_15 : decode cX3_same 15 = .ok (.ireturn, 1) := by decide +kernel
theorem dX3_same_16 : decode cX3_same 16 = .ok (.aload_n 0, 1) := by decide +kernel
theorem dX3_same_17 : decode cX3_same 17 = .ok (.getfield 11, 3) := by decide +kernel
theorem dX3_same_20 : decode cX3_same 20 = .ok (.iload_n 1, 1) := by decide +kernel
theorem dX3_same_21 : decode cX3_same 21 = .ok (.aaload, 1) := by decide +kernel
theorem dX3_same_22 : decode cX3_same 22 = .ok (.aload_n 0, 1) := by decide +kernel
theorem dX3_same_23 : decode cX3_same 23 = .ok (.getfield 11, 3) := by decide +kernel
theorem dX3_same_26 : decode cX3_same 26 = .ok (.iload_n 2, 1) := by decide +kernel
theorem dX3_same_27 : decode cX3_same 27 = .ok (.aaload, 1) := by decide +kernel
theorem dX3_same_28 : decode cX3_same 28 = .ok (.if_acmp .ne 7, 3) := by decide +kernel
theorem dX3_same_31 : decode cX3_same 31 = .ok (.iconst 1, 1) := by decide +kernel
theorem dX3_same_32 : decode cX3_same 32 = .ok (.goto 4, 3) := by decide +kernel
theorem dX3_same_35 : decode cX3_same 35 = .ok (.iconst 0, 1) := by decide +kernel
theorem dX3_same_36 : decode cX3_same 36 = .ok (.ireturn, 1) := by decide +kernel
set_option maxRecDepth 20000 in
theorem ggX3_look_X3_isBox : GoodIn wsX3_look wsX3_isBox := goodIn_r _ [12] (by decide +kernel) (by decide +kernel)
set_option maxRecDepth 20000 in
theorem gX3_look_X3_isBox : GoodIn wsX3_look (va_wsS RX3 37 yX3_isBox wsX3_isBox) := goodIn_app (goodIn_of _ (by decide +kernel)) ggX3_look_X3_isBox
set_option maxRecDepth 20000 in
theorem ggX3_look_X3_isSteps : GoodIn wsX3_look wsX3_isSteps := goodIn_r _ [15] (by decide +kernel) (by decide +kernel)
set_option maxRecDepth 20000 in
theorem gX3_look_X3_isSteps : GoodIn wsX3_look (va_wsS RX3 51 yX3_isSteps wsX3_isSteps) := goodIn_app (goodIn_of _ (by decide +kernel)) ggX3_look_X3_isSteps
set_option maxRecDepth 20000 in
theorem ggX3_look_X3_walk : GoodIn wsX3_look wsX3_walk := goodIn_r _ [19, 1, 20, 21, 22, 23, 24, 25, 26, 27, 28, 29, 30, 31, 11, 32, 33, 34, 35, 36, 37, 38, 39, 40, 41, 42, 43, 44, 45, 46, 47, 48, 49, 50, 51, 52, 53, 54, 55, 56, 62, 63, 64, 65, 66, 67, 68, 69, 70, 71, 72, 73, 74, 75, 76, 77] (by decide +kernel) (by decide +kernel)
set_option maxRecDepth 20000 in
theorem gX3_look_X3_walk : GoodIn wsX3_look (wsV RX3 55 RX3 yX3_walk wsX3_walk) := goodIn_app (goodIn_of _ (by decide +kernel)) ggX3_look_X3_walk
set_option maxRecDepth 20000 in
theorem ggX3_look_X3_met : GoodIn wsX3_look wsX3_met := goodIn_r _ [60, 61, 62, 63, 64, 65, 66, 67] (by decide +kernel) (by decide +kernel)
set_option maxRecDepth 20000 in
theorem gX3_look_X3_met : GoodIn wsX3_look (wsV RX3 44 RX3 yX3_met wsX3_met) := goodIn_app (goodIn_of _ (by decide +kernel)) ggX3_look_X3_met
theorem dX3_look_0 : decode cX3_look 0 = .ok (.iload_n 1, 1) := by decide +kernel
theorem dX3_look_1 : decode cX3_look 1 = .ok (.invokestatic 37, 3) := by decide +kernel
theorem dX3_look_4 : decode cX3_look 4 = .ok (.ifCond .eq 12, 3) := by decide +kernel
theorem dX3_look_7 : decode cX3_look 7 = .ok (.iload_n 2, 1) := by decide +kernel
theorem dX3_look_8 : decode cX3_look 8 = .ok (.iconst 0, 1) := by decide +kernel
theorem dX3_look_9 : decode cX3_look 9 = .ok (.iconst 3, 1) := by decide +kernel
theorem dX3_look_10 : decode cX3_look 10 = .ok (.invokestatic 51, 3) := by decide +kernel
theorem dX3_look_13 : decode cX3_look 13 = .ok (.ifCond .ne 5, 3) := by decide +kernel
theorem dX3_look_16 : decode cX3_look 16 = .ok (.iconst (-1), 1) := by decide +kernel
theorem dX3_look_17 : decode cX3_look 17 = .ok (.ireturn, 1) := by decide +kernel
theorem dX3_look_18 : decode cX3_look 18 = .ok (.aload_n 0, 1) := by decide +kernel
theorem dX3_look_19 : decode cX3_look 19 = .ok (.iload_n 1, 1) := by decide +kernel
theorem dX3_look_20 : decode cX3_look 20 = .ok (.iload_n 2, 1) := by decide +kernel
theorem dX3_look_21 : decode cX3_look 21 = .ok (.iload_n 3, 1) := by decide +kernel
theorem dX3_look_22 : decode cX3_look 22 = .ok (.iload 4, 2) := by decide +kernel
theorem dX3_look_24 : decode cX3_look 24 = .ok (.iload 5, 2) := by decide +kernel
theorem dX3_look_26 : decode cX3_look 26 = .ok (.invokevirtual 55, 3) := by decide +kernel
theorem dX3_look_29 : decode cX3_look 29 = .ok (.istore 6, 2) := by decide +kernel
theorem dX3_look_31 : decode cX3_look 31 = .ok (.iload 6, 2) := by decide +kernel
theorem dX3_look_33 : decode cX3_look 33 = .ok (.ifCond .eq 10, 3) := by decide +kernel
theorem dX3_look_36 : decode cX3_look 36 = .ok (.aload_n 0, 1) := by decide +kernel
theorem dX3_look_37 : decode cX3_look 37 = .ok (.iload 6, 2) := by decide +kernel
theorem dX3_look_39 : decode cX3_look 39 = .ok (.invokevirtual 44, 3) := by decide +kernel
theorem dX3_look_42 : decode cX3_look 42 = .ok (.ireturn, 1) := by decide +kernel
theorem dX3_look_43 : decode cX3_look 43 = .ok (.aload_n 0, 1) := by decide +kernel
theorem dX3_look_44 : decode cX3_look 44 = .ok (.getfield 22, 3) := by decide +kernel
theorem dX3_look_47 : decode cX3_look 47 = .ok (.getfield 59, 3) := by decide +kernel
theorem dX3_look_50 : decode cX3_look 50 = .ok (.ifCond .eq 22, 3) := by decide +kernel
theorem dX3_look_53 : decode cX3_look 53 = .ok (.aload_n 0, 1) := by decide +kernel
theorem dX3_look_54 : decode cX3_look 54 = .ok (.aload_n 0, 1) := by decide +kernel
theorem dX3_look_55 : decode cX3_look 55 = .ok (.getfield 22, 3) := by decide +kernel
theorem dX3_look_58 : decode cX3_look 58 = .ok (.getfield 63, 3) := by decide +kernel
theorem dX3_look_61 : decode cX3_look 61 = .ok (.putfield 33, 3) := by decide +kernel
theorem dX3_look_64 : decode cX3_look 64 = .ok (.aload_n 0, 1) := by decide +kernel
theorem dX3_look_65 : decode cX3_look 65 = .ok (.getfield 22, 3) := by decide +kernel
theorem dX3_look_68 : decode cX3_look 68 = .ok (.getfield 66, 3) := by decide +kernel
theorem dX3_look_71 : decode cX3_look 71 = .ok (.ireturn, 1) := by decide +kernel
theorem dX3_look_72 : decode cX3_look 72 = .ok (.aload_n 0, 1) := by decide +kernel
theorem dX3_look_73 : decode cX3_look 73 = .ok (.getfield 22, 3) := by decide +kernel
theorem dX3_look_76 : decode cX3_look 76 = .ok (.getfield 69, 3) := by decide +kernel
theorem dX3_look_79 : decode cX3_look 79 = .ok (.astore 7, 2) := by decide +kernel
theorem dX3_look_81 : decode cX3_look 81 = .ok (.aload 7, 2) := by decide +kernel
theorem dX3_look_83 : decode cX3_look 83 = .ok (.ifnonnull 8, 3) := by decide +kernel
theorem dX3_look_86 : decode cX3_look 86 = .ok (.bipush 40, 2) := by decide +kernel
theorem dX3_look_88 : decode cX3_look 88 = .ok (.goto 17, 3) := by decide +kernel
theorem dX3_look_91 : decode cX3_look 91 = .ok (.aload 7, 2) := by decide +kernel
theorem dX3_look_93 : decode cX3_look 93 = .ok (.getfield 73, 3) := by decide +kernel
theorem dX3_look_96 : decode cX3_look 96 = .ok (.bipush 10, 2) := by decide +kernel
theorem dX3_look_98 : decode cX3_look 98 = .ok (.aload 7, 2) := by decide +kernel
theorem dX3_look_100 : decode cX3_look 100 = .ok (.getfield 74, 3) := by decide +kernel
theorem dX3_look_103 : decode cX3_look 103 = .ok (.imul, 1) := by decide +kernel
theorem dX3_look_104 : decode cX3_look 104 = .ok (.iadd, 1) := by decide +kernel
theorem dX3_look_105 : decode cX3_look 105 = .ok (.ireturn, 1) := by decide +kernel
set_option maxRecDepth 20000 in
theorem ggX3_length_X3_isBox : GoodIn wsX3_length wsX3_isBox := goodIn_r _ [7] (by decide +kernel) (by decide +kernel)
set_option maxRecDepth 20000 in
theorem gX3_length_X3_isBox : GoodIn wsX3_length (va_wsS RX3 37 yX3_isBox wsX3_isBox) := goodIn_app (goodIn_of _ (by decide +kernel)) ggX3_length_X3_isBox
set_option maxRecDepth 20000 in
theorem ggX3_length_X3_isSteps : GoodIn wsX3_length wsX3_isSteps := goodIn_r _ [10] (by decide +kernel) (by decide +kernel)
set_option maxRecDepth 20000 in
theorem gX3_length_X3_isSteps : GoodIn wsX3_length (va_wsS RX3 51 yX3_isSteps wsX3_isSteps) := goodIn_app (goodIn_of _ (by decide +kernel)) ggX3_length_X3_isSteps
set_option maxRecDepth 20000 in
theorem ggX3_length_X3_rowThere : GoodIn wsX3_length wsX3_rowThere := goodIn_r _ [14, 1, 2, 15, 16, 17, 18, 6, 19, 20, 21, 22, 23, 24, 25, 26, 27, 28, 29, 30, 31, 32, 33, 34, 35, 36, 37, 38, 39, 40, 41, 42, 43, 44, 45, 46, 47, 48, 49, 50, 51, 52, 53, 54, 55, 56, 62, 63, 64, 65, 66, 67, 68, 69, 70, 71, 72, 73, 74, 75, 76, 77] (by decide +kernel) (by decide +kernel)
set_option maxRecDepth 20000 in
theorem gX3_length_X3_rowThere : GoodIn wsX3_length (wsV RX3 77 RX3 yX3_rowThere wsX3_rowThere) := goodIn_app (goodIn_of _ (by decide +kernel)) ggX3_length_X3_rowThere
set_option maxRecDepth 20000 in
theorem ggX3_length_X3_met : GoodIn wsX3_length wsX3_met := goodIn_r _ [60, 61, 62, 63, 64, 65, 66, 67] (by decide +kernel) (by decide +kernel)
set_option maxRecDepth 20000 in
theorem gX3_length_X3_met : GoodIn wsX3_length (wsV RX3 44 RX3 yX3_met wsX3_met) := goodIn_app (goodIn_of _ (by decide +kernel)) ggX3_length_X3_met
theorem dX3_length_0 : decode cX3_length 0 = .ok (.iload_n 1, 1) := by decide +kernel
theorem dX3_length_1 : decode cX3_length 1 = .ok (.invokestatic 37, 3) := by decide +kernel
theorem dX3_length_4 : decode cX3_length 4 = .ok (.ifCond .eq 12, 3) := by decide +kernel
theorem dX3_length_7 : decode cX3_length 7 = .ok (.iload_n 2, 1) := by decide +kernel
theorem dX3_length_8 : decode cX3_length 8 = .ok (.iconst 0, 1) := by decide +kernel
theorem dX3_length_9 : decode cX3_length 9 = .ok (.iconst 3, 1) := by decide +kernel
theorem dX3_length_10 : decode cX3_length 10 = .ok (.invokestatic 51, 3) := by decide +kernel
theorem dX3_length_13 : decode cX3_length 13 = .ok (.ifCond .ne 5, 3) := by decide +kernel
theorem dX3_length_16 : decode cX3_length 16 = .ok (.iconst (-1), 1) := by decide +kernel
theorem dX3_length_17 : decode cX3_length 17 = .ok (.ireturn, 1) := by decide +kernel
theorem dX3_length_18 : decode cX3_length 18 = .ok (.aload_n 0, 1) := by decide +kernel
theorem dX3_length_19 : decode cX3_length 19 = .ok (.iload_n 1, 1) := by decide +kernel
theorem dX3_length_20 : decode cX3_length 20 = .ok (.iload_n 2, 1) := by decide +kernel
theorem dX3_length_21 : decode cX3_length 21 = .ok (.iload_n 3, 1) := by decide +kernel
theorem dX3_length_22 : decode cX3_length 22 = .ok (.iload 4, 2) := by decide +kernel
theorem dX3_length_24 : decode cX3_length 24 = .ok (.iload 5, 2) := by decide +kernel
theorem dX3_length_26 : decode cX3_length 26 = .ok (.invokevirtual 77, 3) := by decide +kernel
theorem dX3_length_29 : decode cX3_length 29 = .ok (.astore 6, 2) := by decide +kernel
theorem dX3_length_31 : decode cX3_length 31 = .ok (.aload 6, 2) := by decide +kernel
theorem dX3_length_33 : decode cX3_length 33 = .ok (.ifnonnull 17, 3) := by decide +kernel
theorem dX3_length_36 : decode cX3_length 36 = .ok (.aload_n 0, 1) := by decide +kernel
theorem dX3_length_37 : decode cX3_length 37 = .ok (.aload_n 0, 1) := by decide +kernel
theorem dX3_length_38 : decode cX3_length 38 = .ok (.getfield 22, 3) := by decide +kernel
theorem dX3_length_41 : decode cX3_length 41 = .ok (.getfield 81, 3) := by decide +kernel
theorem dX3_length_44 : decode cX3_length 44 = .ok (.invokevirtual 44, 3) := by decide +kernel
theorem dX3_length_47 : decode cX3_length 47 = .ok (.goto 8, 3) := by decide +kernel
theorem dX3_length_50 : decode cX3_length 50 = .ok (.aload 6, 2) := by decide +kernel
theorem dX3_length_52 : decode cX3_length 52 = .ok (.getfield 84, 3) := by decide +kernel
theorem dX3_length_55 : decode cX3_length 55 = .ok (.ireturn, 1) := by decide +kernel
set_option maxRecDepth 20000 in
theorem ggX3_read_X3_isBox : GoodIn wsX3_read wsX3_isBox := goodIn_r _ [9] (by decide +kernel) (by decide +kernel)
set_option maxRecDepth 20000 in
theorem gX3_read_X3_isBox : GoodIn wsX3_read (va_wsS RX3 37 yX3_isBox wsX3_isBox) := goodIn_app (goodIn_of _ (by decide +kernel)) ggX3_read_X3_isBox
set_option maxRecDepth 20000 in
theorem ggX3_read_X3_isSteps : GoodIn wsX3_read wsX3_isSteps := goodIn_r _ [12] (by decide +kernel) (by decide +kernel)
set_option maxRecDepth 20000 in
theorem gX3_read_X3_isSteps : GoodIn wsX3_read (va_wsS RX3 51 yX3_isSteps wsX3_isSteps) := goodIn_app (goodIn_of _ (by decide +kernel)) ggX3_read_X3_isSteps
set_option maxRecDepth 20000 in
theorem ggX3_read_X3_isKind : GoodIn wsX3_read wsX3_isKind := goodIn_r _ [15] (by decide +kernel) (by decide +kernel)
set_option maxRecDepth 20000 in
theorem gX3_read_X3_isKind : GoodIn wsX3_read (va_wsS RX3 41 yX3_isKind wsX3_isKind) := goodIn_app (goodIn_of _ (by decide +kernel)) ggX3_read_X3_isKind
set_option maxRecDepth 20000 in
theorem ggX3_read_X3_rowThere : GoodIn wsX3_read wsX3_rowThere := goodIn_r _ [19, 1, 2, 20, 21, 22, 23, 8, 24, 25, 26, 27, 28, 29, 30, 31, 32, 33, 34, 35, 36, 37, 38, 39, 40, 41, 42, 43, 44, 45, 46, 47, 48, 49, 50, 51, 52, 53, 54, 55, 56, 57, 58, 59, 60, 61, 124, 125, 126, 127, 128, 129, 130, 131, 132, 133, 134, 135, 136, 137, 138, 139] (by decide +kernel) (by decide +kernel)
set_option maxRecDepth 20000 in
theorem gX3_read_X3_rowThere : GoodIn wsX3_read (wsV RX3 77 RX3 yX3_rowThere wsX3_rowThere) := goodIn_app (goodIn_of _ (by decide +kernel)) ggX3_read_X3_rowThere
set_option maxRecDepth 20000 in
theorem ggX3_read_X3_met : GoodIn wsX3_read wsX3_met := goodIn_r _ [65, 66, 124, 125, 126, 127, 128, 129] (by decide +kernel) (by decide +kernel)
set_option maxRecDepth 20000 in
theorem gX3_read_X3_met : GoodIn wsX3_read (wsV RX3 44 RX3 yX3_met wsX3_met) := goodIn_app (goodIn_of _ (by decide +kernel)) ggX3_read_X3_met
set_option maxRecDepth 20000 in
theorem ggX3_read_X3_placeOfStep : GoodIn wsX3_read wsX3_placeOfStep := goodIn_r _ [36] (by decide +kernel) (by decide +kernel)
set_option maxRecDepth 20000 in
theorem gX3_read_X3_placeOfStep : GoodIn wsX3_read (va_wsS RX3 87 yX3_placeOfStep wsX3_placeOfStep) := goodIn_app (goodIn_of _ (by decide +kernel)) ggX3_read_X3_placeOfStep
set_option maxRecDepth 20000 in
theorem ggX3_read_X2_causeToRead : GoodIn wsX3_read wsX2_causeToRead := goodIn_r _ [70, 71, 72, 73, 74, 53, 75, 76, 57, 58, 59, 60, 77, 51, 52, 54, 55, 78, 79, 80, 81, 135, 136, 137, 138, 139] (by decide +kernel) (by decide +kernel)
set_option maxRecDepth 20000 in
theorem gX3_read_X2_causeToRead : GoodIn wsX3_read (wsV RX3 91 RX2 yX2_causeToRead wsX2_causeToRead) := goodIn_app (goodIn_of _ (by decide +kernel)) ggX3_read_X2_causeToRead
set_option maxRecDepth 20000 in
theorem ggX3_read_X1_asKind : GoodIn wsX3_read wsX1_asKind := goodIn_r _ [84, 85, 86, 80, 87, 88, 89, 90, 91, 92, 93, 94, 95, 96, 97, 98, 99, 100, 101, 102, 103, 104, 105, 106, 107, 108, 109, 110, 111, 112, 113, 114, 115, 116, 117, 118, 119, 120, 121, 122, 123] (by decide +kernel) (by decide +kernel)
set_option maxRecDepth 20000 in
theorem gX3_read_X1_asKind : GoodIn wsX3_read (va_wsS RX3 99 yX1_asKind wsX1_asKind) := goodIn_app (goodIn_of _ (by decide +kernel)) ggX3_read_X1_asKind
theorem dX3_read_0 : decode cX3_read 0 = .ok (.iload_n 1, 1) := by decide +kernel
theorem dX3_read_1 : decode cX3_read 1 = .ok (.invokestatic 37, 3) := by decide +kernel
theorem dX3_read_4 : decode cX3_read 4 = .ok (.ifCond .eq 20, 3) := by decide +kernel
theorem dX3_read_7 : decode cX3_read 7 = .ok (.iload_n 2, 1) := by decide +kernel
theorem dX3_read_8 : decode cX3_read 8 = .ok (.iconst 1, 1) := by decide +kernel
theorem dX3_read_9 : decode cX3_read 9 = .ok (.iconst 3, 1) := by decide +kernel
theorem dX3_read_10 : decode cX3_read 10 = .ok (.invokestatic 51, 3) := by decide +kernel
theorem dX3_read_13 : decode cX3_read 13 = .ok (.ifCond .eq 11, 3) := by decide +kernel
theorem dX3_read_16 : decode cX3_read 16 = .ok (.iload 6, 2) := by decide +kernel
theorem dX3_read_18 : decode cX3_read 18 = .ok (.invokestatic 41, 3) := by decide +kernel
theorem dX3_read_21 : decode cX3_read 21 = .ok (.ifCond .ne 5, 3) := by decide +kernel
theorem dX3_read_24 : decode cX3_read 24 = .ok (.iconst (-1), 1) := by decide +kernel
theorem dX3_read_25 : decode cX3_read 25 = .ok (.ireturn, 1) := by decide +kernel
theorem dX3_read_26 : decode cX3_read 26 = .ok (.aload_n 0, 1) := by decide +kernel
theorem dX3_read_27 : decode cX3_read 27 = .ok (.iload_n 1, 1) := by decide +kernel
theorem dX3_read_28 : decode cX3_read 28 = .ok (.iload_n 2, 1) := by decide +kernel
theorem dX3_read_29 : decode cX3_read 29 = .ok (.iconst 1, 1) := by decide +kernel
theorem dX3_read_30 : decode cX3_read 30 = .ok (.isub, 1) := by decide +kernel
theorem dX3_read_31 : decode cX3_read 31 = .ok (.iload_n 3, 1) := by decide +kernel
theorem dX3_read_32 : decode cX3_read 32 = .ok (.iload 4, 2) := by decide +kernel
theorem dX3_read_34 : decode cX3_read 34 = .ok (.iload 5, 2) := by decide +kernel
theorem dX3_read_36 : decode cX3_read 36 = .ok (.invokevirtual 77, 3) := by decide +kernel
theorem dX3_read_39 : decode cX3_read 39 = .ok (.astore 7, 2) := by decide +kernel
theorem dX3_read_41 : decode cX3_read 41 = .ok (.aload 7, 2) := by decide +kernel
theorem dX3_read_43 : decode cX3_read 43 = .ok (.ifnonnull 15, 3) := by decide +kernel
theorem dX3_read_46 : decode cX3_read 46 = .ok (.aload_n 0, 1) := by decide +kernel
theorem dX3_read_47 : decode cX3_read 47 = .ok (.aload_n 0, 1) := by decide +kernel
theorem dX3_read_48 : decode cX3_read 48 = .ok (.getfield 22, 3) := by decide +kernel
theorem dX3_read_51 : decode cX3_read 51 = .ok (.getfield 81, 3) := by decide +kernel
theorem dX3_read_54 : decode cX3_read 54 = .ok (.invokevirtual 44, 3) := by decide +kernel
theorem dX3_read_57 : decode cX3_read 57 = .ok (.ireturn, 1) := by decide +kernel
theorem dX3_read_58 : decode cX3_read 58 = .ok (.iload_n 2, 1) := by decide +kernel
theorem dX3_read_59 : decode cX3_read 59 = .ok (.iload_n 3, 1) := by decide +kernel
theorem dX3_read_60 : decode cX3_read 60 = .ok (.iload 4, 2) := by decide +kernel
theorem dX3_read_62 : decode cX3_read 62 = .ok (.iload 5, 2) := by decide +kernel
theorem dX3_read_64 : decode cX3_read 64 = .ok (.invokestatic 87, 3) := by decide +kernel
theorem dX3_read_67 : decode cX3_read 67 = .ok (.istore 8, 2) := by decide +kernel
theorem dX3_read_69 : decode cX3_read 69 = .ok (.aload 7, 2) := by decide +kernel
theorem dX3_read_71 : decode cX3_read 71 = .ok (.iload 8, 2) := by decide +kernel
theorem dX3_read_73 : decode cX3_read 73 = .ok (.iload 6, 2) := by decide +kernel
theorem dX3_read_75 : decode cX3_read 75 = .ok (.invokevirtual 91, 3) := by decide +kernel
theorem dX3_read_78 : decode cX3_read 78 = .ok (.istore 9, 2) := by decide +kernel
theorem dX3_read_80 : decode cX3_read 80 = .ok (.iload 9, 2) := by decide +kernel
theorem dX3_read_82 : decode cX3_read 82 = .ok (.ifCond .eq 10, 3) := by decide +kernel
theorem dX3_read_85 : decode cX3_read 85 = .ok (.aload_n 0, 1) := by decide +kernel
theorem dX3_read_86 : decode cX3_read 86 = .ok (.iload 9, 2) := by decide +kernel
theorem dX3_read_88 : decode cX3_read 88 = .ok (.invokevirtual 44, 3) := by decide +kernel
theorem dX3_read_91 : decode cX3_read 91 = .ok (.ireturn, 1) := by decide +kernel
theorem dX3_read_92 : decode cX3_read 92 = .ok (.aload_n 0, 1) := by decide +kernel
theorem dX3_read_93 : decode cX3_read 93 = .ok (.aload 7, 2) := by decide +kernel
theorem dX3_read_95 : decode cX3_read 95 = .ok (.getfield 95, 3) := by decide +kernel
theorem dX3_read_98 : decode cX3_read 98 = .ok (.iload 8, 2) := by decide +kernel
theorem dX3_read_100 : decode cX3_read 100 = .ok (.laload, 1) := by decide +kernel
theorem dX3_read_101 : decode cX3_read 101 = .ok (.aload 7, 2) := by decide +kernel
theorem dX3_read_103 : decode cX3_read 103 = .ok (.getfield 73, 3) := by decide +kernel
theorem dX3_read_106 : decode cX3_read 106 = .ok (.iload 6, 2) := by decide +kernel
theorem dX3_read_108 : decode cX3_read 108 = .ok (.invokestatic 99, 3) := by decide +kernel
theorem dX3_read_111 : decode cX3_read 111 = .ok (.putfield 33, 3) := by decide +kernel
theorem dX3_read_114 : decode cX3_read 114 = .ok (.iconst 1, 1) := by decide +kernel
theorem dX3_read_115 : decode cX3_read 115 = .ok (.ireturn, 1) := by decide +kernel
set_option maxRecDepth 20000 in
theorem ggX3_write_X3_isBox : GoodIn wsX3_write wsX3_isBox := goodIn_r _ [8] (by decide +kernel) (by decide +kernel)
set_option maxRecDepth 20000 in
theorem gX3_write_X3_isBox : GoodIn wsX3_write (va_wsS RX3 37 yX3_isBox wsX3_isBox) := goodIn_app (goodIn_of _ (by decide +kernel)) ggX3_write_X3_isBox
set_option maxRecDepth 20000 in
theorem ggX3_write_X3_isSteps : GoodIn wsX3_write wsX3_isSteps := goodIn_r _ [11] (by decide +kernel) (by decide +kernel)
set_option maxRecDepth 20000 in
theorem gX3_write_X3_isSteps : GoodIn wsX3_write (va_wsS RX3 51 yX3_isSteps wsX3_isSteps) := goodIn_app (goodIn_of _ (by decide +kernel)) ggX3_write_X3_isSteps
set_option maxRecDepth 20000 in
theorem ggX3_write_X3_isKind : GoodIn wsX3_write wsX3_isKind := goodIn_r _ [14] (by decide +kernel) (by decide +kernel)
set_option maxRecDepth 20000 in
theorem gX3_write_X3_isKind : GoodIn wsX3_write (va_wsS RX3 41 yX3_isKind wsX3_isKind) := goodIn_app (goodIn_of _ (by decide +kernel)) ggX3_write_X3_isKind
set_option maxRecDepth 20000 in
theorem ggX3_write_X3_rowThere : GoodIn wsX3_write wsX3_rowThere := goodIn_r _ [18, 1, 2, 19, 20, 21, 22, 7, 23, 24, 25, 26, 27, 28, 29, 30, 31, 32, 33, 34, 35, 36, 37, 38, 39, 40, 41, 42, 43, 44, 45, 46, 47, 48, 49, 50, 51, 52, 53, 54, 55, 56, 57, 58, 59, 60, 127, 128, 129, 130, 131, 132, 133, 134, 135, 136, 137, 138, 139, 140, 141, 142] (by decide +kernel) (by decide +kernel)
set_option maxRecDepth 20000 in
theorem gX3_write_X3_rowThere : GoodIn wsX3_write (wsV RX3 77 RX3 yX3_rowThere wsX3_rowThere) := goodIn_app (goodIn_of _ (by decide +kernel)) ggX3_write_X3_rowThere
set_option maxRecDepth 20000 in
theorem ggX3_write_X3_met : GoodIn wsX3_write wsX3_met := goodIn_r _ [64, 65, 127, 128, 129, 130, 131, 132] (by decide +kernel) (by decide +kernel)
set_option maxRecDepth 20000 in
theorem gX3_write_X3_met : GoodIn wsX3_write (wsV RX3 44 RX3 yX3_met wsX3_met) := goodIn_app (goodIn_of _ (by decide +kernel)) ggX3_write_X3_met
set_option maxRecDepth 20000 in
theorem ggX3_write_X3_placeOfStep : GoodIn wsX3_write wsX3_placeOfStep := goodIn_r _ [35] (by decide +kernel) (by decide +kernel)
set_option maxRecDepth 20000 in
theorem gX3_write_X3_placeOfStep : GoodIn wsX3_write (va_wsS RX3 87 yX3_placeOfStep wsX3_placeOfStep) := goodIn_app (goodIn_of _ (by decide +kernel)) ggX3_write_X3_placeOfStep
set_option maxRecDepth 20000 in
theorem ggX3_write_X2_causeToWrite : GoodIn wsX3_write wsX2_causeToWrite := goodIn_r _ [69, 70, 71, 72, 73, 52, 74, 75, 56, 57, 58, 59, 76, 50, 51, 53, 54, 77, 78, 79, 80, 138, 139, 140, 141, 142] (by decide +kernel) (by decide +kernel)
set_option maxRecDepth 20000 in
theorem gX3_write_X2_causeToWrite : GoodIn wsX3_write (wsV RX3 105 RX2 yX2_causeToWrite wsX2_causeToWrite) := goodIn_app (goodIn_of _ (by decide +kernel)) ggX3_write_X2_causeToWrite
set_option maxRecDepth 20000 in
theorem ggX3_write_X1_told : GoodIn wsX3_write wsX1_told := goodIn_r _ [83, 84, 85, 86, 87, 88, 89, 79, 90] (by decide +kernel) (by decide +kernel)
set_option maxRecDepth 20000 in
theorem gX3_write_X1_told : GoodIn wsX3_write (va_wsS RX3 108 yX1_told wsX1_told) := goodIn_app (goodIn_of _ (by decide +kernel)) ggX3_write_X1_told
set_option maxRecDepth 20000 in
theorem ggX3_write_X1_asKind : GoodIn wsX3_write wsX1_asKind := goodIn_r _ [93, 94, 95, 79, 96, 84, 87, 86, 97, 98, 88, 89, 90, 99, 100, 101, 102, 103, 104, 105, 106, 107, 108, 109, 110, 111, 112, 113, 114, 115, 116, 117, 118, 119, 120, 121, 122, 123, 124, 125, 126] (by decide +kernel) (by decide +kernel)
set_option maxRecDepth 20000 in
theorem gX3_write_X1_asKind : GoodIn wsX3_write (va_wsS RX3 99 yX1_asKind wsX1_asKind) := goodIn_app (goodIn_of _ (by decide +kernel)) ggX3_write_X1_asKind
theorem dX3_write_0 : decode cX3_write 0 = .ok (.iload_n 1, 1) := by decide +kernel
theorem dX3_write_1 : decode cX3_write 1 = .ok (.invokestatic 37, 3) := by decide +kernel
theorem dX3_write_4 : decode cX3_write 4 = .ok (.ifCond .eq 20, 3) := by decide +kernel
theorem dX3_write_7 : decode cX3_write 7 = .ok (.iload_n 2, 1) := by decide +kernel
theorem dX3_write_8 : decode cX3_write 8 = .ok (.iconst 1, 1) := by decide +kernel
theorem dX3_write_9 : decode cX3_write 9 = .ok (.iconst 3, 1) := by decide +kernel
theorem dX3_write_10 : decode cX3_write 10 = .ok (.invokestatic 51, 3) := by decide +kernel
theorem dX3_write_13 : decode cX3_write 13 = .ok (.ifCond .eq 11, 3) := by decide +kernel
theorem dX3_write_16 : decode cX3_write 16 = .ok (.iload 6, 2) := by decide +kernel
theorem dX3_write_18 : decode cX3_write 18 = .ok (.invokestatic 41, 3) := by decide +kernel
theorem dX3_write_21 : decode cX3_write 21 = .ok (.ifCond .ne 5, 3) := by decide +kernel
theorem dX3_write_24 : decode cX3_write 24 = .ok (.iconst (-1), 1) := by decide +kernel
theorem dX3_write_25 : decode cX3_write 25 = .ok (.ireturn, 1) := by decide +kernel
theorem dX3_write_26 : decode cX3_write 26 = .ok (.aload_n 0, 1) := by decide +kernel
theorem dX3_write_27 : decode cX3_write 27 = .ok (.iload_n 1, 1) := by decide +kernel
theorem dX3_write_28 : decode cX3_write 28 = .ok (.iload_n 2, 1) := by decide +kernel
theorem dX3_write_29 : decode cX3_write 29 = .ok (.iconst 1, 1) := by decide +kernel
theorem dX3_write_30 : decode cX3_write 30 = .ok (.isub, 1) := by decide +kernel
theorem dX3_write_31 : decode cX3_write 31 = .ok (.iload_n 3, 1) := by decide +kernel
theorem dX3_write_32 : decode cX3_write 32 = .ok (.iload 4, 2) := by decide +kernel
theorem dX3_write_34 : decode cX3_write 34 = .ok (.iload 5, 2) := by decide +kernel
theorem dX3_write_36 : decode cX3_write 36 = .ok (.invokevirtual 77, 3) := by decide +kernel
theorem dX3_write_39 : decode cX3_write 39 = .ok (.astore 9, 2) := by decide +kernel
theorem dX3_write_41 : decode cX3_write 41 = .ok (.aload 9, 2) := by decide +kernel
theorem dX3_write_43 : decode cX3_write 43 = .ok (.ifnonnull 15, 3) := by decide +kernel
theorem dX3_write_46 : decode cX3_write 46 = .ok (.aload_n 0, 1) := by decide +kernel
theorem dX3_write_47 : decode cX3_write 47 = .ok (.aload_n 0, 1) := by decide +kernel
theorem dX3_write_48 : decode cX3_write 48 = .ok (.getfield 22, 3) := by decide +kernel
theorem dX3_write_51 : decode cX3_write 51 = .ok (.getfield 81, 3) := by decide +kernel
theorem dX3_write_54 : decode cX3_write 54 = .ok (.invokevirtual 44, 3) := by decide +kernel
theorem dX3_write_57 : decode cX3_write 57 = .ok (.ireturn, 1) := by decide +kernel
theorem dX3_write_58 : decode cX3_write 58 = .ok (.iload_n 2, 1) := by decide +kernel
theorem dX3_write_59 : decode cX3_write 59 = .ok (.iload_n 3, 1) := by decide +kernel
theorem dX3_write_60 : decode cX3_write 60 = .ok (.iload 4, 2) := by decide +kernel
theorem dX3_write_62 : decode cX3_write 62 = .ok (.iload 5, 2) := by decide +kernel
theorem dX3_write_64 : decode cX3_write 64 = .ok (.invokestatic 87, 3) := by decide +kernel
theorem dX3_write_67 : decode cX3_write 67 = .ok (.istore 10, 2) := by decide +kernel
theorem dX3_write_69 : decode cX3_write 69 = .ok (.aload 9, 2) := by decide +kernel
theorem dX3_write_71 : decode cX3_write 71 = .ok (.iload 10, 2) := by decide +kernel
theorem dX3_write_73 : decode cX3_write 73 = .ok (.iload 6, 2) := by decide +kernel
theorem dX3_write_75 : decode cX3_write 75 = .ok (.invokevirtual 105, 3) := by decide +kernel
theorem dX3_write_78 : decode cX3_write 78 = .ok (.istore 11, 2) := by decide +kernel
theorem dX3_write_80 : decode cX3_write 80 = .ok (.iload 11, 2) := by decide +kernel
theorem dX3_write_82 : decode cX3_write 82 = .ok (.ifCond .eq 10, 3) := by decide +kernel
theorem dX3_write_85 : decode cX3_write 85 = .ok (.aload_n 0, 1) := by decide +kernel
theorem dX3_write_86 : decode cX3_write 86 = .ok (.iload 11, 2) := by decide +kernel
theorem dX3_write_88 : decode cX3_write 88 = .ok (.invokevirtual 44, 3) := by decide +kernel
theorem dX3_write_91 : decode cX3_write 91 = .ok (.ireturn, 1) := by decide +kernel
theorem dX3_write_92 : decode cX3_write 92 = .ok (.aload 9, 2) := by decide +kernel
theorem dX3_write_94 : decode cX3_write 94 = .ok (.getfield 95, 3) := by decide +kernel
theorem dX3_write_97 : decode cX3_write 97 = .ok (.iload 10, 2) := by decide +kernel
theorem dX3_write_99 : decode cX3_write 99 = .ok (.iload 6, 2) := by decide +kernel
theorem dX3_write_101 : decode cX3_write 101 = .ok (.lload 7, 2) := by decide +kernel
theorem dX3_write_103 : decode cX3_write 103 = .ok (.invokestatic 108, 3) := by decide +kernel
theorem dX3_write_106 : decode cX3_write 106 = .ok (.iload 6, 2) := by decide +kernel
theorem dX3_write_108 : decode cX3_write 108 = .ok (.aload 9, 2) := by decide +kernel
theorem dX3_write_110 : decode cX3_write 110 = .ok (.getfield 73, 3) := by decide +kernel
theorem dX3_write_113 : decode cX3_write 113 = .ok (.invokestatic 99, 3) := by decide +kernel
theorem dX3_write_116 : decode cX3_write 116 = .ok (.lastore, 1) := by decide +kernel
theorem dX3_write_117 : decode cX3_write 117 = .ok (.iconst 1, 1) := by decide +kernel
theorem dX3_write_118 : decode cX3_write 118 = .ok (.ireturn, 1) := by decide +kernel
set_option maxRecDepth 20000 in
theorem ggX3_hang_X3_isBox : GoodIn wsX3_hang wsX3_isBox := goodIn_r _ [8] (by decide +kernel) (by decide +kernel)
set_option maxRecDepth 20000 in
theorem gX3_hang_X3_isBox : GoodIn wsX3_hang (va_wsS RX3 37 yX3_isBox wsX3_isBox) := goodIn_app (goodIn_of _ (by decide +kernel)) ggX3_hang_X3_isBox
set_option maxRecDepth 20000 in
theorem ggX3_hang_X3_isSteps : GoodIn wsX3_hang wsX3_isSteps := goodIn_r _ [11] (by decide +kernel) (by decide +kernel)
set_option maxRecDepth 20000 in
theorem gX3_hang_X3_isSteps : GoodIn wsX3_hang (va_wsS RX3 51 yX3_isSteps wsX3_isSteps) := goodIn_app (goodIn_of _ (by decide +kernel)) ggX3_hang_X3_isSteps
set_option maxRecDepth 20000 in
theorem ggX3_hang_X3_rowThere : GoodIn wsX3_hang wsX3_rowThere := goodIn_r _ [15, 1, 2, 16, 17, 18, 19, 7, 20, 3, 21, 22, 23, 24, 25, 26, 27, 28, 29, 30, 31, 32, 33, 34, 35, 36, 37, 38, 39, 40, 41, 42, 43, 44, 45, 46, 47, 48, 49, 50, 51, 52, 53, 54, 55, 56, 69, 70, 71, 72, 73, 74, 75, 76, 77, 78, 79, 80, 81, 82, 83, 84] (by decide +kernel) (by decide +kernel)
set_option maxRecDepth 20000 in
theorem gX3_hang_X3_rowThere : GoodIn wsX3_hang (wsV RX3 77 RX3 yX3_rowThere wsX3_rowThere) := goodIn_app (goodIn_of _ (by decide +kernel)) ggX3_hang_X3_rowThere
set_option maxRecDepth 20000 in
theorem ggX3_hang_X3_met : GoodIn wsX3_hang wsX3_met := goodIn_r _ [60, 61, 69, 70, 71, 72, 73, 74] (by decide +kernel) (by decide +kernel)
set_option maxRecDepth 20000 in
theorem gX3_hang_X3_met : GoodIn wsX3_hang (wsV RX3 44 RX3 yX3_met wsX3_met) := goodIn_app (goodIn_of _ (by decide +kernel)) ggX3_hang_X3_met
set_option maxRecDepth 20000 in
theorem ggX3_hang_X3_placeOfStep : GoodIn wsX3_hang wsX3_placeOfStep := goodIn_r _ [31] (by decide +kernel) (by decide +kernel)
set_option maxRecDepth 20000 in
theorem gX3_hang_X3_placeOfStep : GoodIn wsX3_hang (va_wsS RX3 87 yX3_placeOfStep wsX3_placeOfStep) := goodIn_app (goodIn_of _ (by decide +kernel)) ggX3_hang_X3_placeOfStep
set_option maxRecDepth 20000 in
theorem ggX3_hang_X2_causeToHang : GoodIn wsX3_hang wsX2_causeToHang := goodIn_r _ [65, 66, 55, 67, 52, 53, 48, 54, 68, 46, 47, 49, 50, 80, 81, 82, 83, 84] (by decide +kernel) (by decide +kernel)
set_option maxRecDepth 20000 in
theorem gX3_hang_X2_causeToHang : GoodIn wsX3_hang (wsV RX3 112 RX2 yX2_causeToHang wsX2_causeToHang) := goodIn_app (goodIn_of _ (by decide +kernel)) ggX3_hang_X2_causeToHang
theorem dX3_hang_0 : decode cX3_hang 0 = .ok (.iload_n 1, 1) := by decide +kernel
theorem dX3_hang_1 : decode cX3_hang 1 = .ok (.invokestatic 37, 3) := by decide +kernel
theorem dX3_hang_4 : decode cX3_hang 4 = .ok (.ifCond .eq 20, 3) := by decide +kernel
theorem dX3_hang_7 : decode cX3_hang 7 = .ok (.iload_n 2, 1) := by decide +kernel
theorem dX3_hang_8 : decode cX3_hang 8 = .ok (.iconst 1, 1) := by decide +kernel
theorem dX3_hang_9 : decode cX3_hang 9 = .ok (.iconst 3, 1) := by decide +kernel
theorem dX3_hang_10 : decode cX3_hang 10 = .ok (.invokestatic 51, 3) := by decide +kernel
theorem dX3_hang_13 : decode cX3_hang 13 = .ok (.ifCond .eq 11, 3) := by decide +kernel
theorem dX3_hang_16 : decode cX3_hang 16 = .ok (.iload 6, 2) := by decide +kernel
theorem dX3_hang_18 : decode cX3_hang 18 = .ok (.invokestatic 37, 3) := by decide +kernel
theorem dX3_hang_21 : decode cX3_hang 21 = .ok (.ifCond .ne 5, 3) := by decide +kernel
theorem dX3_hang_24 : decode cX3_hang 24 = .ok (.iconst (-1), 1) := by decide +kernel
theorem dX3_hang_25 : decode cX3_hang 25 = .ok (.ireturn, 1) := by decide +kernel
theorem dX3_hang_26 : decode cX3_hang 26 = .ok (.aload_n 0, 1) := by decide +kernel
theorem dX3_hang_27 : decode cX3_hang 27 = .ok (.iload_n 1, 1) := by decide +kernel
theorem dX3_hang_28 : decode cX3_hang 28 = .ok (.iload_n 2, 1) := by decide +kernel
theorem dX3_hang_29 : decode cX3_hang 29 = .ok (.iconst 1, 1) := by decide +kernel
theorem dX3_hang_30 : decode cX3_hang 30 = .ok (.isub, 1) := by decide +kernel
theorem dX3_hang_31 : decode cX3_hang 31 = .ok (.iload_n 3, 1) := by decide +kernel
theorem dX3_hang_32 : decode cX3_hang 32 = .ok (.iload 4, 2) := by decide +kernel
theorem dX3_hang_34 : decode cX3_hang 34 = .ok (.iload 5, 2) := by decide +kernel
theorem dX3_hang_36 : decode cX3_hang 36 = .ok (.invokevirtual 77, 3) := by decide +kernel
theorem dX3_hang_39 : decode cX3_hang 39 = .ok (.astore 7, 2) := by decide +kernel
theorem dX3_hang_41 : decode cX3_hang 41 = .ok (.aload 7, 2) := by decide +kernel
theorem dX3_hang_43 : decode cX3_hang 43 = .ok (.ifnonnull 15, 3) := by decide +kernel
theorem dX3_hang_46 : decode cX3_hang 46 = .ok (.aload_n 0, 1) := by decide +kernel
theorem dX3_hang_47 : decode cX3_hang 47 = .ok (.aload_n 0, 1) := by decide +kernel
theorem dX3_hang_48 : decode cX3_hang 48 = .ok (.getfield 22, 3) := by decide +kernel
theorem dX3_hang_51 : decode cX3_hang 51 = .ok (.getfield 81, 3) := by decide +kernel
theorem dX3_hang_54 : decode cX3_hang 54 = .ok (.invokevirtual 44, 3) := by decide +kernel
theorem dX3_hang_57 : decode cX3_hang 57 = .ok (.ireturn, 1) := by decide +kernel
theorem dX3_hang_58 : decode cX3_hang 58 = .ok (.iload_n 2, 1) := by decide +kernel
theorem dX3_hang_59 : decode cX3_hang 59 = .ok (.iload_n 3, 1) := by decide +kernel
theorem dX3_hang_60 : decode cX3_hang 60 = .ok (.iload 4, 2) := by decide +kernel
theorem dX3_hang_62 : decode cX3_hang 62 = .ok (.iload 5, 2) := by decide +kernel
theorem dX3_hang_64 : decode cX3_hang 64 = .ok (.invokestatic 87, 3) := by decide +kernel
theorem dX3_hang_67 : decode cX3_hang 67 = .ok (.istore 8, 2) := by decide +kernel
theorem dX3_hang_69 : decode cX3_hang 69 = .ok (.aload 7, 2) := by decide +kernel
theorem dX3_hang_71 : decode cX3_hang 71 = .ok (.iload 8, 2) := by decide +kernel
theorem dX3_hang_73 : decode cX3_hang 73 = .ok (.aload_n 0, 1) := by decide +kernel
theorem dX3_hang_74 : decode cX3_hang 74 = .ok (.getfield 11, 3) := by decide +kernel
theorem dX3_hang_77 : decode cX3_hang 77 = .ok (.iload 6, 2) := by decide +kernel
theorem dX3_hang_79 : decode cX3_hang 79 = .ok (.aaload, 1) := by decide +kernel
theorem dX3_hang_80 : decode cX3_hang 80 = .ok (.invokevirtual 112, 3) := by decide +kernel
theorem dX3_hang_83 : decode cX3_hang 83 = .ok (.istore 9, 2) := by decide +kernel
theorem dX3_hang_85 : decode cX3_hang 85 = .ok (.iload 9, 2) := by decide +kernel
theorem dX3_hang_87 : decode cX3_hang 87 = .ok (.ifCond .eq 10, 3) := by decide +kernel
theorem dX3_hang_90 : decode cX3_hang 90 = .ok (.aload_n 0, 1) := by decide +kernel
theorem dX3_hang_91 : decode cX3_hang 91 = .ok (.iload 9, 2) := by decide +kernel
theorem dX3_hang_93 : decode cX3_hang 93 = .ok (.invokevirtual 44, 3) := by decide +kernel
theorem dX3_hang_96 : decode cX3_hang 96 = .ok (.ireturn, 1) := by decide +kernel
theorem dX3_hang_97 : decode cX3_hang 97 = .ok (.aload 7, 2) := by decide +kernel
theorem dX3_hang_99 : decode cX3_hang 99 = .ok (.getfield 116, 3) := by decide +kernel
theorem dX3_hang_102 : decode cX3_hang 102 = .ok (.iload 8, 2) := by decide +kernel
theorem dX3_hang_104 : decode cX3_hang 104 = .ok (.aload_n 0, 1) := by decide +kernel
theorem dX3_hang_105 : decode cX3_hang 105 = .ok (.getfield 11, 3) := by decide +kernel
theorem dX3_hang_108 : decode cX3_hang 108 = .ok (.iload 6, 2) := by decide +kernel
theorem dX3_hang_110 : decode cX3_hang 110 = .ok (.aaload, 1) := by decide +kernel
theorem dX3_hang_111 : decode cX3_hang 111 = .ok (.aastore, 1) := by decide +kernel
theorem dX3_hang_112 : decode cX3_hang 112 = .ok (.iconst 1, 1) := by decide +kernel
theorem dX3_hang_113 : decode cX3_hang 113 = .ok (.ireturn, 1) := by decide +kernel
set_option maxRecDepth 20000 in
theorem ggX3_lift_X3_isBox : GoodIn wsX3_lift wsX3_isBox := goodIn_r _ [8] (by decide +kernel) (by decide +kernel)
set_option maxRecDepth 20000 in
theorem gX3_lift_X3_isBox : GoodIn wsX3_lift (va_wsS RX3 37 yX3_isBox wsX3_isBox) := goodIn_app (goodIn_of _ (by decide +kernel)) ggX3_lift_X3_isBox
set_option maxRecDepth 20000 in
theorem ggX3_lift_X3_isSteps : GoodIn wsX3_lift wsX3_isSteps := goodIn_r _ [11] (by decide +kernel) (by decide +kernel)
set_option maxRecDepth 20000 in
theorem gX3_lift_X3_isSteps : GoodIn wsX3_lift (va_wsS RX3 51 yX3_isSteps wsX3_isSteps) := goodIn_app (goodIn_of _ (by decide +kernel)) ggX3_lift_X3_isSteps
set_option maxRecDepth 20000 in
theorem ggX3_lift_X3_walk : GoodIn wsX3_lift wsX3_walk := goodIn_r _ [15, 1, 3, 16, 17, 18, 19, 20, 21, 22, 23, 24, 25, 26, 7, 27, 28, 29, 30, 31, 32, 33, 34, 35, 36, 37, 38, 39, 40, 41, 42, 43, 44, 45, 46, 47, 48, 49, 50, 51, 57, 58, 59, 60, 61, 62, 63, 64, 65, 66, 67, 68, 69, 70, 71, 72] (by decide +kernel) (by decide +kernel)
set_option maxRecDepth 20000 in
theorem gX3_lift_X3_walk : GoodIn wsX3_lift (wsV RX3 55 RX3 yX3_walk wsX3_walk) := goodIn_app (goodIn_of _ (by decide +kernel)) ggX3_lift_X3_walk
set_option maxRecDepth 20000 in
theorem ggX3_lift_X3_met : GoodIn wsX3_lift wsX3_met := goodIn_r _ [55, 56, 57, 58, 59, 60, 61, 62] (by decide +kernel) (by decide +kernel)
set_option maxRecDepth 20000 in
theorem gX3_lift_X3_met : GoodIn wsX3_lift (wsV RX3 44 RX3 yX3_met wsX3_met) := goodIn_app (goodIn_of _ (by decide +kernel)) ggX3_lift_X3_met
theorem dX3_lift_0 : decode cX3_lift 0 = .ok (.iload_n 1, 1) := by decide +kernel
theorem dX3_lift_1 : decode cX3_lift 1 = .ok (.invokestatic 37, 3) := by decide +kernel
theorem dX3_lift_4 : decode cX3_lift 4 = .ok (.ifCond .eq 20, 3) := by decide +kernel
theorem dX3_lift_7 : decode cX3_lift 7 = .ok (.iload_n 2, 1) := by decide +kernel
theorem dX3_lift_8 : decode cX3_lift 8 = .ok (.iconst 1, 1) := by decide +kernel
theorem dX3_lift_9 : decode cX3_lift 9 = .ok (.iconst 3, 1) := by decide +kernel
theorem dX3_lift_10 : decode cX3_lift 10 = .ok (.invokestatic 51, 3) := by decide +kernel
theorem dX3_lift_13 : decode cX3_lift 13 = .ok (.ifCond .eq 11, 3) := by decide +kernel
theorem dX3_lift_16 : decode cX3_lift 16 = .ok (.iload 6, 2) := by decide +kernel
theorem dX3_lift_18 : decode cX3_lift 18 = .ok (.invokestatic 37, 3) := by decide +kernel
theorem dX3_lift_21 : decode cX3_lift 21 = .ok (.ifCond .ne 5, 3) := by decide +kernel
theorem dX3_lift_24 : decode cX3_lift 24 = .ok (.iconst (-1), 1) := by decide +kernel
theorem dX3_lift_25 : decode cX3_lift 25 = .ok (.ireturn, 1) := by decide +kernel
theorem dX3_lift_26 : decode cX3_lift 26 = .ok (.aload_n 0, 1) := by decide +kernel
theorem dX3_lift_27 : decode cX3_lift 27 = .ok (.iload_n 1, 1) := by decide +kernel
theorem dX3_lift_28 : decode cX3_lift 28 = .ok (.iload_n 2, 1) := by decide +kernel
theorem dX3_lift_29 : decode cX3_lift 29 = .ok (.iload_n 3, 1) := by decide +kernel
theorem dX3_lift_30 : decode cX3_lift 30 = .ok (.iload 4, 2) := by decide +kernel
theorem dX3_lift_32 : decode cX3_lift 32 = .ok (.iload 5, 2) := by decide +kernel
theorem dX3_lift_34 : decode cX3_lift 34 = .ok (.invokevirtual 55, 3) := by decide +kernel
theorem dX3_lift_37 : decode cX3_lift 37 = .ok (.istore 7, 2) := by decide +kernel
theorem dX3_lift_39 : decode cX3_lift 39 = .ok (.iload 7, 2) := by decide +kernel
theorem dX3_lift_41 : decode cX3_lift 41 = .ok (.ifCond .ne 16, 3) := by decide +kernel
theorem dX3_lift_44 : decode cX3_lift 44 = .ok (.aload_n 0, 1) := by decide +kernel
theorem dX3_lift_45 : decode cX3_lift 45 = .ok (.getfield 22, 3) := by decide +kernel
theorem dX3_lift_48 : decode cX3_lift 48 = .ok (.getfield 59, 3) := by decide +kernel
theorem dX3_lift_51 : decode cX3_lift 51 = .ok (.ifCond .eq 6, 3) := by decide +kernel
theorem dX3_lift_54 : decode cX3_lift 54 = .ok (.iconst 2, 1) := by decide +kernel
theorem dX3_lift_55 : decode cX3_lift 55 = .ok (.istore 7, 2) := by decide +kernel
theorem dX3_lift_57 : decode cX3_lift 57 = .ok (.iload 7, 2) := by decide +kernel
theorem dX3_lift_59 : decode cX3_lift 59 = .ok (.ifCond .eq 10, 3) := by decide +kernel
theorem dX3_lift_62 : decode cX3_lift 62 = .ok (.aload_n 0, 1) := by decide +kernel
theorem dX3_lift_63 : decode cX3_lift 63 = .ok (.iload 7, 2) := by decide +kernel
theorem dX3_lift_65 : decode cX3_lift 65 = .ok (.invokevirtual 44, 3) := by decide +kernel
theorem dX3_lift_68 : decode cX3_lift 68 = .ok (.ireturn, 1) := by decide +kernel
theorem dX3_lift_69 : decode cX3_lift 69 = .ok (.aload_n 0, 1) := by decide +kernel
theorem dX3_lift_70 : decode cX3_lift 70 = .ok (.getfield 11, 3) := by decide +kernel
theorem dX3_lift_73 : decode cX3_lift 73 = .ok (.iload 6, 2) := by decide +kernel
theorem dX3_lift_75 : decode cX3_lift 75 = .ok (.aload_n 0, 1) := by decide +kernel
theorem dX3_lift_76 : decode cX3_lift 76 = .ok (.getfield 22, 3) := by decide +kernel
theorem dX3_lift_79 : decode cX3_lift 79 = .ok (.getfield 69, 3) := by decide +kernel
theorem dX3_lift_82 : decode cX3_lift 82 = .ok (.aastore, 1) := by decide +kernel
theorem dX3_lift_83 : decode cX3_lift 83 = .ok (.aload_n 0, 1) := by decide +kernel
theorem dX3_lift_84 : decode cX3_lift 84 = .ok (.getfield 11, 3) := by decide +kernel
theorem dX3_lift_87 : decode cX3_lift 87 = .ok (.iload 6, 2) := by decide +kernel
theorem dX3_lift_89 : decode cX3_lift 89 = .ok (.aaload, 1) := by decide +kernel
theorem dX3_lift_90 : decode cX3_lift 90 = .ok (.ifnonnull 7, 3) := by decide +kernel
theorem dX3_lift_93 : decode cX3_lift 93 = .ok (.iconst 0, 1) := by decide +kernel
theorem dX3_lift_94 : decode cX3_lift 94 = .ok (.goto 4, 3) := by decide +kernel
theorem dX3_lift_97 : decode cX3_lift 97 = .ok (.iconst 1, 1) := by decide +kernel
theorem dX3_lift_98 : decode cX3_lift 98 = .ok (.ireturn, 1) := by decide +kernel
set_option maxRecDepth 20000 in
theorem ggX3_turn_X3_isBox : GoodIn wsX3_turn wsX3_isBox := goodIn_r _ [6] (by decide +kernel) (by decide +kernel)
set_option maxRecDepth 20000 in
theorem gX3_turn_X3_isBox : GoodIn wsX3_turn (va_wsS RX3 37 yX3_isBox wsX3_isBox) := goodIn_app (goodIn_of _ (by decide +kernel)) ggX3_turn_X3_isBox
set_option maxRecDepth 20000 in
theorem ggX3_turn_X3_isSteps : GoodIn wsX3_turn wsX3_isSteps := goodIn_r _ [9] (by decide +kernel) (by decide +kernel)
set_option maxRecDepth 20000 in
theorem gX3_turn_X3_isSteps : GoodIn wsX3_turn (va_wsS RX3 51 yX3_isSteps wsX3_isSteps) := goodIn_app (goodIn_of _ (by decide +kernel)) ggX3_turn_X3_isSteps
set_option maxRecDepth 20000 in
theorem ggX3_turn_X3_rowThere : GoodIn wsX3_turn wsX3_rowThere := goodIn_r _ [13, 1, 2, 14, 15, 16, 17, 5, 18, 19, 20, 21, 22, 23, 24, 25, 26, 27, 28, 29, 30, 31, 32, 33, 34, 35, 36, 37, 38, 39, 40, 41, 42, 43, 44, 45, 46, 47, 48, 49, 50, 51, 52, 53, 54, 55, 69, 70, 71, 72, 73, 74, 75, 76, 77, 78, 79, 80, 81, 82, 83, 84] (by decide +kernel) (by decide +kernel)
set_option maxRecDepth 20000 in
theorem gX3_turn_X3_rowThere : GoodIn wsX3_turn (wsV RX3 77 RX3 yX3_rowThere wsX3_rowThere) := goodIn_app (goodIn_of _ (by decide +kernel)) ggX3_turn_X3_rowThere
set_option maxRecDepth 20000 in
theorem ggX3_turn_X3_met : GoodIn wsX3_turn wsX3_met := goodIn_r _ [59, 60, 69, 70, 71, 72, 73, 74] (by decide +kernel) (by decide +kernel)
set_option maxRecDepth 20000 in
theorem gX3_turn_X3_met : GoodIn wsX3_turn (wsV RX3 44 RX3 yX3_met wsX3_met) := goodIn_app (goodIn_of _ (by decide +kernel)) ggX3_turn_X3_met
set_option maxRecDepth 20000 in
theorem ggX3_turn_X2_hasPlace : GoodIn wsX3_turn wsX2_hasPlace := goodIn_r _ [48, 49, 80, 81, 82, 83, 84] (by decide +kernel) (by decide +kernel)
set_option maxRecDepth 20000 in
theorem gX3_turn_X2_hasPlace : GoodIn wsX3_turn (wsV RX3 119 RX2 yX2_hasPlace wsX2_hasPlace) := goodIn_app (goodIn_of _ (by decide +kernel)) ggX3_turn_X2_hasPlace
set_option maxRecDepth 20000 in
theorem ggX3_turn_X2_exchange : GoodIn wsX3_turn wsX2_exchange := goodIn_r _ [65, 66, 67, 68, 51, 52, 47, 53, 54, 80, 81, 82, 83, 84] (by decide +kernel) (by decide +kernel)
set_option maxRecDepth 20000 in
theorem gX3_turn_X2_exchange : GoodIn wsX3_turn (wsV RX3 122 RX2 yX2_exchange wsX2_exchange) := goodIn_app (goodIn_of _ (by decide +kernel)) ggX3_turn_X2_exchange
theorem dX3_turn_0 : decode cX3_turn 0 = .ok (.iload_n 1, 1) := by decide +kernel
theorem dX3_turn_1 : decode cX3_turn 1 = .ok (.invokestatic 37, 3) := by decide +kernel
theorem dX3_turn_4 : decode cX3_turn 4 = .ok (.ifCond .eq 12, 3) := by decide +kernel
theorem dX3_turn_7 : decode cX3_turn 7 = .ok (.iload_n 2, 1) := by decide +kernel
theorem dX3_turn_8 : decode cX3_turn 8 = .ok (.iconst 0, 1) := by decide +kernel
theorem dX3_turn_9 : decode cX3_turn 9 = .ok (.iconst 2, 1) := by decide +kernel
theorem dX3_turn_10 : decode cX3_turn 10 = .ok (.invokestatic 51, 3) := by decide +kernel
theorem dX3_turn_13 : decode cX3_turn 13 = .ok (.ifCond .ne 5, 3) := by decide +kernel
theorem dX3_turn_16 : decode cX3_turn 16 = .ok (.iconst (-1), 1) := by decide +kernel
theorem dX3_turn_17 : decode cX3_turn 17 = .ok (.ireturn, 1) := by decide +kernel
theorem dX3_turn_18 : decode cX3_turn 18 = .ok (.aload_n 0, 1) := by decide +kernel
theorem dX3_turn_19 : decode cX3_turn 19 = .ok (.iload_n 1, 1) := by decide +kernel
theorem dX3_turn_20 : decode cX3_turn 20 = .ok (.iload_n 2, 1) := by decide +kernel
theorem dX3_turn_21 : decode cX3_turn 21 = .ok (.iload_n 3, 1) := by decide +kernel
theorem dX3_turn_22 : decode cX3_turn 22 = .ok (.iload 4, 2) := by decide +kernel
theorem dX3_turn_24 : decode cX3_turn 24 = .ok (.iconst 0, 1) := by decide +kernel
theorem dX3_turn_25 : decode cX3_turn 25 = .ok (.invokevirtual 77, 3) := by decide +kernel
theorem dX3_turn_28 : decode cX3_turn 28 = .ok (.astore 7, 2) := by decide +kernel
theorem dX3_turn_30 : decode cX3_turn 30 = .ok (.aload 7, 2) := by decide +kernel
theorem dX3_turn_32 : decode cX3_turn 32 = .ok (.ifnonnull 15, 3) := by decide +kernel
theorem dX3_turn_35 : decode cX3_turn 35 = .ok (.aload_n 0, 1) := by decide +kernel
theorem dX3_turn_36 : decode cX3_turn 36 = .ok (.aload_n 0, 1) := by decide +kernel
theorem dX3_turn_37 : decode cX3_turn 37 = .ok (.getfield 22, 3) := by decide +kernel
theorem dX3_turn_40 : decode cX3_turn 40 = .ok (.getfield 81, 3) := by decide +kernel
theorem dX3_turn_43 : decode cX3_turn 43 = .ok (.invokevirtual 44, 3) := by decide +kernel
theorem dX3_turn_46 : decode cX3_turn 46 = .ok (.ireturn, 1) := by decide +kernel
theorem dX3_turn_47 : decode cX3_turn 47 = .ok (.aload 7, 2) := by decide +kernel
theorem dX3_turn_49 : decode cX3_turn 49 = .ok (.iload 5, 2) := by decide +kernel
theorem dX3_turn_51 : decode cX3_turn 51 = .ok (.invokevirtual 119, 3) := by decide +kernel
theorem dX3_turn_54 : decode cX3_turn 54 = .ok (.ifCond .eq 13, 3) := by decide +kernel
theorem dX3_turn_57 : decode cX3_turn 57 = .ok (.aload 7, 2) := by decide +kernel
theorem dX3_turn_59 : decode cX3_turn 59 = .ok (.iload 6, 2) := by decide +kernel
theorem dX3_turn_61 : decode cX3_turn 61 = .ok (.invokevirtual 119, 3) := by decide +kernel
theorem dX3_turn_64 : decode cX3_turn 64 = .ok (.ifCond .ne 9, 3) := by decide +kernel
theorem dX3_turn_67 : decode cX3_turn 67 = .ok (.aload_n 0, 1) := by decide +kernel
theorem dX3_turn_68 : decode cX3_turn 68 = .ok (.iconst 3, 1) := by decide +kernel
theorem dX3_turn_69 : decode cX3_turn 69 = .ok (.invokevirtual 44, 3) := by decide +kernel
theorem dX3_turn_72 : decode cX3_turn 72 = .ok (.ireturn, 1) := by decide +kernel
theorem dX3_turn_73 : decode cX3_turn 73 = .ok (.aload 7, 2) := by decide +kernel
theorem dX3_turn_75 : decode cX3_turn 75 = .ok (.iload 5, 2) := by decide +kernel
theorem dX3_turn_77 : decode cX3_turn 77 = .ok (.iload 6, 2) := by decide +kernel
theorem dX3_turn_79 : decode cX3_turn 79 = .ok (.invokevirtual 122, 3) := by decide +kernel
theorem dX3_turn_82 : decode cX3_turn 82 = .ok (.iconst 1, 1) := by decide +kernel
theorem dX3_turn_83 : decode cX3_turn 83 = .ok (.ireturn, 1) := by decide +kernel
set_option maxRecDepth 20000 in
theorem ggX3_fill_X3_isBox : GoodIn wsX3_fill wsX3_isBox := goodIn_r _ [9] (by decide +kernel) (by decide +kernel)
set_option maxRecDepth 20000 in
theorem gX3_fill_X3_isBox : GoodIn wsX3_fill (va_wsS RX3 37 yX3_isBox wsX3_isBox) := goodIn_app (goodIn_of _ (by decide +kernel)) ggX3_fill_X3_isBox
set_option maxRecDepth 20000 in
theorem ggX3_fill_X3_isSteps : GoodIn wsX3_fill wsX3_isSteps := goodIn_r _ [12] (by decide +kernel) (by decide +kernel)
set_option maxRecDepth 20000 in
theorem gX3_fill_X3_isSteps : GoodIn wsX3_fill (va_wsS RX3 51 yX3_isSteps wsX3_isSteps) := goodIn_app (goodIn_of _ (by decide +kernel)) ggX3_fill_X3_isSteps
set_option maxRecDepth 20000 in
theorem ggX3_fill_X3_isKind : GoodIn wsX3_fill wsX3_isKind := goodIn_r _ [15] (by decide +kernel) (by decide +kernel)
set_option maxRecDepth 20000 in
theorem gX3_fill_X3_isKind : GoodIn wsX3_fill (va_wsS RX3 41 yX3_isKind wsX3_isKind) := goodIn_app (goodIn_of _ (by decide +kernel)) ggX3_fill_X3_isKind
set_option maxRecDepth 20000 in
theorem ggX3_fill_X3_rowThere : GoodIn wsX3_fill wsX3_rowThere := goodIn_r _ [19, 1, 2, 20, 21, 22, 23, 8, 24, 25, 26, 27, 28, 29, 30, 31, 32, 33, 34, 35, 36, 37, 38, 39, 40, 41, 42, 43, 44, 45, 46, 47, 48, 49, 50, 51, 52, 53, 54, 55, 56, 57, 58, 59, 60, 61, 128, 129, 130, 131, 132, 133, 134, 135, 136, 137, 138, 139, 140, 141, 142, 143] (by decide +kernel) (by decide +kernel)
set_option maxRecDepth 20000 in
theorem gX3_fill_X3_rowThere : GoodIn wsX3_fill (wsV RX3 77 RX3 yX3_rowThere wsX3_rowThere) := goodIn_app (goodIn_of _ (by decide +kernel)) ggX3_fill_X3_rowThere
set_option maxRecDepth 20000 in
theorem ggX3_fill_X3_met : GoodIn wsX3_fill wsX3_met := goodIn_r _ [65, 66, 128, 129, 130, 131, 132, 133] (by decide +kernel) (by decide +kernel)
set_option maxRecDepth 20000 in
theorem gX3_fill_X3_met : GoodIn wsX3_fill (wsV RX3 44 RX3 yX3_met wsX3_met) := goodIn_app (goodIn_of _ (by decide +kernel)) ggX3_fill_X3_met
set_option maxRecDepth 20000 in
theorem ggX3_fill_X2_causeToWrite : GoodIn wsX3_fill wsX2_causeToWrite := goodIn_r _ [70, 71, 72, 73, 74, 53, 75, 76, 57, 58, 59, 60, 77, 51, 52, 54, 55, 78, 79, 80, 81, 139, 140, 141, 142, 143] (by decide +kernel) (by decide +kernel)
set_option maxRecDepth 20000 in
theorem gX3_fill_X2_causeToWrite : GoodIn wsX3_fill (wsV RX3 105 RX2 yX2_causeToWrite wsX2_causeToWrite) := goodIn_app (goodIn_of _ (by decide +kernel)) ggX3_fill_X2_causeToWrite
set_option maxRecDepth 20000 in
theorem ggX3_fill_X1_told : GoodIn wsX3_fill wsX1_told := goodIn_r _ [84, 85, 86, 87, 88, 89, 90, 80, 91] (by decide +kernel) (by decide +kernel)
set_option maxRecDepth 20000 in
theorem gX3_fill_X1_told : GoodIn wsX3_fill (va_wsS RX3 108 yX1_told wsX1_told) := goodIn_app (goodIn_of _ (by decide +kernel)) ggX3_fill_X1_told
set_option maxRecDepth 20000 in
theorem ggX3_fill_X1_asKind : GoodIn wsX3_fill wsX1_asKind := goodIn_r _ [94, 95, 96, 80, 97, 85, 88, 87, 98, 99, 89, 90, 91, 100, 101, 102, 103, 104, 105, 106, 107, 108, 109, 110, 111, 112, 113, 114, 115, 116, 117, 118, 119, 120, 121, 122, 123, 124, 125, 126, 127] (by decide +kernel) (by decide +kernel)
set_option maxRecDepth 20000 in
theorem gX3_fill_X1_asKind : GoodIn wsX3_fill (va_wsS RX3 99 yX1_asKind wsX1_asKind) := goodIn_app (goodIn_of _ (by decide +kernel)) ggX3_fill_X1_asKind
theorem dX3_fill_0 : decode cX3_fill 0 = .ok (.iload_n 1, 1) := by decide +kernel
theorem dX3_fill_1 : decode cX3_fill 1 = .ok (.invokestatic 37, 3) := by decide +kernel
theorem dX3_fill_4 : decode cX3_fill 4 = .ok (.ifCond .eq 20, 3) := by decide +kernel
theorem dX3_fill_7 : decode cX3_fill 7 = .ok (.iload_n 2, 1) := by decide +kernel
theorem dX3_fill_8 : decode cX3_fill 8 = .ok (.iconst 0, 1) := by decide +kernel
theorem dX3_fill_9 : decode cX3_fill 9 = .ok (.iconst 2, 1) := by decide +kernel
theorem dX3_fill_10 : decode cX3_fill 10 = .ok (.invokestatic 51, 3) := by decide +kernel
theorem dX3_fill_13 : decode cX3_fill 13 = .ok (.ifCond .eq 11, 3) := by decide +kernel
theorem dX3_fill_16 : decode cX3_fill 16 = .ok (.iload 5, 2) := by decide +kernel
theorem dX3_fill_18 : decode cX3_fill 18 = .ok (.invokestatic 41, 3) := by decide +kernel
theorem dX3_fill_21 : decode cX3_fill 21 = .ok (.ifCond .ne 5, 3) := by decide +kernel
theorem dX3_fill_24 : decode cX3_fill 24 = .ok (.iconst (-1), 1) := by decide +kernel
theorem dX3_fill_25 : decode cX3_fill 25 = .ok (.ireturn, 1) := by decide +kernel
theorem dX3_fill_26 : decode cX3_fill 26 = .ok (.aload_n 0, 1) := by decide +kernel
theorem dX3_fill_27 : decode cX3_fill 27 = .ok (.iload_n 1, 1) := by decide +kernel
theorem dX3_fill_28 : decode cX3_fill 28 = .ok (.iload_n 2, 1) := by decide +kernel
theorem dX3_fill_29 : decode cX3_fill 29 = .ok (.iload_n 3, 1) := by decide +kernel
theorem dX3_fill_30 : decode cX3_fill 30 = .ok (.iload 4, 2) := by decide +kernel
theorem dX3_fill_32 : decode cX3_fill 32 = .ok (.iconst 0, 1) := by decide +kernel
theorem dX3_fill_33 : decode cX3_fill 33 = .ok (.invokevirtual 77, 3) := by decide +kernel
theorem dX3_fill_36 : decode cX3_fill 36 = .ok (.astore 8, 2) := by decide +kernel
theorem dX3_fill_38 : decode cX3_fill 38 = .ok (.aload 8, 2) := by decide +kernel
theorem dX3_fill_40 : decode cX3_fill 40 = .ok (.ifnonnull 15, 3) := by decide +kernel
theorem dX3_fill_43 : decode cX3_fill 43 = .ok (.aload_n 0, 1) := by decide +kernel
theorem dX3_fill_44 : decode cX3_fill 44 = .ok (.aload_n 0, 1) := by decide +kernel
theorem dX3_fill_45 : decode cX3_fill 45 = .ok (.getfield 22, 3) := by decide +kernel
theorem dX3_fill_48 : decode cX3_fill 48 = .ok (.getfield 81, 3) := by decide +kernel
theorem dX3_fill_51 : decode cX3_fill 51 = .ok (.invokevirtual 44, 3) := by decide +kernel
theorem dX3_fill_54 : decode cX3_fill 54 = .ok (.ireturn, 1) := by decide +kernel
theorem dX3_fill_55 : decode cX3_fill 55 = .ok (.aload 8, 2) := by decide +kernel
theorem dX3_fill_57 : decode cX3_fill 57 = .ok (.getfield 84, 3) := by decide +kernel
theorem dX3_fill_60 : decode cX3_fill 60 = .ok (.ifCond .ne 5, 3) := by decide +kernel
theorem dX3_fill_63 : decode cX3_fill 63 = .ok (.iconst 0, 1) := by decide +kernel
theorem dX3_fill_64 : decode cX3_fill 64 = .ok (.ireturn, 1) := by decide +kernel
theorem dX3_fill_65 : decode cX3_fill 65 = .ok (.aload 8, 2) := by decide +kernel
theorem dX3_fill_67 : decode cX3_fill 67 = .ok (.iconst 0, 1) := by decide +kernel
theorem dX3_fill_68 : decode cX3_fill 68 = .ok (.iload 5, 2) := by decide +kernel
theorem dX3_fill_70 : decode cX3_fill 70 = .ok (.invokevirtual 105, 3) := by decide +kernel
theorem dX3_fill_73 : decode cX3_fill 73 = .ok (.istore 9, 2) := by decide +kernel
theorem dX3_fill_75 : decode cX3_fill 75 = .ok (.iload 9, 2) := by decide +kernel
theorem dX3_fill_77 : decode cX3_fill 77 = .ok (.ifCond .eq 10, 3) := by decide +kernel
theorem dX3_fill_80 : decode cX3_fill 80 = .ok (.aload_n 0, 1) := by decide +kernel
theorem dX3_fill_81 : decode cX3_fill 81 = .ok (.iload 9, 2) := by decide +kernel
theorem dX3_fill_83 : decode cX3_fill 83 = .ok (.invokevirtual 44, 3) := by decide +kernel
theorem dX3_fill_86 : decode cX3_fill 86 = .ok (.ireturn, 1) := by decide +kernel
theorem dX3_fill_87 : decode cX3_fill 87 = .ok (.iload 5, 2) := by decide +kernel
theorem dX3_fill_89 : decode cX3_fill 89 = .ok (.lload 6, 2) := by decide +kernel
theorem dX3_fill_91 : decode cX3_fill 91 = .ok (.invokestatic 108, 3) := by decide +kernel
theorem dX3_fill_94 : decode cX3_fill 94 = .ok (.iload 5, 2) := by decide +kernel
theorem dX3_fill_96 : decode cX3_fill 96 = .ok (.aload 8, 2) := by decide +kernel
theorem dX3_fill_98 : decode cX3_fill 98 = .ok (.getfield 73, 3) := by decide +kernel
theorem dX3_fill_101 : decode cX3_fill 101 = .ok (.invokestatic 99, 3) := by decide +kernel
theorem dX3_fill_104 : decode cX3_fill 104 = .ok (.lstore 10, 2) := by decide +kernel
theorem dX3_fill_106 : decode cX3_fill 106 = .ok (.iconst 0, 1) := by decide +kernel
theorem dX3_fill_107 : decode cX3_fill 107 = .ok (.istore 12, 2) := by decide +kernel
theorem dX3_fill_109 : decode cX3_fill 109 = .ok (.iload 12, 2) := by decide +kernel
theorem dX3_fill_111 : decode cX3_fill 111 = .ok (.aload 8, 2) := by decide +kernel
theorem dX3_fill_113 : decode cX3_fill 113 = .ok (.getfield 95, 3) := by decide +kernel
theorem dX3_fill_116 : decode cX3_fill 116 = .ok (.arraylength, 1) := by decide +kernel
theorem dX3_fill_117 : decode cX3_fill 117 = .ok (.if_icmp .ge 19, 3) := by decide +kernel
theorem dX3_fill_120 : decode cX3_fill 120 = .ok (.aload 8, 2) := by decide +kernel
theorem dX3_fill_122 : decode cX3_fill 122 = .ok (.getfield 95, 3) := by decide +kernel
theorem dX3_fill_125 : decode cX3_fill 125 = .ok (.iload 12, 2) := by decide +kernel
theorem dX3_fill_127 : decode cX3_fill 127 = .ok (.lload 10, 2) := by decide +kernel
theorem dX3_fill_129 : decode cX3_fill 129 = .ok (.lastore, 1) := by decide +kernel
theorem dX3_fill_130 : decode cX3_fill 130 = .ok (.iinc 12 1, 3) := by decide +kernel
theorem dX3_fill_133 : decode cX3_fill 133 = .ok (.goto (-24), 3) := by decide +kernel
theorem dX3_fill_136 : decode cX3_fill 136 = .ok (.aload 8, 2) := by decide +kernel
theorem dX3_fill_138 : decode cX3_fill 138 = .ok (.getfield 84, 3) := by decide +kernel
theorem dX3_fill_141 : decode cX3_fill 141 = .ok (.ireturn, 1) := by decide +kernel
set_option maxRecDepth 20000 in
theorem ggX3_pour_X3_isBox : GoodIn wsX3_pour wsX3_isBox := goodIn_r _ [7] (by decide +kernel) (by decide +kernel)
set_option maxRecDepth 20000 in
theorem gX3_pour_X3_isBox : GoodIn wsX3_pour (va_wsS RX3 37 yX3_isBox wsX3_isBox) := goodIn_app (goodIn_of _ (by decide +kernel)) ggX3_pour_X3_isBox
set_option maxRecDepth 20000 in
theorem ggX3_pour_X3_met : GoodIn wsX3_pour wsX3_met := goodIn_r _ [11, 12, 85, 86, 87, 88, 89, 90] (by decide +kernel) (by decide +kernel)
set_option maxRecDepth 20000 in
theorem gX3_pour_X3_met : GoodIn wsX3_pour (wsV RX3 44 RX3 yX3_met wsX3_met) := goodIn_app (goodIn_of _ (by decide +kernel)) ggX3_pour_X3_met
set_option maxRecDepth 20000 in
theorem ggX3_pour_X2_causeToPour : GoodIn wsX3_pour wsX2_causeToPour := goodIn_r _ [17, 18, 19, 20, 21, 22, 16, 23, 24, 25, 26, 27, 28, 29, 30, 31, 32, 33, 34, 35, 36, 37, 91, 92, 93, 94, 95] (by decide +kernel) (by decide +kernel)
set_option maxRecDepth 20000 in
theorem gX3_pour_X2_causeToPour : GoodIn wsX3_pour (wsV RX3 126 RX2 yX2_causeToPour wsX2_causeToPour) := goodIn_app (goodIn_of _ (by decide +kernel)) ggX3_pour_X2_causeToPour
set_option maxRecDepth 20000 in
theorem ggX3_pour_X2_pourIn : GoodIn wsX3_pour wsX2_pourIn := goodIn_r _ [41, 42, 19, 18, 20, 21, 22, 16, 23, 24, 43, 44, 36, 45, 46, 47, 48, 49, 50, 51, 52, 53, 54, 55, 56, 57, 58, 59, 60, 61, 62, 63, 64, 65, 66, 67, 68, 69, 70, 71, 72, 73, 74, 75, 76, 77, 78, 79, 80, 81, 82, 83, 84, 91, 92, 93, 94, 95] (by decide +kernel) (by decide +kernel)
set_option maxRecDepth 20000 in
theorem gX3_pour_X2_pourIn : GoodIn wsX3_pour (wsV RX3 129 RX2 yX2_pourIn wsX2_pourIn) := goodIn_app (goodIn_of _ (by decide +kernel)) ggX3_pour_X2_pourIn
theorem dX3_pour_0 : decode cX3_pour 0 = .ok (.iload_n 1, 1) := by decide +kernel
theorem dX3_pour_1 : decode cX3_pour 1 = .ok (.invokestatic 37, 3) := by decide +kernel
theorem dX3_pour_4 : decode cX3_pour 4 = .ok (.ifCond .eq 10, 3) := by decide +kernel
theorem dX3_pour_7 : decode cX3_pour 7 = .ok (.iload_n 2, 1) := by decide +kernel
theorem dX3_pour_8 : decode cX3_pour 8 = .ok (.invokestatic 37, 3) := by decide +kernel
theorem dX3_pour_11 : decode cX3_pour 11 = .ok (.ifCond .ne 5, 3) := by decide +kernel
theorem dX3_pour_14 : decode cX3_pour 14 = .ok (.iconst (-1), 1) := by decide +kernel
theorem dX3_pour_15 : decode cX3_pour 15 = .ok (.ireturn, 1) := by decide +kernel
theorem dX3_pour_16 : decode cX3_pour 16 = .ok (.aload_n 0, 1) := by decide +kernel
theorem dX3_pour_17 : decode cX3_pour 17 = .ok (.iconst 0, 1) := by decide +kernel
theorem dX3_pour_18 : decode cX3_pour 18 = .ok (.putfield 30, 3) := by decide +kernel
theorem dX3_pour_21 : decode cX3_pour 21 = .ok (.aload_n 0, 1) := by decide +kernel
theorem dX3_pour_22 : decode cX3_pour 22 = .ok (.getfield 11, 3) := by decide +kernel
theorem dX3_pour_25 : decode cX3_pour 25 = .ok (.iload_n 1, 1) := by decide +kernel
theorem dX3_pour_26 : decode cX3_pour 26 = .ok (.aaload, 1) := by decide +kernel
theorem dX3_pour_27 : decode cX3_pour 27 = .ok (.astore_n 3, 1) := by decide +kernel
theorem dX3_pour_28 : decode cX3_pour 28 = .ok (.aload_n 0, 1) := by decide +kernel
theorem dX3_pour_29 : decode cX3_pour 29 = .ok (.getfield 11, 3) := by decide +kernel
theorem dX3_pour_32 : decode cX3_pour 32 = .ok (.iload_n 2, 1) := by decide +kernel
theorem dX3_pour_33 : decode cX3_pour 33 = .ok (.aaload, 1) := by decide +kernel
theorem dX3_pour_34 : decode cX3_pour 34 = .ok (.astore 4, 2) := by decide +kernel
theorem dX3_pour_36 : decode cX3_pour 36 = .ok (.aload_n 3, 1) := by decide +kernel
theorem dX3_pour_37 : decode cX3_pour 37 = .ok (.ifnull 8, 3) := by decide +kernel
theorem dX3_pour_40 : decode cX3_pour 40 = .ok (.aload 4, 2) := by decide +kernel
theorem dX3_pour_42 : decode cX3_pour 42 = .ok (.ifnonnull 9, 3) := by decide +kernel
theorem dX3_pour_45 : decode cX3_pour 45 = .ok (.aload_n 0, 1) := by decide +kernel
theorem dX3_pour_46 : decode cX3_pour 46 = .ok (.iconst 1, 1) := by decide +kernel
theorem dX3_pour_47 : decode cX3_pour 47 = .ok (.invokevirtual 44, 3) := by decide +kernel
theorem dX3_pour_50 : decode cX3_pour 50 = .ok (.ireturn, 1) := by decide +kernel
theorem dX3_pour_51 : decode cX3_pour 51 = .ok (.iconst 0, 1) := by decide +kernel
theorem dX3_pour_52 : decode cX3_pour 52 = .ok (.istore 5, 2) := by decide +kernel
theorem dX3_pour_54 : decode cX3_pour 54 = .ok (.iload 5, 2) := by decide +kernel
theorem dX3_pour_56 : decode cX3_pour 56 = .ok (.aload_n 3, 1) := by decide +kernel
theorem dX3_pour_57 : decode cX3_pour 57 = .ok (.getfield 84, 3) := by decide +kernel
theorem dX3_pour_60 : decode cX3_pour 60 = .ok (.if_icmp .ge 49, 3) := by decide +kernel
theorem dX3_pour_63 : decode cX3_pour 63 = .ok (.aload 4, 2) := by decide +kernel
theorem dX3_pour_65 : decode cX3_pour 65 = .ok (.iload 5, 2) := by decide +kernel
theorem dX3_pour_67 : decode cX3_pour 67 = .ok (.aload_n 3, 1) := by decide +kernel
theorem dX3_pour_68 : decode cX3_pour 68 = .ok (.invokevirtual 126, 3) := by decide +kernel
theorem dX3_pour_71 : decode cX3_pour 71 = .ok (.istore 6, 2) := by decide +kernel
theorem dX3_pour_73 : decode cX3_pour 73 = .ok (.iload 6, 2) := by decide +kernel
theorem dX3_pour_75 : decode cX3_pour 75 = .ok (.ifCond .eq 10, 3) := by decide +kernel
theorem dX3_pour_78 : decode cX3_pour 78 = .ok (.aload_n 0, 1) := by decide +kernel
theorem dX3_pour_79 : decode cX3_pour 79 = .ok (.iload 6, 2) := by decide +kernel
theorem dX3_pour_81 : decode cX3_pour 81 = .ok (.invokevirtual 44, 3) := by decide +kernel
theorem dX3_pour_84 : decode cX3_pour 84 = .ok (.ireturn, 1) := by decide +kernel
theorem dX3_pour_85 : decode cX3_pour 85 = .ok (.aload 4, 2) := by decide +kernel
theorem dX3_pour_87 : decode cX3_pour 87 = .ok (.iload 5, 2) := by decide +kernel
theorem dX3_pour_89 : decode cX3_pour 89 = .ok (.aload_n 3, 1) := by decide +kernel
theorem dX3_pour_90 : decode cX3_pour 90 = .ok (.invokevirtual 129, 3) := by decide +kernel
theorem dX3_pour_93 : decode cX3_pour 93 = .ok (.aload_n 0, 1) := by decide +kernel
theorem dX3_pour_94 : decode cX3_pour 94 = .ok (.dup, 1) := by decide +kernel
theorem dX3_pour_95 : decode cX3_pour 95 = .ok (.getfield 30, 3) := by decide +kernel
theorem dX3_pour_98 : decode cX3_pour 98 = .ok (.iconst 1, 1) := by decide +kernel
theorem dX3_pour_99 : decode cX3_pour 99 = .ok (.iadd, 1) := by decide +kernel
theorem dX3_pour_100 : decode cX3_pour 100 = .ok (.putfield 30, 3) := by decide +kernel
theorem dX3_pour_103 : decode cX3_pour 103 = .ok (.iinc 5 1, 3) := by decide +kernel
theorem dX3_pour_106 : decode cX3_pour 106 = .ok (.goto (-52), 3) := by decide +kernel
theorem dX3_pour_109 : decode cX3_pour 109 = .ok (.aload_n 0, 1) := by decide +kernel
theorem dX3_pour_110 : decode cX3_pour 110 = .ok (.getfield 30, 3) := by decide +kernel
theorem dX3_pour_113 : decode cX3_pour 113 = .ok (.ireturn, 1) := by decide +kernel
theorem dX3_moved_0 : decode cX3_moved 0 = .ok (.aload_n 0, 1) := by decide +kernel
theorem dX3_moved_1 : decode cX3_moved 1 = .ok (.getfield 30, 3) := by decide +kernel
theorem dX3_moved_4 : decode cX3_moved 4 = .ok (.ireturn, 1) := by decide +kernel
set_option maxRecDepth 20000 in
theorem ggX3_total_X3_isBox : GoodIn wsX3_total wsX3_isBox := goodIn_r _ [8] (by decide +kernel) (by decide +kernel)
set_option maxRecDepth 20000 in
theorem gX3_total_X3_isBox : GoodIn wsX3_total (va_wsS RX3 37 yX3_isBox wsX3_isBox) := goodIn_app (goodIn_of _ (by decide +kernel)) ggX3_total_X3_isBox
set_option maxRecDepth 20000 in
theorem ggX3_total_X3_isSteps : GoodIn wsX3_total wsX3_isSteps := goodIn_r _ [11] (by decide +kernel) (by decide +kernel)
set_option maxRecDepth 20000 in
theorem gX3_total_X3_isSteps : GoodIn wsX3_total (va_wsS RX3 51 yX3_isSteps wsX3_isSteps) := goodIn_app (goodIn_of _ (by decide +kernel)) ggX3_total_X3_isSteps
set_option maxRecDepth 20000 in
theorem ggX3_total_X3_rowThere : GoodIn wsX3_total wsX3_rowThere := goodIn_r _ [15, 1, 2, 16, 17, 18, 19, 7, 20, 21, 22, 23, 24, 25, 26, 27, 28, 29, 30, 31, 32, 33, 34, 35, 36, 37, 38, 39, 40, 41, 42, 43, 44, 45, 46, 47, 48, 49, 50, 51, 52, 53, 54, 55, 56, 57, 75, 76, 77, 78, 79, 80, 81, 82, 83, 84, 85, 86, 87, 88, 89, 90] (by decide +kernel) (by decide +kernel)
set_option maxRecDepth 20000 in
theorem gX3_total_X3_rowThere : GoodIn wsX3_total (wsV RX3 77 RX3 yX3_rowThere wsX3_rowThere) := goodIn_app (goodIn_of _ (by decide +kernel)) ggX3_total_X3_rowThere
set_option maxRecDepth 20000 in
theorem ggX3_total_X3_met : GoodIn wsX3_total wsX3_met := goodIn_r _ [61, 62, 75, 76, 77, 78, 79, 80] (by decide +kernel) (by decide +kernel)
set_option maxRecDepth 20000 in
theorem gX3_total_X3_met : GoodIn wsX3_total (wsV RX3 44 RX3 yX3_met wsX3_met) := goodIn_app (goodIn_of _ (by decide +kernel)) ggX3_total_X3_met
set_option maxRecDepth 20000 in
theorem ggX3_total_X1_goesInto : GoodIn wsX3_total wsX1_goesInto := goodIn_r _ [66] (by decide +kernel) (by decide +kernel)
set_option maxRecDepth 20000 in
theorem gX3_total_X1_goesInto : GoodIn wsX3_total (va_wsS RX3 133 yX1_goesInto wsX1_goesInto) := goodIn_app (goodIn_of _ (by decide +kernel)) ggX3_total_X1_goesInto
set_option maxRecDepth 20000 in
theorem ggX3_total_X3_numbersIn : GoodIn wsX3_total wsX3_numbersIn := goodIn_r _ [69, 70, 71, 67, 68, 7, 86, 87, 88, 89, 90] (by decide +kernel) (by decide +kernel)
set_option maxRecDepth 20000 in
theorem gX3_total_X3_numbersIn : GoodIn wsX3_total (va_wsS RX3 137 yX3_numbersIn wsX3_numbersIn) := goodIn_app (goodIn_of _ (by decide +kernel)) ggX3_total_X3_numbersIn
set_option maxRecDepth 20000 in
theorem ggX3_total_X3_sumOf : GoodIn wsX3_total wsX3_sumOf := goodIn_r _ [74, 70, 71, 72, 73, 7, 86, 87, 88, 89, 90] (by decide +kernel) (by decide +kernel)
set_option maxRecDepth 20000 in
theorem gX3_total_X3_sumOf : GoodIn wsX3_total (va_wsS RX3 141 yX3_sumOf wsX3_sumOf) := goodIn_app (goodIn_of _ (by decide +kernel)) ggX3_total_X3_sumOf
theorem dX3_total_0 : decode cX3_total 0 = .ok (.iload_n 1, 1) := by decide +kernel
theorem dX3_total_1 : decode cX3_total 1 = .ok (.invokestatic 37, 3) := by decide +kernel
theorem dX3_total_4 : decode cX3_total 4 = .ok (.ifCond .eq 12, 3) := by decide +kernel
theorem dX3_total_7 : decode cX3_total 7 = .ok (.iload_n 2, 1) := by decide +kernel
theorem dX3_total_8 : decode cX3_total 8 = .ok (.iconst 0, 1) := by decide +kernel
theorem dX3_total_9 : decode cX3_total 9 = .ok (.iconst 2, 1) := by decide +kernel
theorem dX3_total_10 : decode cX3_total 10 = .ok (.invokestatic 51, 3) := by decide +kernel
theorem dX3_total_13 : decode cX3_total 13 = .ok (.ifCond .ne 5, 3) := by decide +kernel
theorem dX3_total_16 : decode cX3_total 16 = .ok (.iconst (-1), 1) := by decide +kernel
theorem dX3_total_17 : decode cX3_total 17 = .ok (.ireturn, 1) := by decide +kernel
theorem dX3_total_18 : decode cX3_total 18 = .ok (.aload_n 0, 1) := by decide +kernel
theorem dX3_total_19 : decode cX3_total 19 = .ok (.iload_n 1, 1) := by decide +kernel
theorem dX3_total_20 : decode cX3_total 20 = .ok (.iload_n 2, 1) := by decide +kernel
theorem dX3_total_21 : decode cX3_total 21 = .ok (.iload_n 3, 1) := by decide +kernel
theorem dX3_total_22 : decode cX3_total 22 = .ok (.iload 4, 2) := by decide +kernel
theorem dX3_total_24 : decode cX3_total 24 = .ok (.iconst 0, 1) := by decide +kernel
theorem dX3_total_25 : decode cX3_total 25 = .ok (.invokevirtual 77, 3) := by decide +kernel
theorem dX3_total_28 : decode cX3_total 28 = .ok (.astore 5, 2) := by decide +kernel
theorem dX3_total_30 : decode cX3_total 30 = .ok (.aload 5, 2) := by decide +kernel
theorem dX3_total_32 : decode cX3_total 32 = .ok (.ifnonnull 15, 3) := by decide +kernel
theorem dX3_total_35 : decode cX3_total 35 = .ok (.aload_n 0, 1) := by decide +kernel
theorem dX3_total_36 : decode cX3_total 36 = .ok (.aload_n 0, 1) := by decide +kernel
theorem dX3_total_37 : decode cX3_total 37 = .ok (.getfield 22, 3) := by decide +kernel
theorem dX3_total_40 : decode cX3_total 40 = .ok (.getfield 81, 3) := by decide +kernel
theorem dX3_total_43 : decode cX3_total 43 = .ok (.invokevirtual 44, 3) := by decide +kernel
theorem dX3_total_46 : decode cX3_total 46 = .ok (.ireturn, 1) := by decide +kernel
theorem dX3_total_47 : decode cX3_total 47 = .ok (.aload 5, 2) := by decide +kernel
theorem dX3_total_49 : decode cX3_total 49 = .ok (.getfield 73, 3) := by decide +kernel
theorem dX3_total_52 : decode cX3_total 52 = .ok (.iconst 5, 1) := by decide +kernel
theorem dX3_total_53 : decode cX3_total 53 = .ok (.invokestatic 133, 3) := by decide +kernel
theorem dX3_total_56 : decode cX3_total 56 = .ok (.ifCond .ne 18, 3) := by decide +kernel
theorem dX3_total_59 : decode cX3_total 59 = .ok (.aload 5, 2) := by decide +kernel
theorem dX3_total_61 : decode cX3_total 61 = .ok (.iconst 3, 1) := by decide +kernel
theorem dX3_total_62 : decode cX3_total 62 = .ok (.invokestatic 137, 3) := by decide +kernel
theorem dX3_total_65 : decode cX3_total 65 = .ok (.ifCond .le 9, 3) := by decide +kernel
theorem dX3_total_68 : decode cX3_total 68 = .ok (.aload_n 0, 1) := by decide +kernel
theorem dX3_total_69 : decode cX3_total 69 = .ok (.iconst 4, 1) := by decide +kernel
theorem dX3_total_70 : decode cX3_total 70 = .ok (.invokevirtual 44, 3) := by decide +kernel
theorem dX3_total_73 : decode cX3_total 73 = .ok (.ireturn, 1) := by decide +kernel
theorem dX3_total_74 : decode cX3_total 74 = .ok (.aload_n 0, 1) := by decide +kernel
theorem dX3_total_75 : decode cX3_total 75 = .ok (.aload 5, 2) := by decide +kernel
theorem dX3_total_77 : decode cX3_total 77 = .ok (.iconst 3, 1) := by decide +kernel
theorem dX3_total_78 : decode cX3_total 78 = .ok (.invokestatic 141, 3) := by decide +kernel
theorem dX3_total_81 : decode cX3_total 81 = .ok (.putfield 33, 3) := by decide +kernel
theorem dX3_total_84 : decode cX3_total 84 = .ok (.iconst 1, 1) := by decide +kernel
theorem dX3_total_85 : decode cX3_total 85 = .ok (.ireturn, 1) := by decide +kernel
set_option maxRecDepth 20000 in
theorem ggX3_count_X3_isBox : GoodIn wsX3_count wsX3_isBox := goodIn_r _ [6] (by decide +kernel) (by decide +kernel)
set_option maxRecDepth 20000 in
theorem gX3_count_X3_isBox : GoodIn wsX3_count (va_wsS RX3 37 yX3_isBox wsX3_isBox) := goodIn_app (goodIn_of _ (by decide +kernel)) ggX3_count_X3_isBox
set_option maxRecDepth 20000 in
theorem ggX3_count_X3_isSteps : GoodIn wsX3_count wsX3_isSteps := goodIn_r _ [9] (by decide +kernel) (by decide +kernel)
set_option maxRecDepth 20000 in
theorem gX3_count_X3_isSteps : GoodIn wsX3_count (va_wsS RX3 51 yX3_isSteps wsX3_isSteps) := goodIn_app (goodIn_of _ (by decide +kernel)) ggX3_count_X3_isSteps
set_option maxRecDepth 20000 in
theorem ggX3_count_X3_rowThere : GoodIn wsX3_count wsX3_rowThere := goodIn_r _ [13, 1, 2, 14, 15, 16, 17, 5, 18, 19, 20, 21, 22, 23, 24, 25, 26, 27, 28, 29, 30, 31, 32, 33, 34, 35, 36, 37, 38, 39, 40, 41, 42, 43, 44, 45, 46, 47, 48, 49, 50, 51, 52, 53, 54, 55, 66, 67, 68, 69, 70, 71, 72, 73, 74, 75, 76, 77, 78, 79, 80, 81] (by decide +kernel) (by decide +kernel)
set_option maxRecDepth 20000 in
theorem gX3_count_X3_rowThere : GoodIn wsX3_count (wsV RX3 77 RX3 yX3_rowThere wsX3_rowThere) := goodIn_app (goodIn_of _ (by decide +kernel)) ggX3_count_X3_rowThere
set_option maxRecDepth 20000 in
theorem ggX3_count_X3_met : GoodIn wsX3_count wsX3_met := goodIn_r _ [59, 60, 66, 67, 68, 69, 70, 71] (by decide +kernel) (by decide +kernel)
set_option maxRecDepth 20000 in
theorem gX3_count_X3_met : GoodIn wsX3_count (wsV RX3 44 RX3 yX3_met wsX3_met) := goodIn_app (goodIn_of _ (by decide +kernel)) ggX3_count_X3_met
set_option maxRecDepth 20000 in
theorem ggX3_count_X3_numbersIn : GoodIn wsX3_count wsX3_numbersIn := goodIn_r _ [63, 64, 65, 61, 62, 5, 77, 78, 79, 80, 81] (by decide +kernel) (by decide +kernel)
set_option maxRecDepth 20000 in
theorem gX3_count_X3_numbersIn : GoodIn wsX3_count (va_wsS RX3 137 yX3_numbersIn wsX3_numbersIn) := goodIn_app (goodIn_of _ (by decide +kernel)) ggX3_count_X3_numbersIn
theorem dX3_count_0 : decode cX3_count 0 = .ok (.iload_n 1, 1) := by decide +kernel
theorem dX3_count_1 : decode cX3_count 1 = .ok (.invokestatic 37, 3) := by decide +kernel
theorem dX3_count_4 : decode cX3_count 4 = .ok (.ifCond .eq 12, 3) := by decide +kernel
theorem dX3_count_7 : decode cX3_count 7 = .ok (.iload_n 2, 1) := by decide +kernel
theorem dX3_count_8 : decode cX3_count 8 = .ok (.iconst 0, 1) := by decide +kernel
theorem dX3_count_9 : decode cX3_count 9 = .ok (.iconst 2, 1) := by decide +kernel
theorem dX3_count_10 : decode cX3_count 10 = .ok (.invokestatic 51, 3) := by decide +kernel
theorem dX3_count_13 : decode cX3_count 13 = .ok (.ifCond .ne 5, 3) := by decide +kernel
theorem dX3_count_16 : decode cX3_count 16 = .ok (.iconst (-1), 1) := by decide +kernel
theorem dX3_count_17 : decode cX3_count 17 = .ok (.ireturn, 1) := by decide +kernel
theorem dX3_count_18 : decode cX3_count 18 = .ok (.aload_n 0, 1) := by decide +kernel
theorem dX3_count_19 : decode cX3_count 19 = .ok (.iload_n 1, 1) := by decide +kernel
theorem dX3_count_20 : decode cX3_count 20 = .ok (.iload_n 2, 1) := by decide +kernel
theorem dX3_count_21 : decode cX3_count 21 = .ok (.iload_n 3, 1) := by decide +kernel
theorem dX3_count_22 : decode cX3_count 22 = .ok (.iload 4, 2) := by decide +kernel
theorem dX3_count_24 : decode cX3_count 24 = .ok (.iconst 0, 1) := by decide +kernel
theorem dX3_count_25 : decode cX3_count 25 = .ok (.invokevirtual 77, 3) := by decide +kernel
theorem dX3_count_28 : decode cX3_count 28 = .ok (.astore 5, 2) := by decide +kernel
theorem dX3_count_30 : decode cX3_count 30 = .ok (.aload 5, 2) := by decide +kernel
theorem dX3_count_32 : decode cX3_count 32 = .ok (.ifnonnull 17, 3) := by decide +kernel
theorem dX3_count_35 : decode cX3_count 35 = .ok (.aload_n 0, 1) := by decide +kernel
theorem dX3_count_36 : decode cX3_count 36 = .ok (.aload_n 0, 1) := by decide +kernel
theorem dX3_count_37 : decode cX3_count 37 = .ok (.getfield 22, 3) := by decide +kernel
theorem dX3_count_40 : decode cX3_count 40 = .ok (.getfield 81, 3) := by decide +kernel
theorem dX3_count_43 : decode cX3_count 43 = .ok (.invokevirtual 44, 3) := by decide +kernel
theorem dX3_count_46 : decode cX3_count 46 = .ok (.goto 9, 3) := by decide +kernel
theorem dX3_count_49 : decode cX3_count 49 = .ok (.aload 5, 2) := by decide +kernel
theorem dX3_count_51 : decode cX3_count 51 = .ok (.iconst 3, 1) := by decide +kernel
theorem dX3_count_52 : decode cX3_count 52 = .ok (.invokestatic 137, 3) := by decide +kernel
theorem dX3_count_55 : decode cX3_count 55 = .ok (.ireturn, 1) := by decide +kernel
theorem dX3_seen_0 : decode cX3_seen 0 = .ok (.aload_n 0, 1) := by decide +kernel
theorem dX3_seen_1 : decode cX3_seen 1 = .ok (.getfield 33, 3) := by decide +kernel
theorem dX3_seen_4 : decode cX3_seen 4 = .ok (.lreturn, 1) := by decide +kernel
set_option maxRecDepth 20000 in
theorem ggX3_about_X3_boxesInUse : GoodIn wsX3_about wsX3_boxesInUse := goodIn_r _ [7, 8, 9, 10, 11, 12, 13, 14] (by decide +kernel) (by decide +kernel)
set_option maxRecDepth 20000 in
theorem gX3_about_X3_boxesInUse : GoodIn wsX3_about (wsV RX3 145 RX3 yX3_boxesInUse wsX3_boxesInUse) := goodIn_app (goodIn_of _ (by decide +kernel)) ggX3_about_X3_boxesInUse
theorem dX3_about_0 : decode cX3_about 0 = .ok (.iload_n 1, 1) := by decide +kernel
theorem dX3_about_1 : decode cX3_about 1 = .ok (.ifCond .lt 9, 3) := by decide +kernel
theorem dX3_about_4 : decode cX3_about 4 = .ok (.iload_n 1, 1) := by decide +kernel
theorem dX3_about_5 : decode cX3_about 5 = .ok (.bipush 6, 2) := by decide +kernel
theorem dX3_about_7 : decode cX3_about 7 = .ok (.if_icmp .le 5, 3) := by decide +kernel
theorem dX3_about_10 : decode cX3_about 10 = .ok (.iconst (-1), 1) := by decide +kernel
theorem dX3_about_11 : decode cX3_about 11 = .ok (.ireturn, 1) := by decide +kernel
theorem dX3_about_12 : decode cX3_about 12 = .ok (.iload_n 1, 1) := by decide +kernel
theorem dX3_about_13 : decode cX3_about 13 = .ok (.ifCond .ne 8, 3) := by decide +kernel
theorem dX3_about_16 : decode cX3_about 16 = .ok (.aload_n 0, 1) := by decide +kernel
theorem dX3_about_17 : decode cX3_about 17 = .ok (.getfield 26, 3) := by decide +kernel
theorem dX3_about_20 : decode cX3_about 20 = .ok (.ireturn, 1) := by decide +kernel
theorem dX3_about_21 : decode cX3_about 21 = .ok (.iload_n 1, 1) := by decide +kernel
theorem dX3_about_22 : decode cX3_about 22 = .ok (.bipush 6, 2) := by decide +kernel
theorem dX3_about_24 : decode cX3_about 24 = .ok (.if_icmp .ne 10, 3) := by decide +kernel
theorem dX3_about_27 : decode cX3_about 27 = .ok (.aload_n 0, 1) := by decide +kernel
theorem dX3_about_28 : decode cX3_about 28 = .ok (.invokevirtual 145, 3) := by decide +kernel
theorem dX3_about_31 : decode cX3_about 31 = .ok (.goto 9, 3) := by decide +kernel
theorem dX3_about_34 : decode cX3_about 34 = .ok (.aload_n 0, 1) := by decide +kernel
theorem dX3_about_35 : decode cX3_about 35 = .ok (.getfield 15, 3) := by decide +kernel
theorem dX3_about_38 : decode cX3_about 38 = .ok (.iload_n 1, 1) := by decide +kernel
theorem dX3_about_39 : decode cX3_about 39 = .ok (.iaload, 1) := by decide +kernel
theorem dX3_about_40 : decode cX3_about 40 = .ok (.ireturn, 1) := by decide +kernel
theorem dX3_boxesInUse_0 : decode cX3_boxesInUse 0 = .ok (.iconst 0, 1) := by decide +kernel
theorem dX3_boxesInUse_1 : decode cX3_boxesInUse 1 = .ok (.istore_n 1, 1) := by decide +kernel
theorem dX3_boxesInUse_2 : decode cX3_boxesInUse 2 = .ok (.iconst 0, 1) := by decide +kernel
theorem dX3_boxesInUse_3 : decode cX3_boxesInUse 3 = .ok (.istore_n 2, 1) := by decide +kernel
theorem dX3_boxesInUse_4 : decode cX3_boxesInUse 4 = .ok (.iload_n 2, 1) := by decide +kernel
theorem dX3_boxesInUse_5 : decode cX3_boxesInUse 5 = .ok (.bipush 10, 2) := by decide +kernel
theorem dX3_boxesInUse_7 : decode cX3_boxesInUse 7 = .ok (.if_icmp .ge 21, 3) := by decide +kernel
theorem dX3_boxesInUse_10 : decode cX3_boxesInUse 10 = .ok (.aload_n 0, 1) := by decide +kernel
theorem dX3_boxesInUse_11 : decode cX3_boxesInUse 11 = .ok (.getfield 11, 3) := by decide +kernel
theorem dX3_boxesInUse_14 : decode cX3_boxesInUse 14 = .ok (.iload_n 2, 1) := by decide +kernel
theorem dX3_boxesInUse_15 : decode cX3_boxesInUse 15 = .ok (.aaload, 1) := by decide +kernel
theorem dX3_boxesInUse_16 : decode cX3_boxesInUse 16 = .ok (.ifnull 6, 3) := by decide +kernel
theorem dX3_boxesInUse_19 : decode cX3_boxesInUse 19 = .ok (.iinc 1 1, 3) := by decide +kernel
theorem dX3_boxesInUse_22 : decode cX3_boxesInUse 22 = .ok (.iinc 2 1, 3) := by decide +kernel
theorem dX3_boxesInUse_25 : decode cX3_boxesInUse 25 = .ok (.goto (-21), 3) := by decide +kernel
theorem dX3_boxesInUse_28 : decode cX3_boxesInUse 28 = .ok (.iload_n 1, 1) := by decide +kernel
theorem dX3_boxesInUse_29 : decode cX3_boxesInUse 29 = .ok (.ireturn, 1) := by decide +kernel
theorem dX3_met_0 : decode cX3_met 0 = .ok (.aload_n 0, 1) := by decide +kernel
theorem dX3_met_1 : decode cX3_met 1 = .ok (.getfield 15, 3) := by decide +kernel
theorem dX3_met_4 : decode cX3_met 4 = .ok (.iload_n 1, 1) := by decide +kernel
theorem dX3_met_5 : decode cX3_met 5 = .ok (.dup2, 1) := by decide +kernel
theorem dX3_met_6 : decode cX3_met 6 = .ok (.iaload, 1) := by decide +kernel
theorem dX3_met_7 : decode cX3_met 7 = .ok (.iconst 1, 1) := by decide +kernel
theorem dX3_met_8 : decode cX3_met 8 = .ok (.iadd, 1) := by decide +kernel
theorem dX3_met_9 : decode cX3_met 9 = .ok (.iastore, 1) := by decide +kernel
theorem dX3_met_10 : decode cX3_met 10 = .ok (.bipush (-10), 2) := by decide +kernel
theorem dX3_met_12 : decode cX3_met 12 = .ok (.iload_n 1, 1) := by decide +kernel
theorem dX3_met_13 : decode cX3_met 13 = .ok (.isub, 1) := by decide +kernel
theorem dX3_met_14 : decode cX3_met 14 = .ok (.ireturn, 1) := by decide +kernel
theorem dX3_isBox_0 : decode cX3_isBox 0 = .ok (.iload_n 0, 1) := by decide +kernel
theorem dX3_isBox_1 : decode cX3_isBox 1 = .ok (.ifCond .lt 13, 3) := by decide +kernel
theorem dX3_isBox_4 : decode cX3_isBox 4 = .ok (.iload_n 0, 1) := by decide +kernel
theorem dX3_isBox_5 : decode cX3_isBox 5 = .ok (.bipush 10, 2) := by decide +kernel
theorem dX3_isBox_7 : decode cX3_isBox 7 = .ok (.if_icmp .ge 7, 3) := by decide +kernel
theorem dX3_isBox_10 : decode cX3_isBox 10 = .ok (.iconst 1, 1) := by decide +kernel
theorem dX3_isBox_11 : decode cX3_isBox 11 = .ok (.goto 4, 3) := by decide +kernel
theorem dX3_isBox_14 : decode cX3_isBox 14 = .ok (.iconst 0, 1) := by decide +kernel
theorem dX3_isBox_15 : decode cX3_isBox 15 = .ok (.ireturn, 1) := by decide +kernel
theorem dX3_isKind_0 : decode cX3_isKind 0 = .ok (.iload_n 0, 1) := by decide +kernel
theorem dX3_isKind_1 : decode cX3_isKind 1 = .ok (.ifCond .lt 13, 3) := by decide +kernel
theorem dX3_isKind_4 : decode cX3_isKind 4 = .ok (.iload_n 0, 1) := by decide +kernel
theorem dX3_isKind_5 : decode cX3_isKind 5 = .ok (.bipush 7, 2) := by decide +kernel
theorem dX3_isKind_7 : decode cX3_isKind 7 = .ok (.if_icmp .gt 7, 3) := by decide +kernel
theorem dX3_isKind_10 : decode cX3_isKind 10 = .ok (.iconst 1, 1) := by decide +kernel
theorem dX3_isKind_11 : decode cX3_isKind 11 = .ok (.goto 4, 3) := by decide +kernel
theorem dX3_isKind_14 : decode cX3_isKind 14 = .ok (.iconst 0, 1) := by decide +kernel
theorem dX3_isKind_15 : decode cX3_isKind 15 = .ok (.ireturn, 1) := by decide +kernel
theorem dX3_isSteps_0 : decode cX3_isSteps 0 = .ok (.iload_n 0, 1) := by decide +kernel
theorem dX3_isSteps_1 : decode cX3_isSteps 1 = .ok (.iload_n 1, 1) := by decide +kernel
theorem dX3_isSteps_2 : decode cX3_isSteps 2 = .ok (.if_icmp .lt 12, 3) := by decide +kernel
theorem dX3_isSteps_5 : decode cX3_isSteps 5 = .ok (.iload_n 0, 1) := by decide +kernel
theorem dX3_isSteps_6 : decode cX3_isSteps 6 = .ok (.iload_n 2, 1) := by decide +kernel
theorem dX3_isSteps_7 : decode cX3_isSteps 7 = .ok (.if_icmp .gt 7, 3) := by decide +kernel
theorem dX3_isSteps_10 : decode cX3_isSteps 10 = .ok (.iconst 1, 1) := by decide +kernel
theorem dX3_isSteps_11 : decode cX3_isSteps 11 = .ok (.goto 4, 3) := by decide +kernel
theorem dX3_isSteps_14 : decode cX3_isSteps 14 = .ok (.iconst 0, 1) := by decide +kernel
theorem dX3_isSteps_15 : decode cX3_isSteps 15 = .ok (.ireturn, 1) := by decide +kernel
theorem dX3_placeOfStep_0 : decode cX3_placeOfStep 0 = .ok (.iload_n 0, 1) := by decide +kernel
theorem dX3_placeOfStep_1 : decode cX3_placeOfStep 1 = .ok (.iconst 1, 1) := by decide +kernel
theorem dX3_placeOfStep_2 : decode cX3_placeOfStep 2 = .ok (.if_icmp .ne 5, 3) := by decide +kernel
theorem dX3_placeOfStep_5 : decode cX3_placeOfStep 5 = .ok (.iload_n 1, 1) := by decide +kernel
theorem dX3_placeOfStep_6 : decode cX3_placeOfStep 6 = .ok (.ireturn, 1) := by decide +kernel
theorem dX3_placeOfStep_7 : decode cX3_placeOfStep 7 = .ok (.iload_n 0, 1) := by decide +kernel
theorem dX3_placeOfStep_8 : decode cX3_placeOfStep 8 = .ok (.iconst 2, 1) := by decide +kernel
theorem dX3_placeOfStep_9 : decode cX3_placeOfStep 9 = .ok (.if_icmp .ne 7, 3) := by decide +kernel
theorem dX3_placeOfStep_12 : decode cX3_placeOfStep 12 = .ok (.iload_n 2, 1) := by decide +kernel
theorem dX3_placeOfStep_13 : decode cX3_placeOfStep 13 = .ok (.goto 4, 3) := by decide +kernel
theorem dX3_placeOfStep_16 : decode cX3_placeOfStep 16 = .ok (.iload_n 3, 1) := by decide +kernel
theorem dX3_placeOfStep_17 : decode cX3_placeOfStep 17 = .ok (.ireturn, 1) := by decide +kernel
set_option maxRecDepth 20000 in
theorem ggX3_walk_X0_startAt : GoodIn wsX3_walk wsX0_startAt := goodIn_r _ [8, 9, 10, 11, 46, 47, 48, 49, 50] (by decide +kernel) (by decide +kernel)
set_option maxRecDepth 20000 in
theorem gX3_walk_X0_startAt : GoodIn wsX3_walk (wsV RX3 149 RX0 yX0_startAt wsX0_startAt) := goodIn_app (goodIn_of _ (by decide +kernel)) ggX3_walk_X0_startAt
set_option maxRecDepth 20000 in
theorem ggX3_walk_X3_placeOfStep : GoodIn wsX3_walk wsX3_placeOfStep := goodIn_r _ [15] (by decide +kernel) (by decide +kernel)
set_option maxRecDepth 20000 in
theorem gX3_walk_X3_placeOfStep : GoodIn wsX3_walk (va_wsS RX3 87 yX3_placeOfStep wsX3_placeOfStep) := goodIn_app (goodIn_of _ (by decide +kernel)) ggX3_walk_X3_placeOfStep
set_option maxRecDepth 20000 in
theorem ggX3_walk_X0_stepTo : GoodIn wsX3_walk wsX0_stepTo := goodIn_r _ [19, 9, 11, 10, 20, 21, 22, 23, 24, 25, 26, 27, 7, 28, 29, 30, 31, 32, 33, 34, 35, 36, 37, 38, 39, 46, 47, 48, 49, 50, 51, 52, 53, 54, 55] (by decide +kernel) (by decide +kernel)
set_option maxRecDepth 20000 in
theorem gX3_walk_X0_stepTo : GoodIn wsX3_walk (wsV RX3 153 RX0 yX0_stepTo wsX0_stepTo) := goodIn_app (goodIn_of _ (by decide +kernel)) ggX3_walk_X0_stepTo
theorem dX3_walk_0 : decode cX3_walk 0 = .ok (.aload_n 0, 1) := by decide +kernel
theorem dX3_walk_1 : decode cX3_walk 1 = .ok (.getfield 22, 3) := by decide +kernel
theorem dX3_walk_4 : decode cX3_walk 4 = .ok (.aload_n 0, 1) := by decide +kernel
theorem dX3_walk_5 : decode cX3_walk 5 = .ok (.getfield 11, 3) := by decide +kernel
theorem dX3_walk_8 : decode cX3_walk 8 = .ok (.iload_n 1, 1) := by decide +kernel
theorem dX3_walk_9 : decode cX3_walk 9 = .ok (.aaload, 1) := by decide +kernel
theorem dX3_walk_10 : decode cX3_walk 10 = .ok (.invokevirtual 149, 3) := by decide +kernel
theorem dX3_walk_13 : decode cX3_walk 13 = .ok (.iconst 1, 1) := by decide +kernel
theorem dX3_walk_14 : decode cX3_walk 14 = .ok (.istore 6, 2) := by decide +kernel
theorem dX3_walk_16 : decode cX3_walk 16 = .ok (.iload 6, 2) := by decide +kernel
theorem dX3_walk_18 : decode cX3_walk 18 = .ok (.iload_n 2, 1) := by decide +kernel
theorem dX3_walk_19 : decode cX3_walk 19 = .ok (.if_icmp .gt 36, 3) := by decide +kernel
theorem dX3_walk_22 : decode cX3_walk 22 = .ok (.aload_n 0, 1) := by decide +kernel
theorem dX3_walk_23 : decode cX3_walk 23 = .ok (.getfield 22, 3) := by decide +kernel
theorem dX3_walk_26 : decode cX3_walk 26 = .ok (.getfield 81, 3) := by decide +kernel
theorem dX3_walk_29 : decode cX3_walk 29 = .ok (.ifCond .ne 26, 3) := by decide +kernel
theorem dX3_walk_32 : decode cX3_walk 32 = .ok (.aload_n 0, 1) := by decide +kernel
theorem dX3_walk_33 : decode cX3_walk 33 = .ok (.getfield 22, 3) := by decide +kernel
theorem dX3_walk_36 : decode cX3_walk 36 = .ok (.iload 6, 2) := by decide +kernel
theorem dX3_walk_38 : decode cX3_walk 38 = .ok (.iload_n 3, 1) := by decide +kernel
theorem dX3_walk_39 : decode cX3_walk 39 = .ok (.iload 4, 2) := by decide +kernel
theorem dX3_walk_41 : decode cX3_walk 41 = .ok (.iload 5, 2) := by decide +kernel
theorem dX3_walk_43 : decode cX3_walk 43 = .ok (.invokestatic 87, 3) := by decide +kernel
theorem dX3_walk_46 : decode cX3_walk 46 = .ok (.invokevirtual 153, 3) := by decide +kernel
theorem dX3_walk_49 : decode cX3_walk 49 = .ok (.iinc 6 1, 3) := by decide +kernel
theorem dX3_walk_52 : decode cX3_walk 52 = .ok (.goto (-36), 3) := by decide +kernel
theorem dX3_walk_55 : decode cX3_walk 55 = .ok (.aload_n 0, 1) := by decide +kernel
theorem dX3_walk_56 : decode cX3_walk 56 = .ok (.getfield 22, 3) := by decide +kernel
theorem dX3_walk_59 : decode cX3_walk 59 = .ok (.getfield 81, 3) := by decide +kernel
theorem dX3_walk_62 : decode cX3_walk 62 = .ok (.ireturn, 1) := by decide +kernel
set_option maxRecDepth 20000 in
theorem ggX3_rowThere_X3_walk : GoodIn wsX3_rowThere wsX3_walk := goodIn_r _ [8, 1, 9, 2, 10, 11, 12, 13, 14, 15, 16, 17, 18, 19, 7, 20, 21, 22, 23, 24, 25, 26, 27, 28, 29, 30, 31, 32, 33, 34, 35, 36, 37, 38, 39, 40, 41, 42, 43, 44, 46, 47, 48, 49, 50, 51, 52, 53, 54, 55, 56, 57, 58, 59, 60, 61] (by decide +kernel) (by decide +kernel)
set_option maxRecDepth 20000 in
theorem gX3_rowThere_X3_walk : GoodIn wsX3_rowThere (wsV RX3 55 RX3 yX3_walk wsX3_walk) := goodIn_app (goodIn_of _ (by decide +kernel)) ggX3_rowThere_X3_walk
set_option maxRecDepth 20000 in
theorem ggX3_rowThere_X0_wantRow : GoodIn wsX3_rowThere wsX0_wantRow := goodIn_r _ [33, 17, 15, 16, 52, 53, 54, 55, 56] (by decide +kernel) (by decide +kernel)
set_option maxRecDepth 20000 in
theorem gX3_rowThere_X0_wantRow : GoodIn wsX3_rowThere (wsV RX3 157 RX0 yX0_wantRow wsX0_wantRow) := goodIn_app (goodIn_of _ (by decide +kernel)) ggX3_rowThere_X0_wantRow
theorem dX3_rowThere_0 : decode cX3_rowThere 0 = .ok (.aload_n 0, 1) := by decide +kernel
theorem dX3_rowThere_1 : decode cX3_rowThere 1 = .ok (.iload_n 1, 1) := by decide +kernel
theorem dX3_rowThere_2 : decode cX3_rowThere 2 = .ok (.iload_n 2, 1) := by decide +kernel
theorem dX3_rowThere_3 : decode cX3_rowThere 3 = .ok (.iload_n 3, 1) := by decide +kernel
theorem dX3_rowThere_4 : decode cX3_rowThere 4 = .ok (.iload 4, 2) := by decide +kernel
theorem dX3_rowThere_6 : decode cX3_rowThere 6 = .ok (.iload 5, 2) := by decide +kernel
theorem dX3_rowThere_8 : decode cX3_rowThere 8 = .ok (.invokevirtual 55, 3) := by decide +kernel
theorem dX3_rowThere_11 : decode cX3_rowThere 11 = .ok (.pop, 1) := by decide +kernel
theorem dX3_rowThere_12 : decode cX3_rowThere 12 = .ok (.aload_n 0, 1) := by decide +kernel
theorem dX3_rowThere_13 : decode cX3_rowThere 13 = .ok (.getfield 22, 3) := by decide +kernel
theorem dX3_rowThere_16 : decode cX3_rowThere 16 = .ok (.invokevirtual 157, 3) := by decide +kernel
theorem dX3_rowThere_19 : decode cX3_rowThere 19 = .ok (.aload_n 0, 1) := by decide +kernel
theorem dX3_rowThere_20 : decode cX3_rowThere 20 = .ok (.getfield 22, 3) := by decide +kernel
theorem dX3_rowThere_23 : decode cX3_rowThere 23 = .ok (.getfield 81, 3) := by decide +kernel
theorem dX3_rowThere_26 : decode cX3_rowThere 26 = .ok (.ifCond .ne 13, 3) := by decide +kernel
theorem dX3_rowThere_29 : decode cX3_rowThere 29 = .ok (.aload_n 0, 1) := by decide +kernel
theorem dX3_rowThere_30 : decode cX3_rowThere 30 = .ok (.getfield 22, 3) := by decide +kernel
theorem dX3_rowThere_33 : decode cX3_rowThere 33 = .ok (.getfield 69, 3) := by decide +kernel
theorem dX3_rowThere_36 : decode cX3_rowThere 36 = .ok (.goto 4, 3) := by decide +kernel
theorem dX3_rowThere_39 : decode cX3_rowThere 39 = .ok (.aconst_null, 1) := by decide +kernel
theorem dX3_rowThere_40 : decode cX3_rowThere 40 = .ok (.areturn, 1) := by decide +kernel
set_option maxRecDepth 20000 in
theorem ggX3_numbersIn_X3_numbersIn : GoodIn wsX3_numbersIn wsX3_numbersIn := goodIn_r _ [0, 1, 2, 3, 4, 5, 6, 7, 8, 9, 10] (by decide +kernel) (by decide +kernel)
set_option maxRecDepth 20000 in
theorem gX3_numbersIn_X3_numbersIn : GoodIn wsX3_numbersIn (va_wsS RX3 137 yX3_numbersIn wsX3_numbersIn) := goodIn_app (goodIn_of _ (by decide +kernel)) ggX3_numbersIn_X3_numbersIn
theorem dX3_numbersIn_0 : decode cX3_numbersIn 0 = .ok (.aload_n 0, 1) := by decide +kernel
theorem dX3_numbersIn_1 : decode cX3_numbersIn 1 = .ok (.ifnull 8, 3) := by decide +kernel
theorem dX3_numbersIn_4 : decode cX3_numbersIn 4 = .ok (.iload_n 1, 1) := by decide +kernel
theorem dX3_numbersIn_5 : decode cX3_numbersIn 5 = .ok (.iconst 1, 1) := by decide +kernel
theorem dX3_numbersIn_6 : decode cX3_numbersIn 6 = .ok (.if_icmp .ge 5, 3) := by decide +kernel
theorem dX3_numbersIn_9 : decode cX3_numbersIn 9 = .ok (.iconst 0, 1) := by decide +kernel
theorem dX3_numbersIn_10 : decode cX3_numbersIn 10 = .ok (.ireturn, 1) := by decide +kernel
theorem dX3_numbersIn_11 : decode cX3_numbersIn 11 = .ok (.aload_n 0, 1) := by decide +kernel
theorem dX3_numbersIn_12 : decode cX3_numbersIn 12 = .ok (.getfield 95, 3) := by decide +kernel
theorem dX3_numbersIn_15 : decode cX3_numbersIn 15 = .ok (.arraylength, 1) := by decide +kernel
theorem dX3_numbersIn_16 : decode cX3_numbersIn 16 = .ok (.istore_n 2, 1) := by decide +kernel
theorem dX3_numbersIn_17 : decode cX3_numbersIn 17 = .ok (.iconst 0, 1) := by decide +kernel
theorem dX3_numbersIn_18 : decode cX3_numbersIn 18 = .ok (.istore_n 3, 1) := by decide +kernel
theorem dX3_numbersIn_19 : decode cX3_numbersIn 19 = .ok (.iload_n 3, 1) := by decide +kernel
theorem dX3_numbersIn_20 : decode cX3_numbersIn 20 = .ok (.aload_n 0, 1) := by decide +kernel
theorem dX3_numbersIn_21 : decode cX3_numbersIn 21 = .ok (.getfield 116, 3) := by decide +kernel
theorem dX3_numbersIn_24 : decode cX3_numbersIn 24 = .ok (.arraylength, 1) := by decide +kernel
theorem dX3_numbersIn_25 : decode cX3_numbersIn 25 = .ok (.if_icmp .ge 24, 3) := by decide +kernel
theorem dX3_numbersIn_28 : decode cX3_numbersIn 28 = .ok (.iload_n 2, 1) := by decide +kernel
theorem dX3_numbersIn_29 : decode cX3_numbersIn 29 = .ok (.aload_n 0, 1) := by decide +kernel
theorem dX3_numbersIn_30 : decode cX3_numbersIn 30 = .ok (.getfield 116, 3) := by decide +kernel
theorem dX3_numbersIn_33 : decode cX3_numbersIn 33 = .ok (.iload_n 3, 1) := by decide +kernel
theorem dX3_numbersIn_34 : decode cX3_numbersIn 34 = .ok (.aaload, 1) := by decide +kernel
theorem dX3_numbersIn_35 : decode cX3_numbersIn 35 = .ok (.iload_n 1, 1) := by decide +kernel
theorem dX3_numbersIn_36 : decode cX3_numbersIn 36 = .ok (.iconst 1, 1) := by decide +kernel
theorem dX3_numbersIn_37 : decode cX3_numbersIn 37 = .ok (.isub, 1) := by decide +kernel
theorem dX3_numbersIn_38 : decode cX3_numbersIn 38 = .ok (.invokestatic 137, 3) := by decide +kernel
theorem dX3_numbersIn_41 : decode cX3_numbersIn 41 = .ok (.iadd, 1) := by decide +kernel
theorem dX3_numbersIn_42 : decode cX3_numbersIn 42 = .ok (.istore_n 2, 1) := by decide +kernel
theorem dX3_numbersIn_43 : decode cX3_numbersIn 43 = .ok (.iinc 3 1, 3) := by decide +kernel
theorem dX3_numbersIn_46 : decode cX3_numbersIn 46 = .ok (.goto (-27), 3) := by decide +kernel
theorem dX3_numbersIn_49 : decode cX3_numbersIn 49 = .ok (.iload_n 2, 1) := by decide +kernel
theorem dX3_numbersIn_50 : decode cX3_numbersIn 50 = .ok (.ireturn, 1) := by decide +kernel
set_option maxRecDepth 20000 in
theorem ggX3_sumOf_X3_sumOf : GoodIn wsX3_sumOf wsX3_sumOf := goodIn_r _ [0, 1, 2, 3, 4, 5, 6, 7, 8, 9, 10] (by decide +kernel) (by decide +kernel)
set_option maxRecDepth 20000 in
theorem gX3_sumOf_X3_sumOf : GoodIn wsX3_sumOf (va_wsS RX3 141 yX3_sumOf wsX3_sumOf) := goodIn_app (goodIn_of _ (by decide +kernel)) ggX3_sumOf_X3_sumOf
theorem dX3_sumOf_0 : decode cX3_sumOf 0 = .ok (.aload_n 0, 1) := by decide +kernel
theorem dX3_sumOf_1 : decode cX3_sumOf 1 = .ok (.ifnull 8, 3) := by decide +kernel
theorem dX3_sumOf_4 : decode cX3_sumOf 4 = .ok (.iload_n 1, 1) := by decide +kernel
theorem dX3_sumOf_5 : decode cX3_sumOf 5 = .ok (.iconst 1, 1) := by decide +kernel
theorem dX3_sumOf_6 : decode cX3_sumOf 6 = .ok (.if_icmp .ge 5, 3) := by decide +kernel
theorem dX3_sumOf_9 : decode cX3_sumOf 9 = .ok (.lconst 0, 1) := by decide +kernel
theorem dX3_sumOf_10 : decode cX3_sumOf 10 = .ok (.lreturn, 1) := by decide +kernel
theorem dX3_sumOf_11 : decode cX3_sumOf 11 = .ok (.lconst 0, 1) := by decide +kernel
theorem dX3_sumOf_12 : decode cX3_sumOf 12 = .ok (.lstore_n 2, 1) := by decide +kernel
theorem dX3_sumOf_13 : decode cX3_sumOf 13 = .ok (.iconst 0, 1) := by decide +kernel
theorem dX3_sumOf_14 : decode cX3_sumOf 14 = .ok (.istore 4, 2) := by decide +kernel
theorem dX3_sumOf_16 : decode cX3_sumOf 16 = .ok (.iload 4, 2) := by decide +kernel
theorem dX3_sumOf_18 : decode cX3_sumOf 18 = .ok (.aload_n 0, 1) := by decide +kernel
theorem dX3_sumOf_19 : decode cX3_sumOf 19 = .ok (.getfield 95, 3) := by decide +kernel
theorem dX3_sumOf_22 : decode cX3_sumOf 22 = .ok (.arraylength, 1) := by decide +kernel
theorem dX3_sumOf_23 : decode cX3_sumOf 23 = .ok (.if_icmp .ge 19, 3) := by decide +kernel
theorem dX3_sumOf_26 : decode cX3_sumOf 26 = .ok (.lload_n 2, 1) := by decide +kernel
theorem dX3_sumOf_27 : decode cX3_sumOf 27 = .ok (.aload_n 0, 1) := by decide +kernel
theorem dX3_sumOf_28 : decode cX3_sumOf 28 = .ok (.getfield 95, 3) := by decide +kernel
theorem dX3_sumOf_31 : decode cX3_sumOf 31 = .ok (.iload 4, 2) := by decide +kernel
theorem dX3_sumOf_33 : decode cX3_sumOf 33 = .ok (.laload, 1) := by decide +kernel
theorem dX3_sumOf_34 : decode cX3_sumOf 34 = .ok (.ladd, 1) := by decide +kernel
theorem dX3_sumOf_35 : decode cX3_sumOf 35 = .ok (.lstore_n 2, 1) := by decide +kernel
theorem dX3_sumOf_36 : decode cX3_sumOf 36 = .ok (.iinc 4 1, 3) := by decide +kernel
theorem dX3_sumOf_39 : decode cX3_sumOf 39 = .ok (.goto (-23), 3) := by decide +kernel
theorem dX3_sumOf_42 : decode cX3_sumOf 42 = .ok (.iconst 0, 1) := by decide +kernel
theorem dX3_sumOf_43 : decode cX3_sumOf 43 = .ok (.istore 4, 2) := by decide +kernel
theorem dX3_sumOf_45 : decode cX3_sumOf 45 = .ok (.iload 4, 2) := by decide +kernel
theorem dX3_sumOf_47 : decode cX3_sumOf 47 = .ok (.aload_n 0, 1) := by decide +kernel
theorem dX3_sumOf_48 : decode cX3_sumOf 48 = .ok (.getfield 116, 3) := by decide +kernel
theorem dX3_sumOf_51 : decode cX3_sumOf 51 = .ok (.arraylength, 1) := by decide +kernel
theorem dX3_sumOf_52 : decode cX3_sumOf 52 = .ok (.if_icmp .ge 25, 3) := by decide +kernel
theorem dX3_sumOf_55 : decode cX3_sumOf 55 = .ok (.lload_n 2, 1) := by decide +kernel
theorem dX3_sumOf_56 : decode cX3_sumOf 56 = .ok (.aload_n 0, 1) := by decide +kernel
theorem dX3_sumOf_57 : decode cX3_sumOf 57 = .ok (.getfield 116, 3) := by decide +kernel
theorem dX3_sumOf_60 : decode cX3_sumOf 60 = .ok (.iload 4, 2) := by decide +kernel
theorem dX3_sumOf_62 : decode cX3_sumOf 62 = .ok (.aaload, 1) := by decide +kernel
theorem dX3_sumOf_63 : decode cX3_sumOf 63 = .ok (.iload_n 1, 1) := by decide +kernel
theorem dX3_sumOf_64 : decode cX3_sumOf 64 = .ok (.iconst 1, 1) := by decide +kernel
theorem dX3_sumOf_65 : decode cX3_sumOf 65 = .ok (.isub, 1) := by decide +kernel
theorem dX3_sumOf_66 : decode cX3_sumOf 66 = .ok (.invokestatic 141, 3) := by decide +kernel
theorem dX3_sumOf_69 : decode cX3_sumOf 69 = .ok (.ladd, 1) := by decide +kernel
theorem dX3_sumOf_70 : decode cX3_sumOf 70 = .ok (.lstore_n 2, 1) := by decide +kernel
theorem dX3_sumOf_71 : decode cX3_sumOf 71 = .ok (.iinc 4 1, 3) := by decide +kernel
theorem dX3_sumOf_74 : decode cX3_sumOf 74 = .ok (.goto (-29), 3) := by decide +kernel
theorem dX3_sumOf_77 : decode cX3_sumOf 77 = .ok (.lload_n 2, 1) := by decide +kernel
theorem dX3_sumOf_78 : decode cX3_sumOf 78 = .ok (.lreturn, 1) := by decide +kernel
end
section
theorem dX4_init_0 : decode cX4_init 0 = .ok (.aload_n 0, 1) := by decide +kernel
theorem dX4_init_1 : decode cX4_init 1 = .ok (.invokespecial 1, 3) := by decide +kernel
theorem dX4_init_4 : decode cX4_init 4 = .ok (.aload_n 0, 1) := by decide +kernel
theorem dX4_init_5 : decode cX4_init 5 = .ok (.bipush 120, 2) := by decide +kernel
theorem dX4_init_7 : decode cX4_init 7 = .ok (.newarray .int, 2) := by decide +kernel
theorem dX4_init_9 : decode cX4_init 9 = .ok (.putfield 7, 3) := by decide +kernel
theorem dX4_init_12 : decode cX4_init 12 = .ok (.aload_n 0, 1) := by decide +kernel
theorem dX4_init_13 : decode cX4_init 13 = .ok (.bipush 120, 2) := by decide +kernel
theorem dX4_init_15 : decode cX4_init 15 = .ok (.newarray .int, 2) := by decide +kernel
theorem dX4_init_17 : decode cX4_init 17 = .ok (.putfield 13, 3) := by decide +kernel
theorem dX4_init_20 : decode cX4_init 20 = .ok (.aload_n 0, 1) := by decide +kernel
theorem dX4_init_21 : decode cX4_init 21 = .ok (.bipush 120, 2) := by decide +kernel
theorem dX4_init_23 : decode cX4_init 23 = .ok (.newarray .int, 2) := by decide +kernel
theorem dX4_init_25 : decode cX4_init 25 = .ok (.putfield 16, 3) := by decide +kernel
theorem dX4_init_28 : decode cX4_init 28 = .ok (.aload_n 0, 1) := by decide +kernel
theorem dX4_init_29 : decode cX4_init 29 = .ok (.sipush 960, 3) := by decide +kernel
theorem dX4_init_32 : decode cX4_init 32 = .ok (.newarray .long, 2) := by decide +kernel
theorem dX4_init_34 : decode cX4_init 34 = .ok (.putfield 19, 3) := by decide +kernel
theorem dX4_init_37 : decode cX4_init 37 = .ok (.aload_n 0, 1) := by decide +kernel
theorem dX4_init_38 : decode cX4_init 38 = .ok (.sipush 960, 3) := by decide +kernel
theorem dX4_init_41 : decode cX4_init 41 = .ok (.newarray .int, 2) := by decide +kernel
theorem dX4_init_43 : decode cX4_init 43 = .ok (.putfield 23, 3) := by decide +kernel
theorem dX4_init_46 : decode cX4_init 46 = .ok (.aload_n 0, 1) := by decide +kernel
theorem dX4_init_47 : decode cX4_init 47 = .ok (.bipush 10, 2) := by decide +kernel
theorem dX4_init_49 : decode cX4_init 49 = .ok (.newarray .int, 2) := by decide +kernel
theorem dX4_init_51 : decode cX4_init 51 = .ok (.dup, 1) := by decide +kernel
theorem dX4_init_52 : decode cX4_init 52 = .ok (.iconst 0, 1) := by decide +kernel
theorem dX4_init_53 : decode cX4_init 53 = .ok (.iconst (-1), 1) := by decide +kernel
theorem dX4_init_54 : decode cX4_init 54 = .ok (.iastore, 1) := by decide +kernel
theorem dX4_init_55 : decode cX4_init 55 = .ok (.dup, 1) := by decide +kernel
theorem dX4_init_56 : decode cX4_init 56 = .ok (.iconst 1, 1) := by decide +kernel
theorem dX4_init_57 : decode cX4_init 57 = .ok (.iconst (-1), 1) := by decide +kernel
theorem dX4_init_58 : decode cX4_init 58 = .ok (.iastore, 1) := by decide +kernel
theorem dX4_init_59 : decode cX4_init 59 = .ok (.dup, 1) := by decide +kernel
theorem dX4_init_60 : decode cX4_init 60 = .ok (.iconst 2, 1) := by decide +kernel
theorem dX4_init_61 : decode cX4_init 61 = .ok (.iconst (-1), 1) := by decide +kernel
theorem dX4_init_62 : decode cX4_init 62 = .ok (.iastore, 1) := by decide +kernel
theorem dX4_init_63 : decode cX4_init 63 = .ok (.dup, 1) := by decide +kernel
theorem dX4_init_64 : decode cX4_init 64 = .ok (.iconst 3, 1) := by decide +kernel
theorem dX4_init_65 : decode cX4_init 65 = .ok (.iconst (-1), 1) := by decide +kernel
theorem dX4_init_66 : decode cX4_init 66 = .ok (.iastore, 1) := by decide +kernel
theorem dX4_init_67 : decode cX4_init 67 = .ok (.dup, 1) := by decide +kernel
theorem dX4_init_68 : decode cX4_init 68 = .ok (.iconst 4, 1) := by decide +kernel
theorem dX4_init_69 : decode cX4_init 69 = .ok (.iconst (-1), 1) := by decide +kernel
theorem dX4_init_70 : decode cX4_init 70 = .ok (.iastore, 1) := by decide +kernel
theorem dX4_init_71 : decode cX4_init 71 = .ok (.dup, 1) := by decide +kernel
theorem dX4_init_72 : decode cX4_init 72 = .ok (.iconst 5, 1) := by decide +kernel
theorem dX4_init_73 : decode cX4_init 73 = .ok (.iconst (-1), 1) := by decide +kernel
theorem dX4_init_74 : decode cX4_init 74 = .ok (.iastore, 1) := by decide +kernel
theorem dX4_init_75 : decode cX4_init 75 = .ok (.dup, 1) := by decide +kernel
theorem dX4_init_76 : decode cX4_init 76 = .ok (.bipush 6, 2) := by decide +kernel
theorem dX4_init_78 : decode cX4_init 78 = .ok (.iconst (-1), 1) := by decide +kernel
theorem dX4_init_79 : decode cX4_init 79 = .ok (.iastore, 1) := by decide +kernel
theorem dX4_init_80 : decode cX4_init 80 = .ok (.dup, 1) := by decide +kernel
theorem dX4_init_81 : decode cX4_init 81 = .ok (.bipush 7, 2) := by decide +kernel
theorem dX4_init_83 : decode cX4_init 83 = .ok (.iconst (-1), 1) := by decide +kernel
theorem dX4_init_84 : decode cX4_init 84 = .ok (.iastore, 1) := by decide +kernel
theorem dX4_init_85 : decode cX4_init 85 = .ok (.dup, 1) := by decide +kernel
theorem dX4_init_86 : decode cX4_init 86 = .ok (.bipush 8, 2) := by decide +kernel
theorem dX4_init_88 : decode cX4_init 88 = .ok (.iconst (-1), 1) := by decide +kernel
theorem dX4_init_89 : decode cX4_init 89 = .ok (.iastore, 1) := by decide +kernel
theorem dX4_init_90 : decode cX4_init 90 = .ok (.dup, 1) := by decide +kernel
theorem dX4_init_91 : decode cX4_init 91 = .ok (.bipush 9, 2) := by decide +kernel
theorem dX4_init_93 : decode cX4_init 93 = .ok (.iconst (-1), 1) := by decide +kernel
theorem dX4_init_94 : decode cX4_init 94 = .ok (.iastore, 1) := by decide +kernel
theorem dX4_init_95 : decode cX4_init 95 = .ok (.putfield 26, 3) := by decide +kernel
theorem dX4_init_98 : decode cX4_init 98 = .ok (.aload_n 0, 1) := by decide +kernel
theorem dX4_init_99 : decode cX4_init 99 = .ok (.bipush 6, 2) := by decide +kernel
theorem dX4_init_101 : decode cX4_init 101 = .ok (.newarray .int, 2) := by decide +kernel
theorem dX4_init_103 : decode cX4_init 103 = .ok (.putfield 29, 3) := by decide +kernel
theorem dX4_init_106 : decode cX4_init 106 = .ok (.aload_n 0, 1) := by decide +kernel
theorem dX4_init_107 : decode cX4_init 107 = .ok (.iconst 0, 1) := by decide +kernel
theorem dX4_init_108 : decode cX4_init 108 = .ok (.putfield 32, 3) := by decide +kernel
theorem dX4_init_111 : decode cX4_init 111 = .ok (.return_, 1) := by decide +kernel
theorem dX4_in_0 : decode cX4_in 0 = .ok (.iload_n 0, 1) := by decide +kernel
theorem dX4_in_1 : decode cX4_in 1 = .ok (.iload_n 1, 1) := by decide +kernel
theorem dX4_in_2 : decode cX4_in 2 = .ok (.if_icmp .lt 12, 3) := by decide +kernel
theorem dX4_in_5 : decode cX4_in 5 = .ok (.iload_n 0, 1) := by decide +kernel
theorem dX4_in_6 : decode cX4_in 6 = .ok (.iload_n 2, 1) := by decide +kernel
theorem dX4_in_7 : decode cX4_in 7 = .ok (.if_icmp .gt 7, 3) := by decide +kernel
theorem dX4_in_10 : decode cX4_in 10 = .ok (.iconst 1, 1) := by decide +kernel
theorem dX4_in_11 : decode cX4_in 11 = .ok (.goto 4, 3) := by decide +kernel
theorem dX4_in_14 : decode cX4_in 14 = .ok (.iconst 0, 1) := by decide +kernel
theorem dX4_in_15 : decode cX4_in 15 = .ok (.ireturn, 1) := by decide +kernel
set_option maxRecDepth 20000 in
theorem ggX4_isBox_X4_in : GoodIn wsX4_isBox wsX4_in := goodIn_r _ [4] (by decide +kernel) (by decide +kernel)
set_option maxRecDepth 20000 in
theorem gX4_isBox_X4_in : GoodIn wsX4_isBox (va_wsS RX4 36 yX4_in wsX4_in) := goodIn_app (goodIn_of _ (by decide +kernel)) ggX4_isBox_X4_in
theorem dX4_isBox_0 : decode cX4_isBox 0 = .ok (.iload_n 0, 1) := by decide +kernel
theorem dX4_isBox_1 : decode cX4_isBox 1 = .ok (.iconst 0, 1) := by decide +kernel
theorem dX4_isBox_2 : decode cX4_isBox 2 = .ok (.bipush 9, 2) := by decide +kernel
theorem dX4_isBox_4 : decode cX4_isBox 4 = .ok (.invokestatic 36, 3) := by decide +kernel
theorem dX4_isBox_7 : decode cX4_isBox 7 = .ok (.ireturn, 1) := by decide +kernel
set_option maxRecDepth 20000 in
theorem ggX4_isKind_X4_in : GoodIn wsX4_isKind wsX4_in := goodIn_r _ [4] (by decide +kernel) (by decide +kernel)
set_option maxRecDepth 20000 in
theorem gX4_isKind_X4_in : GoodIn wsX4_isKind (va_wsS RX4 36 yX4_in wsX4_in) := goodIn_app (goodIn_of _ (by decide +kernel)) ggX4_isKind_X4_in
theorem dX4_isKind_0 : decode cX4_isKind 0 = .ok (.iload_n 0, 1) := by decide +kernel
theorem dX4_isKind_1 : decode cX4_isKind 1 = .ok (.iconst 0, 1) := by decide +kernel
theorem dX4_isKind_2 : decode cX4_isKind 2 = .ok (.bipush 7, 2) := by decide +kernel
theorem dX4_isKind_4 : decode cX4_isKind 4 = .ok (.invokestatic 36, 3) := by decide +kernel
theorem dX4_isKind_7 : decode cX4_isKind 7 = .ok (.ireturn, 1) := by decide +kernel
theorem dX4_fails_0 : decode cX4_fails 0 = .ok (.aload_n 0, 1) := by decide +kernel
theorem dX4_fails_1 : decode cX4_fails 1 = .ok (.getfield 29, 3) := by decide +kernel
theorem dX4_fails_4 : decode cX4_fails 4 = .ok (.iload_n 1, 1) := by decide +kernel
theorem dX4_fails_5 : decode cX4_fails 5 = .ok (.dup2, 1) := by decide +kernel
theorem dX4_fails_6 : decode cX4_fails 6 = .ok (.iaload, 1) := by decide +kernel
theorem dX4_fails_7 : decode cX4_fails 7 = .ok (.iconst 1, 1) := by decide +kernel
theorem dX4_fails_8 : decode cX4_fails 8 = .ok (.iadd, 1) := by decide +kernel
theorem dX4_fails_9 : decode cX4_fails 9 = .ok (.iastore, 1) := by decide +kernel
theorem dX4_fails_10 : decode cX4_fails 10 = .ok (.bipush (-10), 2) := by decide +kernel
theorem dX4_fails_12 : decode cX4_fails 12 = .ok (.iload_n 1, 1) := by decide +kernel
theorem dX4_fails_13 : decode cX4_fails 13 = .ok (.isub, 1) := by decide +kernel
theorem dX4_fails_14 : decode cX4_fails 14 = .ok (.ireturn, 1) := by decide +kernel
theorem dX4_goesInto_0 : decode cX4_goesInto 0 = .ok (.iload_n 0, 1) := by decide +kernel
theorem dX4_goesInto_1 : decode cX4_goesInto 1 = .ok (.iload_n 1, 1) := by decide +kernel
theorem dX4_goesInto_2 : decode cX4_goesInto 2 = .ok (.if_icmp .ne 5, 3) := by decide +kernel
theorem dX4_goesInto_5 : decode cX4_goesInto 5 = .ok (.iconst 1, 1) := by decide +kernel
theorem dX4_goesInto_6 : decode cX4_goesInto 6 = .ok (.ireturn, 1) := by decide +kernel
theorem dX4_goesInto_7 : decode cX4_goesInto 7 = .ok (.iload_n 0, 1) := by decide +kernel
theorem dX4_goesInto_8 : decode cX4_goesInto 8 = .ok (.ifCond .eq 13, 3) := by decide +kernel
theorem dX4_goesInto_11 : decode cX4_goesInto 11 = .ok (.iload_n 1, 1) := by decide +kernel
theorem dX4_goesInto_12 : decode cX4_goesInto 12 = .ok (.iconst 2, 1) := by decide +kernel
theorem dX4_goesInto_13 : decode cX4_goesInto 13 = .ok (.if_icmp .lt 8, 3) := by decide +kernel
theorem dX4_goesInto_16 : decode cX4_goesInto 16 = .ok (.iload_n 1, 1) := by decide +kernel
theorem dX4_goesInto_17 : decode cX4_goesInto 17 = .ok (.iconst 3, 1) := by decide +kernel
theorem dX4_goesInto_18 : decode cX4_goesInto 18 = .ok (.if_icmp .ne 5, 3) := by decide +kernel
theorem dX4_goesInto_21 : decode cX4_goesInto 21 = .ok (.iconst 0, 1) := by decide +kernel
theorem dX4_goesInto_22 : decode cX4_goesInto 22 = .ok (.ireturn, 1) := by decide +kernel
theorem dX4_goesInto_23 : decode cX4_goesInto 23 = .ok (.iload_n 1, 1) := by decide +kernel
theorem dX4_goesInto_24 : decode cX4_goesInto 24 = .ok (.iload_n 0, 1) := by decide +kernel
theorem dX4_goesInto_25 : decode cX4_goesInto 25 = .ok (.if_icmp .le 7, 3) := by decide +kernel
theorem dX4_goesInto_28 : decode cX4_goesInto 28 = .ok (.iconst 1, 1) := by decide +kernel
theorem dX4_goesInto_29 : decode cX4_goesInto 29 = .ok (.goto 4, 3) := by decide +kernel
theorem dX4_goesInto_32 : decode cX4_goesInto 32 = .ok (.iconst 0, 1) := by decide +kernel
theorem dX4_goesInto_33 : decode cX4_goesInto 33 = .ok (.ireturn, 1) := by decide +kernel
theorem dX4_ofBits_0 : decode cX4_ofBits 0 = .ok (.iload_n 0, 1) := by decide +kernel
theorem dX4_ofBits_1 : decode cX4_ofBits 1 = .ok (.tableswitch 89 0 6 #[43, 47, 52, 57, 63, 67, 69], 43) := by decide +kernel
theorem dX4_ofBits_44 : decode cX4_ofBits 44 = .ok (.lload_n 1, 1) := by decide +kernel
theorem dX4_ofBits_45 : decode cX4_ofBits 45 = .ok (.lconst 1, 1) := by decide +kernel
theorem dX4_ofBits_46 : decode cX4_ofBits 46 = .ok (.land, 1) := by decide +kernel
theorem dX4_ofBits_47 : decode cX4_ofBits 47 = .ok (.lreturn, 1) := by decide +kernel
theorem dX4_ofBits_48 : decode cX4_ofBits 48 = .ok (.lload_n 1, 1) := by decide +kernel
theorem dX4_ofBits_49 : decode cX4_ofBits 49 = .ok (.l2i, 1) := by decide +kernel
theorem dX4_ofBits_50 : decode cX4_ofBits 50 = .ok (.i2b, 1) := by decide +kernel
theorem dX4_ofBits_51 : decode cX4_ofBits 51 = .ok (.i2l, 1) := by decide +kernel
theorem dX4_ofBits_52 : decode cX4_ofBits 52 = .ok (.lreturn, 1) := by decide +kernel
theorem dX4_ofBits_53 : decode cX4_ofBits 53 = .ok (.lload_n 1, 1) := by decide +kernel
theorem dX4_ofBits_54 : decode cX4_ofBits 54 = .ok (.l2i, 1) := by decide +kernel
theorem dX4_ofBits_55 : decode cX4_ofBits 55 = .ok (.i2s, 1) := by decide +kernel
theorem dX4_ofBits_56 : decode cX4_ofBits 56 = .ok (.i2l, 1) := by decide +kernel
theorem dX4_ofBits_57 : decode cX4_ofBits 57 = .ok (.lreturn, 1) := by decide +kernel
theorem dX4_ofBits_58 : decode cX4_ofBits 58 = .ok (.lload_n 1, 1) := by decide +kernel
theorem dX4_ofBits_59 : decode cX4_ofBits 59 = .ok (.ldc2_w 40, 3) := by decide +kernel
theorem dX4_ofBits_62 : decode cX4_ofBits 62 = .ok (.land, 1) := by decide +kernel
theorem dX4_ofBits_63 : decode cX4_ofBits 63 = .ok (.lreturn, 1) := by decide +kernel
theorem dX4_ofBits_64 : decode cX4_ofBits 64 = .ok (.lload_n 1, 1) := by decide +kernel
theorem dX4_ofBits_65 : decode cX4_ofBits 65 = .ok (.l2i, 1) := by decide +kernel
theorem dX4_ofBits_66 : decode cX4_ofBits 66 = .ok (.i2l, 1) := by decide +kernel
theorem dX4_ofBits_67 : decode cX4_ofBits 67 = .ok (.lreturn, 1) := by decide +kernel
theorem dX4_ofBits_68 : decode cX4_ofBits 68 = .ok (.lload_n 1, 1) := by decide +kernel
theorem dX4_ofBits_69 : decode cX4_ofBits 69 = .ok (.lreturn, 1) := by decide +kernel
theorem dX4_ofBits_70 : decode cX4_ofBits 70 = .ok (.lload_n 1, 1) := by decide +kernel
theorem dX4_ofBits_71 : decode cX4_ofBits 71 = .ok (.l2i, 1) := by decide +kernel
theorem dX4_ofBits_72 : decode cX4_ofBits 72 = .ok (.ldc 42, 2) := by decide +kernel
theorem dX4_ofBits_74 : decode cX4_ofBits 74 = .ok (.iand, 1) := by decide +kernel
theorem dX4_ofBits_75 : decode cX4_ofBits 75 = .ok (.ldc 43, 2) := by decide +kernel
theorem dX4_ofBits_77 : decode cX4_ofBits 77 = .ok (.if_icmp .le 9, 3) := by decide +kernel
theorem dX4_ofBits_80 : decode cX4_ofBits 80 = .ok (.ldc2_w 44, 3) := by decide +kernel
theorem dX4_ofBits_83 : decode cX4_ofBits 83 = .ok (.goto 6, 3) := by decide +kernel
theorem dX4_ofBits_86 : decode cX4_ofBits 86 = .ok (.lload_n 1, 1) := by decide +kernel
theorem dX4_ofBits_87 : decode cX4_ofBits 87 = .ok (.l2i, 1) := by decide +kernel
theorem dX4_ofBits_88 : decode cX4_ofBits 88 = .ok (.i2l, 1) := by decide +kernel
theorem dX4_ofBits_89 : decode cX4_ofBits 89 = .ok (.lreturn, 1) := by decide +kernel
theorem dX4_ofBits_90 : decode cX4_ofBits 90 = .ok (.lload_n 1, 1) := by decide +kernel
theorem dX4_ofBits_91 : decode cX4_ofBits 91 = .ok (.ldc2_w 46, 3) := by decide +kernel
theorem dX4_ofBits_94 : decode cX4_ofBits 94 = .ok (.land, 1) := by decide +kernel
theorem dX4_ofBits_95 : decode cX4_ofBits 95 = .ok (.ldc2_w 48, 3) := by decide +kernel
theorem dX4_ofBits_98 : decode cX4_ofBits 98 = .ok (.lcmp, 1) := by decide +kernel
theorem dX4_ofBits_99 : decode cX4_ofBits 99 = .ok (.ifCond .le 9, 3) := by decide +kernel
theorem dX4_ofBits_102 : decode cX4_ofBits 102 = .ok (.ldc2_w 50, 3) := by decide +kernel
theorem dX4_ofBits_105 : decode cX4_ofBits 105 = .ok (.goto 4, 3) := by decide +kernel
theorem dX4_ofBits_108 : decode cX4_ofBits 108 = .ok (.lload_n 1, 1) := by decide +kernel
theorem dX4_ofBits_109 : decode cX4_ofBits 109 = .ok (.lreturn, 1) := by decide +kernel
set_option maxRecDepth 20000 in
theorem ggX4_as_Jxe99ae_doubleToLongBits_ccdee : GoodIn wsX4_as wsJxe99ae_doubleToLongBits_ccdee := goodIn_r _ [10, 11, 12, 13, 14, 15, 16, 17, 9, 18] (by decide +kernel) (by decide +kernel)
set_option maxRecDepth 20000 in
theorem gX4_as_Jxe99ae_doubleToLongBits_ccdee : GoodIn wsX4_as (va_wsS RX4 58 yJxe99ae_doubleToLongBits_ccdee wsJxe99ae_doubleToLongBits_ccdee) := goodIn_app (goodIn_of _ (by decide +kernel)) ggX4_as_Jxe99ae_doubleToLongBits_ccdee
set_option maxRecDepth 20000 in
theorem ggX4_as_Jxf58ca_floatToIntBits_5c35a : GoodIn wsX4_as wsJxf58ca_floatToIntBits_5c35a := goodIn_r _ [22, 23, 24, 25, 4, 26, 27, 28, 21, 29] (by decide +kernel) (by decide +kernel)
set_option maxRecDepth 20000 in
theorem gX4_as_Jxf58ca_floatToIntBits_5c35a : GoodIn wsX4_as (va_wsS RX4 64 yJxf58ca_floatToIntBits_5c35a wsJxf58ca_floatToIntBits_5c35a) := goodIn_app (goodIn_of _ (by decide +kernel)) ggX4_as_Jxf58ca_floatToIntBits_5c35a
theorem dX4_as_0 : decode cX4_as 0 = .ok (.iload_n 0, 1) := by decide +kernel
theorem dX4_as_1 : decode cX4_as 1 = .ok (.iload_n 1, 1) := by decide +kernel
theorem dX4_as_2 : decode cX4_as 2 = .ok (.if_icmp .eq 9, 3) := by decide +kernel
theorem dX4_as_5 : decode cX4_as 5 = .ok (.iload_n 1, 1) := by decide +kernel
theorem dX4_as_6 : decode cX4_as 6 = .ok (.bipush 6, 2) := by decide +kernel
theorem dX4_as_8 : decode cX4_as 8 = .ok (.if_icmp .ge 5, 3) := by decide +kernel
theorem dX4_as_11 : decode cX4_as 11 = .ok (.lload_n 2, 1) := by decide +kernel
theorem dX4_as_12 : decode cX4_as 12 = .ok (.lreturn, 1) := by decide +kernel
theorem dX4_as_13 : decode cX4_as 13 = .ok (.iload_n 0, 1) := by decide +kernel
theorem dX4_as_14 : decode cX4_as 14 = .ok (.bipush 6, 2) := by decide +kernel
theorem dX4_as_16 : decode cX4_as 16 = .ok (.if_icmp .ne 31, 3) := by decide +kernel
theorem dX4_as_19 : decode cX4_as 19 = .ok (.lload_n 2, 1) := by decide +kernel
theorem dX4_as_20 : decode cX4_as 20 = .ok (.l2i, 1) := by decide +kernel
theorem dX4_as_21 : decode cX4_as 21 = .ok (.invokestatic 52, 3) := by decide +kernel
theorem dX4_as_24 : decode cX4_as 24 = .ok (.fstore 4, 2) := by decide +kernel
theorem dX4_as_26 : decode cX4_as 26 = .ok (.lload_n 2, 1) := by decide +kernel
theorem dX4_as_27 : decode cX4_as 27 = .ok (.ldc2_w 44, 3) := by decide +kernel
theorem dX4_as_30 : decode cX4_as 30 = .ok (.lcmp, 1) := by decide +kernel
theorem dX4_as_31 : decode cX4_as 31 = .ok (.ifCond .ne 9, 3) := by decide +kernel
theorem dX4_as_34 : decode cX4_as 34 = .ok (.ldc2_w 50, 3) := by decide +kernel
theorem dX4_as_37 : decode cX4_as 37 = .ok (.goto 9, 3) := by decide +kernel
theorem dX4_as_40 : decode cX4_as 40 = .ok (.fload 4, 2) := by decide +kernel
theorem dX4_as_42 : decode cX4_as 42 = .ok (.f2d, 1) := by decide +kernel
theorem dX4_as_43 : decode cX4_as 43 = .ok (.invokestatic 58, 3) := by decide +kernel
theorem dX4_as_46 : decode cX4_as 46 = .ok (.lreturn, 1) := by decide +kernel
theorem dX4_as_47 : decode cX4_as 47 = .ok (.iload_n 1, 1) := by decide +kernel
theorem dX4_as_48 : decode cX4_as 48 = .ok (.bipush 6, 2) := by decide +kernel
theorem dX4_as_50 : decode cX4_as 50 = .ok (.if_icmp .ne 12, 3) := by decide +kernel
theorem dX4_as_53 : decode cX4_as 53 = .ok (.lload_n 2, 1) := by decide +kernel
theorem dX4_as_54 : decode cX4_as 54 = .ok (.l2f, 1) := by decide +kernel
theorem dX4_as_55 : decode cX4_as 55 = .ok (.invokestatic 64, 3) := by decide +kernel
theorem dX4_as_58 : decode cX4_as 58 = .ok (.i2l, 1) := by decide +kernel
theorem dX4_as_59 : decode cX4_as 59 = .ok (.goto 8, 3) := by decide +kernel
theorem dX4_as_62 : decode cX4_as 62 = .ok (.lload_n 2, 1) := by decide +kernel
theorem dX4_as_63 : decode cX4_as 63 = .ok (.l2d, 1) := by decide +kernel
theorem dX4_as_64 : decode cX4_as 64 = .ok (.invokestatic 58, 3) := by decide +kernel
theorem dX4_as_67 : decode cX4_as 67 = .ok (.lreturn, 1) := by decide +kernel
set_option maxRecDepth 20000 in
theorem ggX4_go_X4_in : GoodIn wsX4_go wsX4_in := goodIn_r _ [10] (by decide +kernel) (by decide +kernel)
set_option maxRecDepth 20000 in
theorem gX4_go_X4_in : GoodIn wsX4_go (va_wsS RX4 36 yX4_in wsX4_in) := goodIn_app (goodIn_of _ (by decide +kernel)) ggX4_go_X4_in
theorem dX4_go_0 : decode cX4_go 0 = .ok (.aload_n 0, 1) := by decide +kernel
theorem dX4_go_1 : decode cX4_go 1 = .ok (.aload_n 0, 1) := by decide +kernel
theorem dX4_go_2 : decode cX4_go 2 = .ok (.getfield 26, 3) := by decide +kernel
theorem dX4_go_5 : decode cX4_go 5 = .ok (.iload_n 1, 1) := by decide +kernel
theorem dX4_go_6 : decode cX4_go 6 = .ok (.iaload, 1) := by decide +kernel
theorem dX4_go_7 : decode cX4_go 7 = .ok (.putfield 68, 3) := by decide +kernel
theorem dX4_go_10 : decode cX4_go 10 = .ok (.aload_n 0, 1) := by decide +kernel
theorem dX4_go_11 : decode cX4_go 11 = .ok (.iconst (-1), 1) := by decide +kernel
theorem dX4_go_12 : decode cX4_go 12 = .ok (.putfield 71, 3) := by decide +kernel
theorem dX4_go_15 : decode cX4_go 15 = .ok (.iconst 0, 1) := by decide +kernel
theorem dX4_go_16 : decode cX4_go 16 = .ok (.istore 6, 2) := by decide +kernel
theorem dX4_go_18 : decode cX4_go 18 = .ok (.iload 6, 2) := by decide +kernel
theorem dX4_go_20 : decode cX4_go 20 = .ok (.iload_n 2, 1) := by decide +kernel
theorem dX4_go_21 : decode cX4_go 21 = .ok (.if_icmp .ge 120, 3) := by decide +kernel
theorem dX4_go_24 : decode cX4_go 24 = .ok (.iload 6, 2) := by decide +kernel
theorem dX4_go_26 : decode cX4_go 26 = .ok (.ifCond .ne 7, 3) := by decide +kernel
theorem dX4_go_29 : decode cX4_go 29 = .ok (.iload_n 3, 1) := by decide +kernel
theorem dX4_go_30 : decode cX4_go 30 = .ok (.goto 16, 3) := by decide +kernel
theorem dX4_go_33 : decode cX4_go 33 = .ok (.iload 6, 2) := by decide +kernel
theorem dX4_go_35 : decode cX4_go 35 = .ok (.iconst 1, 1) := by decide +kernel
theorem dX4_go_36 : decode cX4_go 36 = .ok (.if_icmp .ne 8, 3) := by decide +kernel
theorem dX4_go_39 : decode cX4_go 39 = .ok (.iload 4, 2) := by decide +kernel
theorem dX4_go_41 : decode cX4_go 41 = .ok (.goto 5, 3) := by decide +kernel
theorem dX4_go_44 : decode cX4_go 44 = .ok (.iload 5, 2) := by decide +kernel
theorem dX4_go_46 : decode cX4_go 46 = .ok (.istore 7, 2) := by decide +kernel
theorem dX4_go_48 : decode cX4_go 48 = .ok (.aload_n 0, 1) := by decide +kernel
theorem dX4_go_49 : decode cX4_go 49 = .ok (.getfield 71, 3) := by decide +kernel
theorem dX4_go_52 : decode cX4_go 52 = .ok (.iconst (-1), 1) := by decide +kernel
theorem dX4_go_53 : decode cX4_go 53 = .ok (.if_icmp .eq 5, 3) := by decide +kernel
theorem dX4_go_56 : decode cX4_go 56 = .ok (.iconst 2, 1) := by decide +kernel
theorem dX4_go_57 : decode cX4_go 57 = .ok (.ireturn, 1) := by decide +kernel
theorem dX4_go_58 : decode cX4_go 58 = .ok (.aload_n 0, 1) := by decide +kernel
theorem dX4_go_59 : decode cX4_go 59 = .ok (.getfield 68, 3) := by decide +kernel
theorem dX4_go_62 : decode cX4_go 62 = .ok (.iconst (-1), 1) := by decide +kernel
theorem dX4_go_63 : decode cX4_go 63 = .ok (.if_icmp .ne 5, 3) := by decide +kernel
theorem dX4_go_66 : decode cX4_go 66 = .ok (.iconst 1, 1) := by decide +kernel
theorem dX4_go_67 : decode cX4_go 67 = .ok (.ireturn, 1) := by decide +kernel
theorem dX4_go_68 : decode cX4_go 68 = .ok (.iload 7, 2) := by decide +kernel
theorem dX4_go_70 : decode cX4_go 70 = .ok (.iconst 0, 1) := by decide +kernel
theorem dX4_go_71 : decode cX4_go 71 = .ok (.aload_n 0, 1) := by decide +kernel
theorem dX4_go_72 : decode cX4_go 72 = .ok (.getfield 16, 3) := by decide +kernel
theorem dX4_go_75 : decode cX4_go 75 = .ok (.aload_n 0, 1) := by decide +kernel
theorem dX4_go_76 : decode cX4_go 76 = .ok (.getfield 68, 3) := by decide +kernel
theorem dX4_go_79 : decode cX4_go 79 = .ok (.iaload, 1) := by decide +kernel
theorem dX4_go_80 : decode cX4_go 80 = .ok (.iconst 1, 1) := by decide +kernel
theorem dX4_go_81 : decode cX4_go 81 = .ok (.isub, 1) := by decide +kernel
theorem dX4_go_82 : decode cX4_go 82 = .ok (.invokestatic 36, 3) := by decide +kernel
theorem dX4_go_85 : decode cX4_go 85 = .ok (.ifCond .ne 5, 3) := by decide +kernel
theorem dX4_go_88 : decode cX4_go 88 = .ok (.iconst 3, 1) := by decide +kernel
theorem dX4_go_89 : decode cX4_go 89 = .ok (.ireturn, 1) := by decide +kernel
theorem dX4_go_90 : decode cX4_go 90 = .ok (.bipush 8, 2) := by decide +kernel
theorem dX4_go_92 : decode cX4_go 92 = .ok (.aload_n 0, 1) := by decide +kernel
theorem dX4_go_93 : decode cX4_go 93 = .ok (.getfield 68, 3) := by decide +kernel
theorem dX4_go_96 : decode cX4_go 96 = .ok (.imul, 1) := by decide +kernel
theorem dX4_go_97 : decode cX4_go 97 = .ok (.iload 7, 2) := by decide +kernel
theorem dX4_go_99 : decode cX4_go 99 = .ok (.iadd, 1) := by decide +kernel
theorem dX4_go_100 : decode cX4_go 100 = .ok (.istore 8, 2) := by decide +kernel
theorem dX4_go_102 : decode cX4_go 102 = .ok (.aload_n 0, 1) := by decide +kernel
theorem dX4_go_103 : decode cX4_go 103 = .ok (.getfield 13, 3) := by decide +kernel
theorem dX4_go_106 : decode cX4_go 106 = .ok (.aload_n 0, 1) := by decide +kernel
theorem dX4_go_107 : decode cX4_go 107 = .ok (.getfield 68, 3) := by decide +kernel
theorem dX4_go_110 : decode cX4_go 110 = .ok (.iaload, 1) := by decide +kernel
theorem dX4_go_111 : decode cX4_go 111 = .ok (.iconst 1, 1) := by decide +kernel
theorem dX4_go_112 : decode cX4_go 112 = .ok (.if_icmp .ne 12, 3) := by decide +kernel
theorem dX4_go_115 : decode cX4_go 115 = .ok (.aload_n 0, 1) := by decide +kernel
theorem dX4_go_116 : decode cX4_go 116 = .ok (.iload 8, 2) := by decide +kernel
theorem dX4_go_118 : decode cX4_go 118 = .ok (.putfield 71, 3) := by decide +kernel
theorem dX4_go_121 : decode cX4_go 121 = .ok (.goto 14, 3) := by decide +kernel
theorem dX4_go_124 : decode cX4_go 124 = .ok (.aload_n 0, 1) := by decide +kernel
theorem dX4_go_125 : decode cX4_go 125 = .ok (.aload_n 0, 1) := by decide +kernel
theorem dX4_go_126 : decode cX4_go 126 = .ok (.getfield 23, 3) := by decide +kernel
theorem dX4_go_129 : decode cX4_go 129 = .ok (.iload 8, 2) := by decide +kernel
theorem dX4_go_131 : decode cX4_go 131 = .ok (.iaload, 1) := by decide +kernel
theorem dX4_go_132 : decode cX4_go 132 = .ok (.putfield 68, 3) := by decide +kernel
theorem dX4_go_135 : decode cX4_go 135 = .ok (.iinc 6 1, 3) := by decide +kernel
theorem dX4_go_138 : decode cX4_go 138 = .ok (.goto (-120), 3) := by decide +kernel
theorem dX4_go_141 : decode cX4_go 141 = .ok (.iconst 0, 1) := by decide +kernel
theorem dX4_go_142 : decode cX4_go 142 = .ok (.ireturn, 1) := by decide +kernel
theorem dX4_wantRow_0 : decode cX4_wantRow 0 = .ok (.aload_n 0, 1) := by decide +kernel
theorem dX4_wantRow_1 : decode cX4_wantRow 1 = .ok (.getfield 71, 3) := by decide +kernel
theorem dX4_wantRow_4 : decode cX4_wantRow 4 = .ok (.iconst (-1), 1) := by decide +kernel
theorem dX4_wantRow_5 : decode cX4_wantRow 5 = .ok (.if_icmp .eq 7, 3) := by decide +kernel
theorem dX4_wantRow_8 : decode cX4_wantRow 8 = .ok (.iconst 2, 1) := by decide +kernel
theorem dX4_wantRow_9 : decode cX4_wantRow 9 = .ok (.goto 16, 3) := by decide +kernel
theorem dX4_wantRow_12 : decode cX4_wantRow 12 = .ok (.aload_n 0, 1) := by decide +kernel
theorem dX4_wantRow_13 : decode cX4_wantRow 13 = .ok (.getfield 68, 3) := by decide +kernel
theorem dX4_wantRow_16 : decode cX4_wantRow 16 = .ok (.iconst (-1), 1) := by decide +kernel
theorem dX4_wantRow_17 : decode cX4_wantRow 17 = .ok (.if_icmp .ne 7, 3) := by decide +kernel
theorem dX4_wantRow_20 : decode cX4_wantRow 20 = .ok (.iconst 1, 1) := by decide +kernel
theorem dX4_wantRow_21 : decode cX4_wantRow 21 = .ok (.goto 4, 3) := by decide +kernel
theorem dX4_wantRow_24 : decode cX4_wantRow 24 = .ok (.iconst 0, 1) := by decide +kernel
theorem dX4_wantRow_25 : decode cX4_wantRow 25 = .ok (.ireturn, 1) := by decide +kernel
set_option maxRecDepth 20000 in
theorem ggX4_goToRow_X4_go : GoodIn wsX4_goToRow wsX4_go := goodIn_r _ [5, 6, 7, 8, 9, 10, 11, 12, 13, 4, 14, 19, 20, 21, 22, 23, 24, 25, 26, 27, 28, 29, 30, 31, 32] (by decide +kernel) (by decide +kernel)
set_option maxRecDepth 20000 in
theorem gX4_goToRow_X4_go : GoodIn wsX4_goToRow (wsV RX4 74 RX4 yX4_go wsX4_go) := goodIn_app (goodIn_of _ (by decide +kernel)) ggX4_goToRow_X4_go
set_option maxRecDepth 20000 in
theorem ggX4_goToRow_X4_wantRow : GoodIn wsX4_goToRow wsX4_wantRow := goodIn_r _ [18, 8, 7, 19, 20, 21, 22, 23, 24, 25, 26, 27, 28, 29, 30, 31, 32] (by decide +kernel) (by decide +kernel)
set_option maxRecDepth 20000 in
theorem gX4_goToRow_X4_wantRow : GoodIn wsX4_goToRow (wsV RX4 78 RX4 yX4_wantRow wsX4_wantRow) := goodIn_app (goodIn_of _ (by decide +kernel)) ggX4_goToRow_X4_wantRow
theorem dX4_goToRow_0 : decode cX4_goToRow 0 = .ok (.aload_n 0, 1) := by decide +kernel
theorem dX4_goToRow_1 : decode cX4_goToRow 1 = .ok (.iload_n 1, 1) := by decide +kernel
theorem dX4_goToRow_2 : decode cX4_goToRow 2 = .ok (.iload_n 2, 1) := by decide +kernel
theorem dX4_goToRow_3 : decode cX4_goToRow 3 = .ok (.iload_n 3, 1) := by decide +kernel
theorem dX4_goToRow_4 : decode cX4_goToRow 4 = .ok (.iload 4, 2) := by decide +kernel
theorem dX4_goToRow_6 : decode cX4_goToRow 6 = .ok (.iconst 0, 1) := by decide +kernel
theorem dX4_goToRow_7 : decode cX4_goToRow 7 = .ok (.invokevirtual 74, 3) := by decide +kernel
theorem dX4_goToRow_10 : decode cX4_goToRow 10 = .ok (.istore 5, 2) := by decide +kernel
theorem dX4_goToRow_12 : decode cX4_goToRow 12 = .ok (.iload 5, 2) := by decide +kernel
theorem dX4_goToRow_14 : decode cX4_goToRow 14 = .ok (.ifCond .eq 8, 3) := by decide +kernel
theorem dX4_goToRow_17 : decode cX4_goToRow 17 = .ok (.iload 5, 2) := by decide +kernel
theorem dX4_goToRow_19 : decode cX4_goToRow 19 = .ok (.goto 7, 3) := by decide +kernel
theorem dX4_goToRow_22 : decode cX4_goToRow 22 = .ok (.aload_n 0, 1) := by decide +kernel
theorem dX4_goToRow_23 : decode cX4_goToRow 23 = .ok (.invokevirtual 78, 3) := by decide +kernel
theorem dX4_goToRow_26 : decode cX4_goToRow 26 = .ok (.ireturn, 1) := by decide +kernel
theorem dX4_last_0 : decode cX4_last 0 = .ok (.iload_n 0, 1) := by decide +kernel
theorem dX4_last_1 : decode cX4_last 1 = .ok (.iconst 1, 1) := by decide +kernel
theorem dX4_last_2 : decode cX4_last 2 = .ok (.if_icmp .ne 7, 3) := by decide +kernel
theorem dX4_last_5 : decode cX4_last 5 = .ok (.iload_n 1, 1) := by decide +kernel
theorem dX4_last_6 : decode cX4_last 6 = .ok (.goto 13, 3) := by decide +kernel
theorem dX4_last_9 : decode cX4_last 9 = .ok (.iload_n 0, 1) := by decide +kernel
theorem dX4_last_10 : decode cX4_last 10 = .ok (.iconst 2, 1) := by decide +kernel
theorem dX4_last_11 : decode cX4_last 11 = .ok (.if_icmp .ne 7, 3) := by decide +kernel
theorem dX4_last_14 : decode cX4_last 14 = .ok (.iload_n 2, 1) := by decide +kernel
theorem dX4_last_15 : decode cX4_last 15 = .ok (.goto 4, 3) := by decide +kernel
theorem dX4_last_18 : decode cX4_last 18 = .ok (.iload_n 3, 1) := by decide +kernel
theorem dX4_last_19 : decode cX4_last 19 = .ok (.ireturn, 1) := by decide +kernel
set_option maxRecDepth 20000 in
theorem ggX4_goToNumber_X4_goToRow : GoodIn wsX4_goToNumber wsX4_goToRow := goodIn_r _ [8, 9, 10, 11, 7, 12, 13, 2, 14, 3, 1, 15, 16, 17, 18, 19, 20, 21, 22, 26, 27, 28, 29, 30, 31, 32, 33, 34, 35, 36, 37, 38, 39] (by decide +kernel) (by decide +kernel)
set_option maxRecDepth 20000 in
theorem gX4_goToNumber_X4_goToRow : GoodIn wsX4_goToNumber (wsV RX4 82 RX4 yX4_goToRow wsX4_goToRow) := goodIn_app (goodIn_of _ (by decide +kernel)) ggX4_goToNumber_X4_goToRow
set_option maxRecDepth 20000 in
theorem ggX4_goToNumber_X4_last : GoodIn wsX4_goToNumber wsX4_last := goodIn_r _ [25] (by decide +kernel) (by decide +kernel)
set_option maxRecDepth 20000 in
theorem gX4_goToNumber_X4_last : GoodIn wsX4_goToNumber (va_wsS RX4 86 yX4_last wsX4_last) := goodIn_app (goodIn_of _ (by decide +kernel)) ggX4_goToNumber_X4_last
set_option maxRecDepth 20000 in
theorem ggX4_goToNumber_X4_in : GoodIn wsX4_goToNumber wsX4_in := goodIn_r _ [18] (by decide +kernel) (by decide +kernel)
set_option maxRecDepth 20000 in
theorem gX4_goToNumber_X4_in : GoodIn wsX4_goToNumber (va_wsS RX4 36 yX4_in wsX4_in) := goodIn_app (goodIn_of _ (by decide +kernel)) ggX4_goToNumber_X4_in
theorem dX4_goToNumber_0 : decode cX4_goToNumber 0 = .ok (.aload_n 0, 1) := by decide +kernel
theorem dX4_goToNumber_1 : decode cX4_goToNumber 1 = .ok (.iload_n 1, 1) := by decide +kernel
theorem dX4_goToNumber_2 : decode cX4_goToNumber 2 = .ok (.iload_n 2, 1) := by decide +kernel
theorem dX4_goToNumber_3 : decode cX4_goToNumber 3 = .ok (.iconst 1, 1) := by decide +kernel
theorem dX4_goToNumber_4 : decode cX4_goToNumber 4 = .ok (.isub, 1) := by decide +kernel
theorem dX4_goToNumber_5 : decode cX4_goToNumber 5 = .ok (.iload_n 3, 1) := by decide +kernel
theorem dX4_goToNumber_6 : decode cX4_goToNumber 6 = .ok (.iload 4, 2) := by decide +kernel
theorem dX4_goToNumber_8 : decode cX4_goToNumber 8 = .ok (.invokevirtual 82, 3) := by decide +kernel
theorem dX4_goToNumber_11 : decode cX4_goToNumber 11 = .ok (.istore 6, 2) := by decide +kernel
theorem dX4_goToNumber_13 : decode cX4_goToNumber 13 = .ok (.iload 6, 2) := by decide +kernel
theorem dX4_goToNumber_15 : decode cX4_goToNumber 15 = .ok (.ifCond .eq 6, 3) := by decide +kernel
theorem dX4_goToNumber_18 : decode cX4_goToNumber 18 = .ok (.iload 6, 2) := by decide +kernel
theorem dX4_goToNumber_20 : decode cX4_goToNumber 20 = .ok (.ireturn, 1) := by decide +kernel
theorem dX4_goToNumber_21 : decode cX4_goToNumber 21 = .ok (.aload_n 0, 1) := by decide +kernel
theorem dX4_goToNumber_22 : decode cX4_goToNumber 22 = .ok (.getfield 13, 3) := by decide +kernel
theorem dX4_goToNumber_25 : decode cX4_goToNumber 25 = .ok (.aload_n 0, 1) := by decide +kernel
theorem dX4_goToNumber_26 : decode cX4_goToNumber 26 = .ok (.getfield 68, 3) := by decide +kernel
theorem dX4_goToNumber_29 : decode cX4_goToNumber 29 = .ok (.iaload, 1) := by decide +kernel
theorem dX4_goToNumber_30 : decode cX4_goToNumber 30 = .ok (.iconst 1, 1) := by decide +kernel
theorem dX4_goToNumber_31 : decode cX4_goToNumber 31 = .ok (.if_icmp .le 7, 3) := by decide +kernel
theorem dX4_goToNumber_34 : decode cX4_goToNumber 34 = .ok (.iconst 2, 1) := by decide +kernel
theorem dX4_goToNumber_35 : decode cX4_goToNumber 35 = .ok (.goto 35, 3) := by decide +kernel
theorem dX4_goToNumber_38 : decode cX4_goToNumber 38 = .ok (.iload_n 2, 1) := by decide +kernel
theorem dX4_goToNumber_39 : decode cX4_goToNumber 39 = .ok (.iload_n 3, 1) := by decide +kernel
theorem dX4_goToNumber_40 : decode cX4_goToNumber 40 = .ok (.iload 4, 2) := by decide +kernel
theorem dX4_goToNumber_42 : decode cX4_goToNumber 42 = .ok (.iload 5, 2) := by decide +kernel
theorem dX4_goToNumber_44 : decode cX4_goToNumber 44 = .ok (.invokestatic 86, 3) := by decide +kernel
theorem dX4_goToNumber_47 : decode cX4_goToNumber 47 = .ok (.iconst 0, 1) := by decide +kernel
theorem dX4_goToNumber_48 : decode cX4_goToNumber 48 = .ok (.aload_n 0, 1) := by decide +kernel
theorem dX4_goToNumber_49 : decode cX4_goToNumber 49 = .ok (.getfield 16, 3) := by decide +kernel
theorem dX4_goToNumber_52 : decode cX4_goToNumber 52 = .ok (.aload_n 0, 1) := by decide +kernel
theorem dX4_goToNumber_53 : decode cX4_goToNumber 53 = .ok (.getfield 68, 3) := by decide +kernel
theorem dX4_goToNumber_56 : decode cX4_goToNumber 56 = .ok (.iaload, 1) := by decide +kernel
theorem dX4_goToNumber_57 : decode cX4_goToNumber 57 = .ok (.iconst 1, 1) := by decide +kernel
theorem dX4_goToNumber_58 : decode cX4_goToNumber 58 = .ok (.isub, 1) := by decide +kernel
theorem dX4_goToNumber_59 : decode cX4_goToNumber 59 = .ok (.invokestatic 36, 3) := by decide +kernel
theorem dX4_goToNumber_62 : decode cX4_goToNumber 62 = .ok (.ifCond .eq 7, 3) := by decide +kernel
theorem dX4_goToNumber_65 : decode cX4_goToNumber 65 = .ok (.iconst 0, 1) := by decide +kernel
theorem dX4_goToNumber_66 : decode cX4_goToNumber 66 = .ok (.goto 4, 3) := by decide +kernel
theorem dX4_goToNumber_69 : decode cX4_goToNumber 69 = .ok (.iconst 3, 1) := by decide +kernel
theorem dX4_goToNumber_70 : decode cX4_goToNumber 70 = .ok (.ireturn, 1) := by decide +kernel
set_option maxRecDepth 20000 in
theorem ggX4_make_X4_isBox : GoodIn wsX4_make wsX4_isBox := goodIn_r _ [10, 11, 12, 9, 13] (by decide +kernel) (by decide +kernel)
set_option maxRecDepth 20000 in
theorem gX4_make_X4_isBox : GoodIn wsX4_make (va_wsS RX4 89 yX4_isBox wsX4_isBox) := goodIn_app (goodIn_of _ (by decide +kernel)) ggX4_make_X4_isBox
set_option maxRecDepth 20000 in
theorem ggX4_make_X4_isKind : GoodIn wsX4_make wsX4_isKind := goodIn_r _ [16, 11, 12, 9, 13] (by decide +kernel) (by decide +kernel)
set_option maxRecDepth 20000 in
theorem gX4_make_X4_isKind : GoodIn wsX4_make (va_wsS RX4 93 yX4_isKind wsX4_isKind) := goodIn_app (goodIn_of _ (by decide +kernel)) ggX4_make_X4_isKind
set_option maxRecDepth 20000 in
theorem ggX4_make_X4_in : GoodIn wsX4_make wsX4_in := goodIn_r _ [13] (by decide +kernel) (by decide +kernel)
set_option maxRecDepth 20000 in
theorem gX4_make_X4_in : GoodIn wsX4_make (va_wsS RX4 36 yX4_in wsX4_in) := goodIn_app (goodIn_of _ (by decide +kernel)) ggX4_make_X4_in
set_option maxRecDepth 20000 in
theorem ggX4_make_X4_fails : GoodIn wsX4_make wsX4_fails := goodIn_r _ [20, 21, 22, 23, 24, 25, 26, 27, 28, 29, 30, 31, 32, 33, 34, 35] (by decide +kernel) (by decide +kernel)
set_option maxRecDepth 20000 in
theorem gX4_make_X4_fails : GoodIn wsX4_make (wsV RX4 96 RX4 yX4_fails wsX4_fails) := goodIn_app (goodIn_of _ (by decide +kernel)) ggX4_make_X4_fails
theorem dX4_make_0 : decode cX4_make 0 = .ok (.iload_n 1, 1) := by decide +kernel
theorem dX4_make_1 : decode cX4_make 1 = .ok (.invokestatic 89, 3) := by decide +kernel
theorem dX4_make_4 : decode cX4_make 4 = .ok (.ifCond .eq 19, 3) := by decide +kernel
theorem dX4_make_7 : decode cX4_make 7 = .ok (.iload_n 2, 1) := by decide +kernel
theorem dX4_make_8 : decode cX4_make 8 = .ok (.invokestatic 93, 3) := by decide +kernel
theorem dX4_make_11 : decode cX4_make 11 = .ok (.ifCond .eq 12, 3) := by decide +kernel
theorem dX4_make_14 : decode cX4_make 14 = .ok (.iload_n 3, 1) := by decide +kernel
theorem dX4_make_15 : decode cX4_make 15 = .ok (.iconst 1, 1) := by decide +kernel
theorem dX4_make_16 : decode cX4_make 16 = .ok (.iconst 3, 1) := by decide +kernel
theorem dX4_make_17 : decode cX4_make 17 = .ok (.invokestatic 36, 3) := by decide +kernel
theorem dX4_make_20 : decode cX4_make 20 = .ok (.ifCond .ne 5, 3) := by decide +kernel
theorem dX4_make_23 : decode cX4_make 23 = .ok (.iconst (-1), 1) := by decide +kernel
theorem dX4_make_24 : decode cX4_make 24 = .ok (.ireturn, 1) := by decide +kernel
theorem dX4_make_25 : decode cX4_make 25 = .ok (.aload_n 0, 1) := by decide +kernel
theorem dX4_make_26 : decode cX4_make 26 = .ok (.getfield 32, 3) := by decide +kernel
theorem dX4_make_29 : decode cX4_make 29 = .ok (.bipush 120, 2) := by decide +kernel
theorem dX4_make_31 : decode cX4_make 31 = .ok (.if_icmp .eq 10, 3) := by decide +kernel
theorem dX4_make_34 : decode cX4_make 34 = .ok (.iload 4, 2) := by decide +kernel
theorem dX4_make_36 : decode cX4_make 36 = .ok (.bipush 8, 2) := by decide +kernel
theorem dX4_make_38 : decode cX4_make 38 = .ok (.if_icmp .le 6, 3) := by decide +kernel
theorem dX4_make_41 : decode cX4_make 41 = .ok (.bipush (-2), 2) := by decide +kernel
theorem dX4_make_43 : decode cX4_make 43 = .ok (.ireturn, 1) := by decide +kernel
theorem dX4_make_44 : decode cX4_make 44 = .ok (.iload 4, 2) := by decide +kernel
theorem dX4_make_46 : decode cX4_make 46 = .ok (.ifCond .ge 9, 3) := by decide +kernel
theorem dX4_make_49 : decode cX4_make 49 = .ok (.aload_n 0, 1) := by decide +kernel
theorem dX4_make_50 : decode cX4_make 50 = .ok (.iconst 5, 1) := by decide +kernel
theorem dX4_make_51 : decode cX4_make 51 = .ok (.invokevirtual 96, 3) := by decide +kernel
theorem dX4_make_54 : decode cX4_make 54 = .ok (.ireturn, 1) := by decide +kernel
theorem dX4_make_55 : decode cX4_make 55 = .ok (.aload_n 0, 1) := by decide +kernel
theorem dX4_make_56 : decode cX4_make 56 = .ok (.getfield 7, 3) := by decide +kernel
theorem dX4_make_59 : decode cX4_make 59 = .ok (.aload_n 0, 1) := by decide +kernel
theorem dX4_make_60 : decode cX4_make 60 = .ok (.getfield 32, 3) := by decide +kernel
theorem dX4_make_63 : decode cX4_make 63 = .ok (.iload_n 2, 1) := by decide +kernel
theorem dX4_make_64 : decode cX4_make 64 = .ok (.iastore, 1) := by decide +kernel
theorem dX4_make_65 : decode cX4_make 65 = .ok (.aload_n 0, 1) := by decide +kernel
theorem dX4_make_66 : decode cX4_make 66 = .ok (.getfield 13, 3) := by decide +kernel
theorem dX4_make_69 : decode cX4_make 69 = .ok (.aload_n 0, 1) := by decide +kernel
theorem dX4_make_70 : decode cX4_make 70 = .ok (.getfield 32, 3) := by decide +kernel
theorem dX4_make_73 : decode cX4_make 73 = .ok (.iload_n 3, 1) := by decide +kernel
theorem dX4_make_74 : decode cX4_make 74 = .ok (.iastore, 1) := by decide +kernel
theorem dX4_make_75 : decode cX4_make 75 = .ok (.aload_n 0, 1) := by decide +kernel
theorem dX4_make_76 : decode cX4_make 76 = .ok (.getfield 16, 3) := by decide +kernel
theorem dX4_make_79 : decode cX4_make 79 = .ok (.aload_n 0, 1) := by decide +kernel
theorem dX4_make_80 : decode cX4_make 80 = .ok (.getfield 32, 3) := by decide +kernel
theorem dX4_make_83 : decode cX4_make 83 = .ok (.iload 4, 2) := by decide +kernel
theorem dX4_make_85 : decode cX4_make 85 = .ok (.iastore, 1) := by decide +kernel
theorem dX4_make_86 : decode cX4_make 86 = .ok (.iconst 0, 1) := by decide +kernel
theorem dX4_make_87 : decode cX4_make 87 = .ok (.istore 5, 2) := by decide +kernel
theorem dX4_make_89 : decode cX4_make 89 = .ok (.iload 5, 2) := by decide +kernel
theorem dX4_make_91 : decode cX4_make 91 = .ok (.bipush 8, 2) := by decide +kernel
theorem dX4_make_93 : decode cX4_make 93 = .ok (.if_icmp .ge 25, 3) := by decide +kernel
theorem dX4_make_96 : decode cX4_make 96 = .ok (.aload_n 0, 1) := by decide +kernel
theorem dX4_make_97 : decode cX4_make 97 = .ok (.getfield 23, 3) := by decide +kernel
theorem dX4_make_100 : decode cX4_make 100 = .ok (.bipush 8, 2) := by decide +kernel
theorem dX4_make_102 : decode cX4_make 102 = .ok (.aload_n 0, 1) := by decide +kernel
theorem dX4_make_103 : decode cX4_make 103 = .ok (.getfield 32, 3) := by decide +kernel
theorem dX4_make_106 : decode cX4_make 106 = .ok (.imul, 1) := by decide +kernel
theorem dX4_make_107 : decode cX4_make 107 = .ok (.iload 5, 2) := by decide +kernel
theorem dX4_make_109 : decode cX4_make 109 = .ok (.iadd, 1) := by decide +kernel
theorem dX4_make_110 : decode cX4_make 110 = .ok (.iconst (-1), 1) := by decide +kernel
theorem dX4_make_111 : decode cX4_make 111 = .ok (.iastore, 1) := by decide +kernel
theorem dX4_make_112 : decode cX4_make 112 = .ok (.iinc 5 1, 3) := by decide +kernel
theorem dX4_make_115 : decode cX4_make 115 = .ok (.goto (-26), 3) := by decide +kernel
theorem dX4_make_118 : decode cX4_make 118 = .ok (.aload_n 0, 1) := by decide +kernel
theorem dX4_make_119 : decode cX4_make 119 = .ok (.getfield 26, 3) := by decide +kernel
theorem dX4_make_122 : decode cX4_make 122 = .ok (.iload_n 1, 1) := by decide +kernel
theorem dX4_make_123 : decode cX4_make 123 = .ok (.aload_n 0, 1) := by decide +kernel
theorem dX4_make_124 : decode cX4_make 124 = .ok (.getfield 32, 3) := by decide +kernel
theorem dX4_make_127 : decode cX4_make 127 = .ok (.iastore, 1) := by decide +kernel
theorem dX4_make_128 : decode cX4_make 128 = .ok (.aload_n 0, 1) := by decide +kernel
theorem dX4_make_129 : decode cX4_make 129 = .ok (.dup, 1) := by decide +kernel
theorem dX4_make_130 : decode cX4_make 130 = .ok (.getfield 32, 3) := by decide +kernel
theorem dX4_make_133 : decode cX4_make 133 = .ok (.iconst 1, 1) := by decide +kernel
theorem dX4_make_134 : decode cX4_make 134 = .ok (.iadd, 1) := by decide +kernel
theorem dX4_make_135 : decode cX4_make 135 = .ok (.putfield 32, 3) := by decide +kernel
theorem dX4_make_138 : decode cX4_make 138 = .ok (.aload_n 0, 1) := by decide +kernel
theorem dX4_make_139 : decode cX4_make 139 = .ok (.getfield 32, 3) := by decide +kernel
theorem dX4_make_142 : decode cX4_make 142 = .ok (.iconst 1, 1) := by decide +kernel
theorem dX4_make_143 : decode cX4_make 143 = .ok (.isub, 1) := by decide +kernel
theorem dX4_make_144 : decode cX4_make 144 = .ok (.ireturn, 1) := by decide +kernel
set_option maxRecDepth 20000 in
theorem ggX4_take_X4_isBox : GoodIn wsX4_take wsX4_isBox := goodIn_r _ [5, 6, 7, 4, 8] (by decide +kernel) (by decide +kernel)
set_option maxRecDepth 20000 in
theorem gX4_take_X4_isBox : GoodIn wsX4_take (va_wsS RX4 89 yX4_isBox wsX4_isBox) := goodIn_app (goodIn_of _ (by decide +kernel)) ggX4_take_X4_isBox
theorem dX4_take_0 : decode cX4_take 0 = .ok (.iload_n 1, 1) := by decide +kernel
theorem dX4_take_1 : decode cX4_take 1 = .ok (.invokestatic 89, 3) := by decide +kernel
theorem dX4_take_4 : decode cX4_take 4 = .ok (.ifCond .eq 10, 3) := by decide +kernel
theorem dX4_take_7 : decode cX4_take 7 = .ok (.iload_n 2, 1) := by decide +kernel
theorem dX4_take_8 : decode cX4_take 8 = .ok (.invokestatic 89, 3) := by decide +kernel
theorem dX4_take_11 : decode cX4_take 11 = .ok (.ifCond .ne 5, 3) := by decide +kernel
theorem dX4_take_14 : decode cX4_take 14 = .ok (.iconst (-1), 1) := by decide +kernel
theorem dX4_take_15 : decode cX4_take 15 = .ok (.ireturn, 1) := by decide +kernel
theorem dX4_take_16 : decode cX4_take 16 = .ok (.aload_n 0, 1) := by decide +kernel
theorem dX4_take_17 : decode cX4_take 17 = .ok (.getfield 26, 3) := by decide +kernel
theorem dX4_take_20 : decode cX4_take 20 = .ok (.iload_n 1, 1) := by decide +kernel
theorem dX4_take_21 : decode cX4_take 21 = .ok (.aload_n 0, 1) := by decide +kernel
theorem dX4_take_22 : decode cX4_take 22 = .ok (.getfield 26, 3) := by decide +kernel
theorem dX4_take_25 : decode cX4_take 25 = .ok (.iload_n 2, 1) := by decide +kernel
theorem dX4_take_26 : decode cX4_take 26 = .ok (.iaload, 1) := by decide +kernel
theorem dX4_take_27 : decode cX4_take 27 = .ok (.iastore, 1) := by decide +kernel
theorem dX4_take_28 : decode cX4_take 28 = .ok (.aload_n 0, 1) := by decide +kernel
theorem dX4_take_29 : decode cX4_take 29 = .ok (.getfield 26, 3) := by decide +kernel
theorem dX4_take_32 : decode cX4_take 32 = .ok (.iload_n 1, 1) := by decide +kernel
theorem dX4_take_33 : decode cX4_take 33 = .ok (.iaload, 1) := by decide +kernel
theorem dX4_take_34 : decode cX4_take 34 = .ok (.iconst (-1), 1) := by decide +kernel
theorem dX4_take_35 : decode cX4_take 35 = .ok (.if_icmp .ne 7, 3) := by decide +kernel
theorem dX4_take_38 : decode cX4_take 38 = .ok (.iconst 0, 1) := by decide +kernel
theorem dX4_take_39 : decode cX4_take 39 = .ok (.goto 4, 3) := by decide +kernel
theorem dX4_take_42 : decode cX4_take 42 = .ok (.iconst 1, 1) := by decide +kernel
theorem dX4_take_43 : decode cX4_take 43 = .ok (.ireturn, 1) := by decide +kernel
set_option maxRecDepth 20000 in
theorem ggX4_empty_X4_isBox : GoodIn wsX4_empty wsX4_isBox := goodIn_r _ [5, 6, 7, 4, 8] (by decide +kernel) (by decide +kernel)
set_option maxRecDepth 20000 in
theorem gX4_empty_X4_isBox : GoodIn wsX4_empty (va_wsS RX4 89 yX4_isBox wsX4_isBox) := goodIn_app (goodIn_of _ (by decide +kernel)) ggX4_empty_X4_isBox
theorem dX4_empty_0 : decode cX4_empty 0 = .ok (.iload_n 1, 1) := by decide +kernel
theorem dX4_empty_1 : decode cX4_empty 1 = .ok (.invokestatic 89, 3) := by decide +kernel
theorem dX4_empty_4 : decode cX4_empty 4 = .ok (.ifCond .ne 5, 3) := by decide +kernel
theorem dX4_empty_7 : decode cX4_empty 7 = .ok (.iconst (-1), 1) := by decide +kernel
theorem dX4_empty_8 : decode cX4_empty 8 = .ok (.ireturn, 1) := by decide +kernel
theorem dX4_empty_9 : decode cX4_empty 9 = .ok (.aload_n 0, 1) := by decide +kernel
theorem dX4_empty_10 : decode cX4_empty 10 = .ok (.getfield 26, 3) := by decide +kernel
theorem dX4_empty_13 : decode cX4_empty 13 = .ok (.iload_n 1, 1) := by decide +kernel
theorem dX4_empty_14 : decode cX4_empty 14 = .ok (.iaload, 1) := by decide +kernel
theorem dX4_empty_15 : decode cX4_empty 15 = .ok (.iconst (-1), 1) := by decide +kernel
theorem dX4_empty_16 : decode cX4_empty 16 = .ok (.if_icmp .ne 7, 3) := by decide +kernel
theorem dX4_empty_19 : decode cX4_empty 19 = .ok (.iconst 0, 1) := by decide +kernel
theorem dX4_empty_20 : decode cX4_empty 20 = .ok (.goto 4, 3) := by decide +kernel
theorem dX4_empty_23 : decode cX4_empty 23 = .ok (.iconst 1, 1) := by decide +kernel
theorem dX4_empty_24 : decode cX4_empty 24 = .ok (.istore_n 2, 1) := by decide +kernel
theorem dX4_empty_25 : decode cX4_empty 25 = .ok (.aload_n 0, 1) := by decide +kernel
theorem dX4_empty_26 : decode cX4_empty 26 = .ok (.getfield 26, 3) := by decide +kernel
theorem dX4_empty_29 : decode cX4_empty 29 = .ok (.iload_n 1, 1) := by decide +kernel
theorem dX4_empty_30 : decode cX4_empty 30 = .ok (.iconst (-1), 1) := by decide +kernel
theorem dX4_empty_31 : decode cX4_empty 31 = .ok (.iastore, 1) := by decide +kernel
theorem dX4_empty_32 : decode cX4_empty 32 = .ok (.iload_n 2, 1) := by decide +kernel
theorem dX4_empty_33 : decode cX4_empty 33 = .ok (.ireturn, 1) := by decide +kernel
set_option maxRecDepth 20000 in
theorem ggX4_same_X4_isBox : GoodIn wsX4_same wsX4_isBox := goodIn_r _ [5, 6, 7, 4, 8] (by decide +kernel) (by decide +kernel)
set_option maxRecDepth 20000 in
theorem gX4_same_X4_isBox : GoodIn wsX4_same (va_wsS RX4 89 yX4_isBox wsX4_isBox) := goodIn_app (goodIn_of _ (by decide +kernel)) ggX4_same_X4_isBox
theorem dX4_same_0 : decode cX4_same 0 = .ok (.iload_n 1, 1) := by decide +kernel
theorem dX4_same_1 : decode cX4_same 1 = .ok (.invokestatic 89, 3) := by decide +kernel
theorem dX4_same_4 : decode cX4_same 4 = .ok (.ifCond .eq 10, 3) := by decide +kernel
theorem dX4_same_7 : decode cX4_same 7 = .ok (.iload_n 2, 1) := by decide +kernel
theorem dX4_same_8 : decode cX4_same 8 = .ok (.invokestatic 89, 3) := by decide +kernel
theorem dX4_same_11 : decode cX4_same 11 = .ok (.ifCond .ne 7, 3) := by decide +kernel
theorem dX4_same_14 : decode cX4_same 14 = .ok (.iconst (-1), 1) := by decide +kernel
theorem dX4_same_15 : decode cX4_same 15 = .ok (.goto 23, 3) := by decide +kernel
theorem dX4_same_18 : decode cX4_same 18 = .ok (.aload_n 0, 1) := by decide +kernel
theorem dX4_same_19 : decode cX4_same 19 = .ok (.getfield 26, 3) := by decide +kernel
theorem dX4_same_22 : decode cX4_same 22 = .ok (.iload_n 1, 1) := by decide +kernel
theorem dX4_same_23 : decode cX4_same 23 = .ok (.iaload, 1) := by decide +kernel
theorem dX4_same_24 : decode cX4_same 24 = .ok (.aload_n 0, 1) := by decide +kernel
theorem dX4_same_25 : decode cX4_same 25 = .ok (.getfield 26, 3) := by decide +kernel
theorem dX4_same_28 : decode cX4_same 28 = .ok (.iload_n 2, 1) := by decide +kernel
theorem dX4_same_29 : decode cX4_same 29 = .ok (.iaload, 1) := by decide +kernel
theorem dX4_same_30 : decode cX4_same 30 = .ok (.if_icmp .ne 7, 3) := by decide +kernel
theorem dX4_same_33 : decode cX4_same 33 = .ok (.iconst 1, 1) := by decide +kernel
theorem dX4_same_34 : decode cX4_same 34 = .ok (.goto 4, 3) := by decide +kernel
theorem dX4_same_37 : decode cX4_same 37 = .ok (.iconst 0, 1) := by decide +kernel
theorem dX4_same_38 : decode cX4_same 38 = .ok (.ireturn, 1) := by decide +kernel
set_option maxRecDepth 20000 in
theorem ggX4_look_X4_isBox : GoodIn wsX4_look wsX4_isBox := goodIn_r _ [10, 11, 12, 9, 13] (by decide +kernel) (by decide +kernel)
set_option maxRecDepth 20000 in
theorem gX4_look_X4_isBox : GoodIn wsX4_look (va_wsS RX4 89 yX4_isBox wsX4_isBox) := goodIn_app (goodIn_of _ (by decide +kernel)) ggX4_look_X4_isBox
set_option maxRecDepth 20000 in
theorem ggX4_look_X4_in : GoodIn wsX4_look wsX4_in := goodIn_r _ [13] (by decide +kernel) (by decide +kernel)
set_option maxRecDepth 20000 in
theorem gX4_look_X4_in : GoodIn wsX4_look (va_wsS RX4 36 yX4_in wsX4_in) := goodIn_app (goodIn_of _ (by decide +kernel)) ggX4_look_X4_in
set_option maxRecDepth 20000 in
theorem ggX4_look_X4_go : GoodIn wsX4_look wsX4_go := goodIn_r _ [17, 18, 5, 1, 19, 6, 20, 11, 12, 9, 13, 26, 27, 28, 29, 30, 31, 32, 33, 34, 35, 36, 37, 38, 39] (by decide +kernel) (by decide +kernel)
set_option maxRecDepth 20000 in
theorem gX4_look_X4_go : GoodIn wsX4_look (wsV RX4 74 RX4 yX4_go wsX4_go) := goodIn_app (goodIn_of _ (by decide +kernel)) ggX4_look_X4_go
set_option maxRecDepth 20000 in
theorem ggX4_look_X4_fails : GoodIn wsX4_look wsX4_fails := goodIn_r _ [24, 25, 26, 27, 28, 29, 30, 31, 32, 33, 34, 35, 36, 37, 38, 39] (by decide +kernel) (by decide +kernel)
set_option maxRecDepth 20000 in
theorem gX4_look_X4_fails : GoodIn wsX4_look (wsV RX4 96 RX4 yX4_fails wsX4_fails) := goodIn_app (goodIn_of _ (by decide +kernel)) ggX4_look_X4_fails
theorem dX4_look_0 : decode cX4_look 0 = .ok (.iload_n 1, 1) := by decide +kernel
theorem dX4_look_1 : decode cX4_look 1 = .ok (.invokestatic 89, 3) := by decide +kernel
theorem dX4_look_4 : decode cX4_look 4 = .ok (.ifCond .eq 12, 3) := by decide +kernel
theorem dX4_look_7 : decode cX4_look 7 = .ok (.iload_n 2, 1) := by decide +kernel
theorem dX4_look_8 : decode cX4_look 8 = .ok (.iconst 0, 1) := by decide +kernel
theorem dX4_look_9 : decode cX4_look 9 = .ok (.iconst 3, 1) := by decide +kernel
theorem dX4_look_10 : decode cX4_look 10 = .ok (.invokestatic 36, 3) := by decide +kernel
theorem dX4_look_13 : decode cX4_look 13 = .ok (.ifCond .ne 5, 3) := by decide +kernel
theorem dX4_look_16 : decode cX4_look 16 = .ok (.iconst (-1), 1) := by decide +kernel
theorem dX4_look_17 : decode cX4_look 17 = .ok (.ireturn, 1) := by decide +kernel
theorem dX4_look_18 : decode cX4_look 18 = .ok (.aload_n 0, 1) := by decide +kernel
theorem dX4_look_19 : decode cX4_look 19 = .ok (.iload_n 1, 1) := by decide +kernel
theorem dX4_look_20 : decode cX4_look 20 = .ok (.iload_n 2, 1) := by decide +kernel
theorem dX4_look_21 : decode cX4_look 21 = .ok (.iload_n 3, 1) := by decide +kernel
theorem dX4_look_22 : decode cX4_look 22 = .ok (.iload 4, 2) := by decide +kernel
theorem dX4_look_24 : decode cX4_look 24 = .ok (.iload 5, 2) := by decide +kernel
theorem dX4_look_26 : decode cX4_look 26 = .ok (.invokevirtual 74, 3) := by decide +kernel
theorem dX4_look_29 : decode cX4_look 29 = .ok (.istore 6, 2) := by decide +kernel
theorem dX4_look_31 : decode cX4_look 31 = .ok (.iload 6, 2) := by decide +kernel
theorem dX4_look_33 : decode cX4_look 33 = .ok (.ifCond .eq 10, 3) := by decide +kernel
theorem dX4_look_36 : decode cX4_look 36 = .ok (.aload_n 0, 1) := by decide +kernel
theorem dX4_look_37 : decode cX4_look 37 = .ok (.iload 6, 2) := by decide +kernel
theorem dX4_look_39 : decode cX4_look 39 = .ok (.invokevirtual 96, 3) := by decide +kernel
theorem dX4_look_42 : decode cX4_look 42 = .ok (.ireturn, 1) := by decide +kernel
theorem dX4_look_43 : decode cX4_look 43 = .ok (.aload_n 0, 1) := by decide +kernel
theorem dX4_look_44 : decode cX4_look 44 = .ok (.getfield 71, 3) := by decide +kernel
theorem dX4_look_47 : decode cX4_look 47 = .ok (.iconst (-1), 1) := by decide +kernel
theorem dX4_look_48 : decode cX4_look 48 = .ok (.if_icmp .eq 26, 3) := by decide +kernel
theorem dX4_look_51 : decode cX4_look 51 = .ok (.aload_n 0, 1) := by decide +kernel
theorem dX4_look_52 : decode cX4_look 52 = .ok (.aload_n 0, 1) := by decide +kernel
theorem dX4_look_53 : decode cX4_look 53 = .ok (.getfield 19, 3) := by decide +kernel
theorem dX4_look_56 : decode cX4_look 56 = .ok (.aload_n 0, 1) := by decide +kernel
theorem dX4_look_57 : decode cX4_look 57 = .ok (.getfield 71, 3) := by decide +kernel
theorem dX4_look_60 : decode cX4_look 60 = .ok (.laload, 1) := by decide +kernel
theorem dX4_look_61 : decode cX4_look 61 = .ok (.putfield 100, 3) := by decide +kernel
theorem dX4_look_64 : decode cX4_look 64 = .ok (.aload_n 0, 1) := by decide +kernel
theorem dX4_look_65 : decode cX4_look 65 = .ok (.getfield 7, 3) := by decide +kernel
theorem dX4_look_68 : decode cX4_look 68 = .ok (.aload_n 0, 1) := by decide +kernel
theorem dX4_look_69 : decode cX4_look 69 = .ok (.getfield 68, 3) := by decide +kernel
theorem dX4_look_72 : decode cX4_look 72 = .ok (.iaload, 1) := by decide +kernel
theorem dX4_look_73 : decode cX4_look 73 = .ok (.ireturn, 1) := by decide +kernel
theorem dX4_look_74 : decode cX4_look 74 = .ok (.aload_n 0, 1) := by decide +kernel
theorem dX4_look_75 : decode cX4_look 75 = .ok (.getfield 68, 3) := by decide +kernel
theorem dX4_look_78 : decode cX4_look 78 = .ok (.iconst (-1), 1) := by decide +kernel
theorem dX4_look_79 : decode cX4_look 79 = .ok (.if_icmp .ne 8, 3) := by decide +kernel
theorem dX4_look_82 : decode cX4_look 82 = .ok (.bipush 40, 2) := by decide +kernel
theorem dX4_look_84 : decode cX4_look 84 = .ok (.goto 25, 3) := by decide +kernel
theorem dX4_look_87 : decode cX4_look 87 = .ok (.aload_n 0, 1) := by decide +kernel
theorem dX4_look_88 : decode cX4_look 88 = .ok (.getfield 7, 3) := by decide +kernel
theorem dX4_look_91 : decode cX4_look 91 = .ok (.aload_n 0, 1) := by decide +kernel
theorem dX4_look_92 : decode cX4_look 92 = .ok (.getfield 68, 3) := by decide +kernel
theorem dX4_look_95 : decode cX4_look 95 = .ok (.iaload, 1) := by decide +kernel
theorem dX4_look_96 : decode cX4_look 96 = .ok (.bipush 10, 2) := by decide +kernel
theorem dX4_look_98 : decode cX4_look 98 = .ok (.aload_n 0, 1) := by decide +kernel
theorem dX4_look_99 : decode cX4_look 99 = .ok (.getfield 13, 3) := by decide +kernel
theorem dX4_look_102 : decode cX4_look 102 = .ok (.aload_n 0, 1) := by decide +kernel
theorem dX4_look_103 : decode cX4_look 103 = .ok (.getfield 68, 3) := by decide +kernel
theorem dX4_look_106 : decode cX4_look 106 = .ok (.iaload, 1) := by decide +kernel
theorem dX4_look_107 : decode cX4_look 107 = .ok (.imul, 1) := by decide +kernel
theorem dX4_look_108 : decode cX4_look 108 = .ok (.iadd, 1) := by decide +kernel
theorem dX4_look_109 : decode cX4_look 109 = .ok (.ireturn, 1) := by decide +kernel
set_option maxRecDepth 20000 in
theorem ggX4_length_X4_isBox : GoodIn wsX4_length wsX4_isBox := goodIn_r _ [6, 7, 8, 5, 9] (by decide +kernel) (by decide +kernel)
set_option maxRecDepth 20000 in
theorem gX4_length_X4_isBox : GoodIn wsX4_length (va_wsS RX4 89 yX4_isBox wsX4_isBox) := goodIn_app (goodIn_of _ (by decide +kernel)) ggX4_length_X4_isBox
set_option maxRecDepth 20000 in
theorem ggX4_length_X4_in : GoodIn wsX4_length wsX4_in := goodIn_r _ [9] (by decide +kernel) (by decide +kernel)
set_option maxRecDepth 20000 in
theorem gX4_length_X4_in : GoodIn wsX4_length (va_wsS RX4 36 yX4_in wsX4_in) := goodIn_app (goodIn_of _ (by decide +kernel)) ggX4_length_X4_in
set_option maxRecDepth 20000 in
theorem ggX4_length_X4_go : GoodIn wsX4_length wsX4_go := goodIn_r _ [13, 14, 2, 15, 1, 16, 17, 7, 8, 5, 9, 27, 28, 29, 30, 31, 32, 33, 34, 35, 36, 37, 38, 39, 40] (by decide +kernel) (by decide +kernel)
set_option maxRecDepth 20000 in
theorem gX4_length_X4_go : GoodIn wsX4_length (wsV RX4 74 RX4 yX4_go wsX4_go) := goodIn_app (goodIn_of _ (by decide +kernel)) ggX4_length_X4_go
set_option maxRecDepth 20000 in
theorem ggX4_length_X4_wantRow : GoodIn wsX4_length wsX4_wantRow := goodIn_r _ [21, 15, 2, 27, 28, 29, 30, 31, 32, 33, 34, 35, 36, 37, 38, 39, 40] (by decide +kernel) (by decide +kernel)
set_option maxRecDepth 20000 in
theorem gX4_length_X4_wantRow : GoodIn wsX4_length (wsV RX4 78 RX4 yX4_wantRow wsX4_wantRow) := goodIn_app (goodIn_of _ (by decide +kernel)) ggX4_length_X4_wantRow
set_option maxRecDepth 20000 in
theorem ggX4_length_X4_fails : GoodIn wsX4_length wsX4_fails := goodIn_r _ [25, 26, 27, 28, 29, 30, 31, 32, 33, 34, 35, 36, 37, 38, 39, 40] (by decide +kernel) (by decide +kernel)
set_option maxRecDepth 20000 in
theorem gX4_length_X4_fails : GoodIn wsX4_length (wsV RX4 96 RX4 yX4_fails wsX4_fails) := goodIn_app (goodIn_of _ (by decide +kernel)) ggX4_length_X4_fails
theorem dX4_length_0 : decode cX4_length 0 = .ok (.iload_n 1, 1) := by decide +kernel
theorem dX4_length_1 : decode cX4_length 1 = .ok (.invokestatic 89, 3) := by decide +kernel
theorem dX4_length_4 : decode cX4_length 4 = .ok (.ifCond .eq 12, 3) := by decide +kernel
theorem dX4_length_7 : decode cX4_length 7 = .ok (.iload_n 2, 1) := by decide +kernel
theorem dX4_length_8 : decode cX4_length 8 = .ok (.iconst 0, 1) := by decide +kernel
theorem dX4_length_9 : decode cX4_length 9 = .ok (.iconst 3, 1) := by decide +kernel
theorem dX4_length_10 : decode cX4_length 10 = .ok (.invokestatic 36, 3) := by decide +kernel
theorem dX4_length_13 : decode cX4_length 13 = .ok (.ifCond .ne 5, 3) := by decide +kernel
theorem dX4_length_16 : decode cX4_length 16 = .ok (.iconst (-1), 1) := by decide +kernel
theorem dX4_length_17 : decode cX4_length 17 = .ok (.ireturn, 1) := by decide +kernel
theorem dX4_length_18 : decode cX4_length 18 = .ok (.aload_n 0, 1) := by decide +kernel
theorem dX4_length_19 : decode cX4_length 19 = .ok (.iload_n 1, 1) := by decide +kernel
theorem dX4_length_20 : decode cX4_length 20 = .ok (.iload_n 2, 1) := by decide +kernel
theorem dX4_length_21 : decode cX4_length 21 = .ok (.iload_n 3, 1) := by decide +kernel
theorem dX4_length_22 : decode cX4_length 22 = .ok (.iload 4, 2) := by decide +kernel
theorem dX4_length_24 : decode cX4_length 24 = .ok (.iload 5, 2) := by decide +kernel
theorem dX4_length_26 : decode cX4_length 26 = .ok (.invokevirtual 74, 3) := by decide +kernel
theorem dX4_length_29 : decode cX4_length 29 = .ok (.istore 6, 2) := by decide +kernel
theorem dX4_length_31 : decode cX4_length 31 = .ok (.iload 6, 2) := by decide +kernel
theorem dX4_length_33 : decode cX4_length 33 = .ok (.ifCond .eq 8, 3) := by decide +kernel
theorem dX4_length_36 : decode cX4_length 36 = .ok (.iload 6, 2) := by decide +kernel
theorem dX4_length_38 : decode cX4_length 38 = .ok (.goto 7, 3) := by decide +kernel
theorem dX4_length_41 : decode cX4_length 41 = .ok (.aload_n 0, 1) := by decide +kernel
theorem dX4_length_42 : decode cX4_length 42 = .ok (.invokevirtual 78, 3) := by decide +kernel
theorem dX4_length_45 : decode cX4_length 45 = .ok (.istore 6, 2) := by decide +kernel
theorem dX4_length_47 : decode cX4_length 47 = .ok (.iload 6, 2) := by decide +kernel
theorem dX4_length_49 : decode cX4_length 49 = .ok (.ifCond .eq 12, 3) := by decide +kernel
theorem dX4_length_52 : decode cX4_length 52 = .ok (.aload_n 0, 1) := by decide +kernel
theorem dX4_length_53 : decode cX4_length 53 = .ok (.iload 6, 2) := by decide +kernel
theorem dX4_length_55 : decode cX4_length 55 = .ok (.invokevirtual 96, 3) := by decide +kernel
theorem dX4_length_58 : decode cX4_length 58 = .ok (.goto 12, 3) := by decide +kernel
theorem dX4_length_61 : decode cX4_length 61 = .ok (.aload_n 0, 1) := by decide +kernel
theorem dX4_length_62 : decode cX4_length 62 = .ok (.getfield 16, 3) := by decide +kernel
theorem dX4_length_65 : decode cX4_length 65 = .ok (.aload_n 0, 1) := by decide +kernel
theorem dX4_length_66 : decode cX4_length 66 = .ok (.getfield 68, 3) := by decide +kernel
theorem dX4_length_69 : decode cX4_length 69 = .ok (.iaload, 1) := by decide +kernel
theorem dX4_length_70 : decode cX4_length 70 = .ok (.ireturn, 1) := by decide +kernel
set_option maxRecDepth 20000 in
theorem ggX4_read_X4_isBox : GoodIn wsX4_read wsX4_isBox := goodIn_r _ [8, 9, 10, 7, 11] (by decide +kernel) (by decide +kernel)
set_option maxRecDepth 20000 in
theorem gX4_read_X4_isBox : GoodIn wsX4_read (va_wsS RX4 89 yX4_isBox wsX4_isBox) := goodIn_app (goodIn_of _ (by decide +kernel)) ggX4_read_X4_isBox
set_option maxRecDepth 20000 in
theorem ggX4_read_X4_in : GoodIn wsX4_read wsX4_in := goodIn_r _ [11] (by decide +kernel) (by decide +kernel)
set_option maxRecDepth 20000 in
theorem gX4_read_X4_in : GoodIn wsX4_read (va_wsS RX4 36 yX4_in wsX4_in) := goodIn_app (goodIn_of _ (by decide +kernel)) ggX4_read_X4_in
set_option maxRecDepth 20000 in
theorem ggX4_read_X4_isKind : GoodIn wsX4_read wsX4_isKind := goodIn_r _ [14, 9, 10, 7, 11] (by decide +kernel) (by decide +kernel)
set_option maxRecDepth 20000 in
theorem gX4_read_X4_isKind : GoodIn wsX4_read (va_wsS RX4 93 yX4_isKind wsX4_isKind) := goodIn_app (goodIn_of _ (by decide +kernel)) ggX4_read_X4_isKind
set_option maxRecDepth 20000 in
theorem ggX4_read_X4_goToNumber : GoodIn wsX4_read wsX4_goToNumber := goodIn_r _ [18, 19, 2, 20, 21, 22, 23, 7, 24, 25, 26, 27, 28, 29, 30, 31, 9, 10, 11, 32, 33, 34, 35, 36, 37, 38, 79, 80, 81, 82, 83, 84, 85, 86, 87, 88, 89, 90, 91, 92] (by decide +kernel) (by decide +kernel)
set_option maxRecDepth 20000 in
theorem gX4_read_X4_goToNumber : GoodIn wsX4_read (wsV RX4 104 RX4 yX4_goToNumber wsX4_goToNumber) := goodIn_app (goodIn_of _ (by decide +kernel)) ggX4_read_X4_goToNumber
set_option maxRecDepth 20000 in
theorem ggX4_read_X4_goesInto : GoodIn wsX4_read wsX4_goesInto := goodIn_r _ [41] (by decide +kernel) (by decide +kernel)
set_option maxRecDepth 20000 in
theorem gX4_read_X4_goesInto : GoodIn wsX4_read (va_wsS RX4 107 yX4_goesInto wsX4_goesInto) := goodIn_app (goodIn_of _ (by decide +kernel)) ggX4_read_X4_goesInto
set_option maxRecDepth 20000 in
theorem ggX4_read_X4_fails : GoodIn wsX4_read wsX4_fails := goodIn_r _ [45, 46, 79, 80, 81, 82, 83, 84, 85, 86, 87, 88, 89, 90, 91, 92] (by decide +kernel) (by decide +kernel)
set_option maxRecDepth 20000 in
theorem gX4_read_X4_fails : GoodIn wsX4_read (wsV RX4 96 RX4 yX4_fails wsX4_fails) := goodIn_app (goodIn_of _ (by decide +kernel)) ggX4_read_X4_fails
set_option maxRecDepth 20000 in
theorem ggX4_read_X4_last : GoodIn wsX4_read wsX4_last := goodIn_r _ [38] (by decide +kernel) (by decide +kernel)
set_option maxRecDepth 20000 in
theorem gX4_read_X4_last : GoodIn wsX4_read (va_wsS RX4 86 yX4_last wsX4_last) := goodIn_app (goodIn_of _ (by decide +kernel)) ggX4_read_X4_last
set_option maxRecDepth 20000 in
theorem ggX4_read_X4_as : GoodIn wsX4_read wsX4_as := goodIn_r _ [49, 50, 51, 52, 53, 54, 55, 56, 57, 58, 59, 60, 61, 62, 63, 64, 65, 66, 67, 68, 69, 70, 71, 72, 73, 74, 75, 76, 77, 78] (by decide +kernel) (by decide +kernel)
set_option maxRecDepth 20000 in
theorem gX4_read_X4_as : GoodIn wsX4_read (va_wsS RX4 111 yX4_as wsX4_as) := goodIn_app (goodIn_of _ (by decide +kernel)) ggX4_read_X4_as
theorem dX4_read_0 : decode cX4_read 0 = .ok (.iload_n 1, 1) := by decide +kernel
theorem dX4_read_1 : decode cX4_read 1 = .ok (.invokestatic 89, 3) := by decide +kernel
theorem dX4_read_4 : decode cX4_read 4 = .ok (.ifCond .eq 20, 3) := by decide +kernel
theorem dX4_read_7 : decode cX4_read 7 = .ok (.iload_n 2, 1) := by decide +kernel
theorem dX4_read_8 : decode cX4_read 8 = .ok (.iconst 1, 1) := by decide +kernel
theorem dX4_read_9 : decode cX4_read 9 = .ok (.iconst 3, 1) := by decide +kernel
theorem dX4_read_10 : decode cX4_read 10 = .ok (.invokestatic 36, 3) := by decide +kernel
theorem dX4_read_13 : decode cX4_read 13 = .ok (.ifCond .eq 11, 3) := by decide +kernel
theorem dX4_read_16 : decode cX4_read 16 = .ok (.iload 6, 2) := by decide +kernel
theorem dX4_read_18 : decode cX4_read 18 = .ok (.invokestatic 93, 3) := by decide +kernel
theorem dX4_read_21 : decode cX4_read 21 = .ok (.ifCond .ne 5, 3) := by decide +kernel
theorem dX4_read_24 : decode cX4_read 24 = .ok (.iconst (-1), 1) := by decide +kernel
theorem dX4_read_25 : decode cX4_read 25 = .ok (.ireturn, 1) := by decide +kernel
theorem dX4_read_26 : decode cX4_read 26 = .ok (.aload_n 0, 1) := by decide +kernel
theorem dX4_read_27 : decode cX4_read 27 = .ok (.iload_n 1, 1) := by decide +kernel
theorem dX4_read_28 : decode cX4_read 28 = .ok (.iload_n 2, 1) := by decide +kernel
theorem dX4_read_29 : decode cX4_read 29 = .ok (.iload_n 3, 1) := by decide +kernel
theorem dX4_read_30 : decode cX4_read 30 = .ok (.iload 4, 2) := by decide +kernel
theorem dX4_read_32 : decode cX4_read 32 = .ok (.iload 5, 2) := by decide +kernel
theorem dX4_read_34 : decode cX4_read 34 = .ok (.invokevirtual 104, 3) := by decide +kernel
theorem dX4_read_37 : decode cX4_read 37 = .ok (.istore 7, 2) := by decide +kernel
theorem dX4_read_39 : decode cX4_read 39 = .ok (.iload 7, 2) := by decide +kernel
theorem dX4_read_41 : decode cX4_read 41 = .ok (.ifCond .ne 23, 3) := by decide +kernel
theorem dX4_read_44 : decode cX4_read 44 = .ok (.aload_n 0, 1) := by decide +kernel
theorem dX4_read_45 : decode cX4_read 45 = .ok (.getfield 7, 3) := by decide +kernel
theorem dX4_read_48 : decode cX4_read 48 = .ok (.aload_n 0, 1) := by decide +kernel
theorem dX4_read_49 : decode cX4_read 49 = .ok (.getfield 68, 3) := by decide +kernel
theorem dX4_read_52 : decode cX4_read 52 = .ok (.iaload, 1) := by decide +kernel
theorem dX4_read_53 : decode cX4_read 53 = .ok (.iload 6, 2) := by decide +kernel
theorem dX4_read_55 : decode cX4_read 55 = .ok (.invokestatic 107, 3) := by decide +kernel
theorem dX4_read_58 : decode cX4_read 58 = .ok (.ifCond .ne 6, 3) := by decide +kernel
theorem dX4_read_61 : decode cX4_read 61 = .ok (.iconst 4, 1) := by decide +kernel
theorem dX4_read_62 : decode cX4_read 62 = .ok (.istore 7, 2) := by decide +kernel
theorem dX4_read_64 : decode cX4_read 64 = .ok (.iload 7, 2) := by decide +kernel
theorem dX4_read_66 : decode cX4_read 66 = .ok (.ifCond .eq 10, 3) := by decide +kernel
theorem dX4_read_69 : decode cX4_read 69 = .ok (.aload_n 0, 1) := by decide +kernel
theorem dX4_read_70 : decode cX4_read 70 = .ok (.iload 7, 2) := by decide +kernel
theorem dX4_read_72 : decode cX4_read 72 = .ok (.invokevirtual 96, 3) := by decide +kernel
theorem dX4_read_75 : decode cX4_read 75 = .ok (.ireturn, 1) := by decide +kernel
theorem dX4_read_76 : decode cX4_read 76 = .ok (.aload_n 0, 1) := by decide +kernel
theorem dX4_read_77 : decode cX4_read 77 = .ok (.aload_n 0, 1) := by decide +kernel
theorem dX4_read_78 : decode cX4_read 78 = .ok (.getfield 7, 3) := by decide +kernel
theorem dX4_read_81 : decode cX4_read 81 = .ok (.aload_n 0, 1) := by decide +kernel
theorem dX4_read_82 : decode cX4_read 82 = .ok (.getfield 68, 3) := by decide +kernel
theorem dX4_read_85 : decode cX4_read 85 = .ok (.iaload, 1) := by decide +kernel
theorem dX4_read_86 : decode cX4_read 86 = .ok (.iload 6, 2) := by decide +kernel
theorem dX4_read_88 : decode cX4_read 88 = .ok (.aload_n 0, 1) := by decide +kernel
theorem dX4_read_89 : decode cX4_read 89 = .ok (.getfield 19, 3) := by decide +kernel
theorem dX4_read_92 : decode cX4_read 92 = .ok (.bipush 8, 2) := by decide +kernel
theorem dX4_read_94 : decode cX4_read 94 = .ok (.aload_n 0, 1) := by decide +kernel
theorem dX4_read_95 : decode cX4_read 95 = .ok (.getfield 68, 3) := by decide +kernel
theorem dX4_read_98 : decode cX4_read 98 = .ok (.imul, 1) := by decide +kernel
theorem dX4_read_99 : decode cX4_read 99 = .ok (.iload_n 2, 1) := by decide +kernel
theorem dX4_read_100 : decode cX4_read 100 = .ok (.iload_n 3, 1) := by decide +kernel
theorem dX4_read_101 : decode cX4_read 101 = .ok (.iload 4, 2) := by decide +kernel
theorem dX4_read_103 : decode cX4_read 103 = .ok (.iload 5, 2) := by decide +kernel
theorem dX4_read_105 : decode cX4_read 105 = .ok (.invokestatic 86, 3) := by decide +kernel
theorem dX4_read_108 : decode cX4_read 108 = .ok (.iadd, 1) := by decide +kernel
theorem dX4_read_109 : decode cX4_read 109 = .ok (.laload, 1) := by decide +kernel
theorem dX4_read_110 : decode cX4_read 110 = .ok (.invokestatic 111, 3) := by decide +kernel
theorem dX4_read_113 : decode cX4_read 113 = .ok (.putfield 100, 3) := by decide +kernel
theorem dX4_read_116 : decode cX4_read 116 = .ok (.iconst 1, 1) := by decide +kernel
theorem dX4_read_117 : decode cX4_read 117 = .ok (.ireturn, 1) := by decide +kernel
set_option maxRecDepth 20000 in
theorem ggX4_write_X4_isBox : GoodIn wsX4_write wsX4_isBox := goodIn_r _ [7, 8, 9, 6, 10] (by decide +kernel) (by decide +kernel)
set_option maxRecDepth 20000 in
theorem gX4_write_X4_isBox : GoodIn wsX4_write (va_wsS RX4 89 yX4_isBox wsX4_isBox) := goodIn_app (goodIn_of _ (by decide +kernel)) ggX4_write_X4_isBox
set_option maxRecDepth 20000 in
theorem ggX4_write_X4_in : GoodIn wsX4_write wsX4_in := goodIn_r _ [10] (by decide +kernel) (by decide +kernel)
set_option maxRecDepth 20000 in
theorem gX4_write_X4_in : GoodIn wsX4_write (va_wsS RX4 36 yX4_in wsX4_in) := goodIn_app (goodIn_of _ (by decide +kernel)) ggX4_write_X4_in
set_option maxRecDepth 20000 in
theorem ggX4_write_X4_isKind : GoodIn wsX4_write wsX4_isKind := goodIn_r _ [13, 8, 9, 6, 10] (by decide +kernel) (by decide +kernel)
set_option maxRecDepth 20000 in
theorem gX4_write_X4_isKind : GoodIn wsX4_write (va_wsS RX4 93 yX4_isKind wsX4_isKind) := goodIn_app (goodIn_of _ (by decide +kernel)) ggX4_write_X4_isKind
set_option maxRecDepth 20000 in
theorem ggX4_write_X4_goToNumber : GoodIn wsX4_write wsX4_goToNumber := goodIn_r _ [17, 18, 2, 19, 20, 21, 22, 6, 23, 24, 25, 26, 27, 28, 29, 30, 8, 9, 10, 31, 32, 33, 34, 35, 36, 37, 86, 87, 88, 89, 90, 91, 92, 93, 94, 95, 96, 97, 98, 99] (by decide +kernel) (by decide +kernel)
set_option maxRecDepth 20000 in
theorem gX4_write_X4_goToNumber : GoodIn wsX4_write (wsV RX4 104 RX4 yX4_goToNumber wsX4_goToNumber) := goodIn_app (goodIn_of _ (by decide +kernel)) ggX4_write_X4_goToNumber
set_option maxRecDepth 20000 in
theorem ggX4_write_X4_goesInto : GoodIn wsX4_write wsX4_goesInto := goodIn_r _ [40] (by decide +kernel) (by decide +kernel)
set_option maxRecDepth 20000 in
theorem gX4_write_X4_goesInto : GoodIn wsX4_write (va_wsS RX4 107 yX4_goesInto wsX4_goesInto) := goodIn_app (goodIn_of _ (by decide +kernel)) ggX4_write_X4_goesInto
set_option maxRecDepth 20000 in
theorem ggX4_write_X4_fails : GoodIn wsX4_write wsX4_fails := goodIn_r _ [44, 45, 86, 87, 88, 89, 90, 91, 92, 93, 94, 95, 96, 97, 98, 99] (by decide +kernel) (by decide +kernel)
set_option maxRecDepth 20000 in
theorem gX4_write_X4_fails : GoodIn wsX4_write (wsV RX4 96 RX4 yX4_fails wsX4_fails) := goodIn_app (goodIn_of _ (by decide +kernel)) ggX4_write_X4_fails
set_option maxRecDepth 20000 in
theorem ggX4_write_X4_last : GoodIn wsX4_write wsX4_last := goodIn_r _ [37] (by decide +kernel) (by decide +kernel)
set_option maxRecDepth 20000 in
theorem gX4_write_X4_last : GoodIn wsX4_write (va_wsS RX4 86 yX4_last wsX4_last) := goodIn_app (goodIn_of _ (by decide +kernel)) ggX4_write_X4_last
set_option maxRecDepth 20000 in
theorem ggX4_write_X4_ofBits : GoodIn wsX4_write wsX4_ofBits := goodIn_r _ [48, 49, 50, 51, 52, 53, 54, 55] (by decide +kernel) (by decide +kernel)
set_option maxRecDepth 20000 in
theorem gX4_write_X4_ofBits : GoodIn wsX4_write (va_wsS RX4 115 yX4_ofBits wsX4_ofBits) := goodIn_app (goodIn_of _ (by decide +kernel)) ggX4_write_X4_ofBits
set_option maxRecDepth 20000 in
theorem ggX4_write_X4_as : GoodIn wsX4_write wsX4_as := goodIn_r _ [58, 59, 60, 61, 62, 52, 55, 63, 64, 65, 66, 67, 68, 69, 70, 71, 72, 73, 74, 75, 76, 77, 78, 79, 80, 81, 82, 83, 84, 85] (by decide +kernel) (by decide +kernel)
set_option maxRecDepth 20000 in
theorem gX4_write_X4_as : GoodIn wsX4_write (va_wsS RX4 111 yX4_as wsX4_as) := goodIn_app (goodIn_of _ (by decide +kernel)) ggX4_write_X4_as
theorem dX4_write_0 : decode cX4_write 0 = .ok (.iload_n 1, 1) := by decide +kernel
theorem dX4_write_1 : decode cX4_write 1 = .ok (.invokestatic 89, 3) := by decide +kernel
theorem dX4_write_4 : decode cX4_write 4 = .ok (.ifCond .eq 20, 3) := by decide +kernel
theorem dX4_write_7 : decode cX4_write 7 = .ok (.iload_n 2, 1) := by decide +kernel
theorem dX4_write_8 : decode cX4_write 8 = .ok (.iconst 1, 1) := by decide +kernel
theorem dX4_write_9 : decode cX4_write 9 = .ok (.iconst 3, 1) := by decide +kernel
theorem dX4_write_10 : decode cX4_write 10 = .ok (.invokestatic 36, 3) := by decide +kernel
theorem dX4_write_13 : decode cX4_write 13 = .ok (.ifCond .eq 11, 3) := by decide +kernel
theorem dX4_write_16 : decode cX4_write 16 = .ok (.iload 6, 2) := by decide +kernel
end
section
theorem dX4_write_18 : decode cX4_write 18 = .ok (.invokestatic 93, 3) := by decide +kernel
theorem dX4_write_21 : decode cX4_write 21 = .ok (.ifCond .ne 5, 3) := by decide +kernel
theorem dX4_write_24 : decode cX4_write 24 = .ok (.iconst (-1), 1) := by decide +kernel
theorem dX4_write_25 : decode cX4_write 25 = .ok (.ireturn, 1) := by decide +kernel
theorem dX4_write_26 : decode cX4_write 26 = .ok (.aload_n 0, 1) := by decide +kernel
theorem dX4_write_27 : decode cX4_write 27 = .ok (.iload_n 1, 1) := by decide +kernel
theorem dX4_write_28 : decode cX4_write 28 = .ok (.iload_n 2, 1) := by decide +kernel
theorem dX4_write_29 : decode cX4_write 29 = .ok (.iload_n 3, 1) := by decide +kernel
theorem dX4_write_30 : decode cX4_write 30 = .ok (.iload 4, 2) := by decide +kernel
theorem dX4_write_32 : decode cX4_write 32 = .ok (.iload 5, 2) := by decide +kernel
theorem dX4_write_34 : decode cX4_write 34 = .ok (.invokevirtual 104, 3) := by decide +kernel
theorem dX4_write_37 : decode cX4_write 37 = .ok (.istore 9, 2) := by decide +kernel
theorem dX4_write_39 : decode cX4_write 39 = .ok (.iload 9, 2) := by decide +kernel
theorem dX4_write_41 : decode cX4_write 41 = .ok (.ifCond .ne 23, 3) := by decide +kernel
theorem dX4_write_44 : decode cX4_write 44 = .ok (.iload 6, 2) := by decide +kernel
theorem dX4_write_46 : decode cX4_write 46 = .ok (.aload_n 0, 1) := by decide +kernel
theorem dX4_write_47 : decode cX4_write 47 = .ok (.getfield 7, 3) := by decide +kernel
theorem dX4_write_50 : decode cX4_write 50 = .ok (.aload_n 0, 1) := by decide +kernel
theorem dX4_write_51 : decode cX4_write 51 = .ok (.getfield 68, 3) := by decide +kernel
theorem dX4_write_54 : decode cX4_write 54 = .ok (.iaload, 1) := by decide +kernel
theorem dX4_write_55 : decode cX4_write 55 = .ok (.invokestatic 107, 3) := by decide +kernel
theorem dX4_write_58 : decode cX4_write 58 = .ok (.ifCond .ne 6, 3) := by decide +kernel
theorem dX4_write_61 : decode cX4_write 61 = .ok (.iconst 4, 1) := by decide +kernel
theorem dX4_write_62 : decode cX4_write 62 = .ok (.istore 9, 2) := by decide +kernel
theorem dX4_write_64 : decode cX4_write 64 = .ok (.iload 9, 2) := by decide +kernel
theorem dX4_write_66 : decode cX4_write 66 = .ok (.ifCond .eq 10, 3) := by decide +kernel
theorem dX4_write_69 : decode cX4_write 69 = .ok (.aload_n 0, 1) := by decide +kernel
theorem dX4_write_70 : decode cX4_write 70 = .ok (.iload 9, 2) := by decide +kernel
theorem dX4_write_72 : decode cX4_write 72 = .ok (.invokevirtual 96, 3) := by decide +kernel
theorem dX4_write_75 : decode cX4_write 75 = .ok (.ireturn, 1) := by decide +kernel
theorem dX4_write_76 : decode cX4_write 76 = .ok (.aload_n 0, 1) := by decide +kernel
theorem dX4_write_77 : decode cX4_write 77 = .ok (.getfield 19, 3) := by decide +kernel
theorem dX4_write_80 : decode cX4_write 80 = .ok (.bipush 8, 2) := by decide +kernel
theorem dX4_write_82 : decode cX4_write 82 = .ok (.aload_n 0, 1) := by decide +kernel
theorem dX4_write_83 : decode cX4_write 83 = .ok (.getfield 68, 3) := by decide +kernel
theorem dX4_write_86 : decode cX4_write 86 = .ok (.imul, 1) := by decide +kernel
theorem dX4_write_87 : decode cX4_write 87 = .ok (.iload_n 2, 1) := by decide +kernel
theorem dX4_write_88 : decode cX4_write 88 = .ok (.iload_n 3, 1) := by decide +kernel
theorem dX4_write_89 : decode cX4_write 89 = .ok (.iload 4, 2) := by decide +kernel
theorem dX4_write_91 : decode cX4_write 91 = .ok (.iload 5, 2) := by decide +kernel
theorem dX4_write_93 : decode cX4_write 93 = .ok (.invokestatic 86, 3) := by decide +kernel
theorem dX4_write_96 : decode cX4_write 96 = .ok (.iadd, 1) := by decide +kernel
theorem dX4_write_97 : decode cX4_write 97 = .ok (.iload 6, 2) := by decide +kernel
theorem dX4_write_99 : decode cX4_write 99 = .ok (.aload_n 0, 1) := by decide +kernel
theorem dX4_write_100 : decode cX4_write 100 = .ok (.getfield 7, 3) := by decide +kernel
theorem dX4_write_103 : decode cX4_write 103 = .ok (.aload_n 0, 1) := by decide +kernel
theorem dX4_write_104 : decode cX4_write 104 = .ok (.getfield 68, 3) := by decide +kernel
theorem dX4_write_107 : decode cX4_write 107 = .ok (.iaload, 1) := by decide +kernel
theorem dX4_write_108 : decode cX4_write 108 = .ok (.iload 6, 2) := by decide +kernel
theorem dX4_write_110 : decode cX4_write 110 = .ok (.lload 7, 2) := by decide +kernel
theorem dX4_write_112 : decode cX4_write 112 = .ok (.invokestatic 115, 3) := by decide +kernel
theorem dX4_write_115 : decode cX4_write 115 = .ok (.invokestatic 111, 3) := by decide +kernel
theorem dX4_write_118 : decode cX4_write 118 = .ok (.lastore, 1) := by decide +kernel
theorem dX4_write_119 : decode cX4_write 119 = .ok (.iconst 1, 1) := by decide +kernel
theorem dX4_write_120 : decode cX4_write 120 = .ok (.ireturn, 1) := by decide +kernel
theorem dX4_fits_0 : decode cX4_fits 0 = .ok (.iload_n 1, 1) := by decide +kernel
theorem dX4_fits_1 : decode cX4_fits 1 = .ok (.iconst (-1), 1) := by decide +kernel
theorem dX4_fits_2 : decode cX4_fits 2 = .ok (.if_icmp .eq 35, 3) := by decide +kernel
theorem dX4_fits_5 : decode cX4_fits 5 = .ok (.aload_n 0, 1) := by decide +kernel
theorem dX4_fits_6 : decode cX4_fits 6 = .ok (.getfield 7, 3) := by decide +kernel
theorem dX4_fits_9 : decode cX4_fits 9 = .ok (.iload_n 1, 1) := by decide +kernel
theorem dX4_fits_10 : decode cX4_fits 10 = .ok (.iaload, 1) := by decide +kernel
theorem dX4_fits_11 : decode cX4_fits 11 = .ok (.aload_n 0, 1) := by decide +kernel
theorem dX4_fits_12 : decode cX4_fits 12 = .ok (.getfield 7, 3) := by decide +kernel
theorem dX4_fits_15 : decode cX4_fits 15 = .ok (.iload_n 2, 1) := by decide +kernel
theorem dX4_fits_16 : decode cX4_fits 16 = .ok (.iaload, 1) := by decide +kernel
theorem dX4_fits_17 : decode cX4_fits 17 = .ok (.if_icmp .ne 24, 3) := by decide +kernel
theorem dX4_fits_20 : decode cX4_fits 20 = .ok (.aload_n 0, 1) := by decide +kernel
theorem dX4_fits_21 : decode cX4_fits 21 = .ok (.getfield 13, 3) := by decide +kernel
theorem dX4_fits_24 : decode cX4_fits 24 = .ok (.iload_n 1, 1) := by decide +kernel
theorem dX4_fits_25 : decode cX4_fits 25 = .ok (.iaload, 1) := by decide +kernel
theorem dX4_fits_26 : decode cX4_fits 26 = .ok (.aload_n 0, 1) := by decide +kernel
theorem dX4_fits_27 : decode cX4_fits 27 = .ok (.getfield 13, 3) := by decide +kernel
theorem dX4_fits_30 : decode cX4_fits 30 = .ok (.iload_n 2, 1) := by decide +kernel
theorem dX4_fits_31 : decode cX4_fits 31 = .ok (.iaload, 1) := by decide +kernel
theorem dX4_fits_32 : decode cX4_fits 32 = .ok (.iconst 1, 1) := by decide +kernel
theorem dX4_fits_33 : decode cX4_fits 33 = .ok (.isub, 1) := by decide +kernel
theorem dX4_fits_34 : decode cX4_fits 34 = .ok (.if_icmp .ne 7, 3) := by decide +kernel
theorem dX4_fits_37 : decode cX4_fits 37 = .ok (.iconst 1, 1) := by decide +kernel
theorem dX4_fits_38 : decode cX4_fits 38 = .ok (.goto 4, 3) := by decide +kernel
theorem dX4_fits_41 : decode cX4_fits 41 = .ok (.iconst 0, 1) := by decide +kernel
theorem dX4_fits_42 : decode cX4_fits 42 = .ok (.ireturn, 1) := by decide +kernel
set_option maxRecDepth 20000 in
theorem ggX4_hang_X4_isBox : GoodIn wsX4_hang wsX4_isBox := goodIn_r _ [9, 10, 11, 8, 12] (by decide +kernel) (by decide +kernel)
set_option maxRecDepth 20000 in
theorem gX4_hang_X4_isBox : GoodIn wsX4_hang (va_wsS RX4 89 yX4_isBox wsX4_isBox) := goodIn_app (goodIn_of _ (by decide +kernel)) ggX4_hang_X4_isBox
set_option maxRecDepth 20000 in
theorem ggX4_hang_X4_in : GoodIn wsX4_hang wsX4_in := goodIn_r _ [12] (by decide +kernel) (by decide +kernel)
set_option maxRecDepth 20000 in
theorem gX4_hang_X4_in : GoodIn wsX4_hang (va_wsS RX4 36 yX4_in wsX4_in) := goodIn_app (goodIn_of _ (by decide +kernel)) ggX4_hang_X4_in
set_option maxRecDepth 20000 in
theorem ggX4_hang_X4_goToRow : GoodIn wsX4_hang wsX4_goToRow := goodIn_r _ [16, 17, 18, 19, 8, 20, 1, 3, 21, 4, 2, 5, 10, 11, 12, 22, 23, 24, 25, 39, 40, 41, 42, 43, 44, 45, 46, 47, 48, 49, 50, 51, 52] (by decide +kernel) (by decide +kernel)
set_option maxRecDepth 20000 in
theorem gX4_hang_X4_goToRow : GoodIn wsX4_hang (wsV RX4 82 RX4 yX4_goToRow wsX4_goToRow) := goodIn_app (goodIn_of _ (by decide +kernel)) ggX4_hang_X4_goToRow
set_option maxRecDepth 20000 in
theorem ggX4_hang_X4_fails : GoodIn wsX4_hang wsX4_fails := goodIn_r _ [29, 30, 39, 40, 41, 42, 43, 44, 45, 46, 47, 48, 49, 50, 51, 52] (by decide +kernel) (by decide +kernel)
set_option maxRecDepth 20000 in
theorem gX4_hang_X4_fails : GoodIn wsX4_hang (wsV RX4 96 RX4 yX4_fails wsX4_fails) := goodIn_app (goodIn_of _ (by decide +kernel)) ggX4_hang_X4_fails
set_option maxRecDepth 20000 in
theorem ggX4_hang_X4_last : GoodIn wsX4_hang wsX4_last := goodIn_r _ [33] (by decide +kernel) (by decide +kernel)
set_option maxRecDepth 20000 in
theorem gX4_hang_X4_last : GoodIn wsX4_hang (va_wsS RX4 86 yX4_last wsX4_last) := goodIn_app (goodIn_of _ (by decide +kernel)) ggX4_hang_X4_last
set_option maxRecDepth 20000 in
theorem ggX4_hang_X4_fits : GoodIn wsX4_hang wsX4_fits := goodIn_r _ [37, 38, 2, 39, 40, 41, 42, 43, 44, 45, 46, 47, 48, 49, 50, 51, 52] (by decide +kernel) (by decide +kernel)
set_option maxRecDepth 20000 in
theorem gX4_hang_X4_fits : GoodIn wsX4_hang (wsV RX4 119 RX4 yX4_fits wsX4_fits) := goodIn_app (goodIn_of _ (by decide +kernel)) ggX4_hang_X4_fits
theorem dX4_hang_0 : decode cX4_hang 0 = .ok (.iload_n 1, 1) := by decide +kernel
theorem dX4_hang_1 : decode cX4_hang 1 = .ok (.invokestatic 89, 3) := by decide +kernel
theorem dX4_hang_4 : decode cX4_hang 4 = .ok (.ifCond .eq 20, 3) := by decide +kernel
theorem dX4_hang_7 : decode cX4_hang 7 = .ok (.iload_n 2, 1) := by decide +kernel
theorem dX4_hang_8 : decode cX4_hang 8 = .ok (.iconst 1, 1) := by decide +kernel
theorem dX4_hang_9 : decode cX4_hang 9 = .ok (.iconst 3, 1) := by decide +kernel
theorem dX4_hang_10 : decode cX4_hang 10 = .ok (.invokestatic 36, 3) := by decide +kernel
theorem dX4_hang_13 : decode cX4_hang 13 = .ok (.ifCond .eq 11, 3) := by decide +kernel
theorem dX4_hang_16 : decode cX4_hang 16 = .ok (.iload 6, 2) := by decide +kernel
theorem dX4_hang_18 : decode cX4_hang 18 = .ok (.invokestatic 89, 3) := by decide +kernel
theorem dX4_hang_21 : decode cX4_hang 21 = .ok (.ifCond .ne 5, 3) := by decide +kernel
theorem dX4_hang_24 : decode cX4_hang 24 = .ok (.iconst (-1), 1) := by decide +kernel
theorem dX4_hang_25 : decode cX4_hang 25 = .ok (.ireturn, 1) := by decide +kernel
theorem dX4_hang_26 : decode cX4_hang 26 = .ok (.aload_n 0, 1) := by decide +kernel
theorem dX4_hang_27 : decode cX4_hang 27 = .ok (.iload_n 1, 1) := by decide +kernel
theorem dX4_hang_28 : decode cX4_hang 28 = .ok (.iload_n 2, 1) := by decide +kernel
theorem dX4_hang_29 : decode cX4_hang 29 = .ok (.iconst 1, 1) := by decide +kernel
theorem dX4_hang_30 : decode cX4_hang 30 = .ok (.isub, 1) := by decide +kernel
theorem dX4_hang_31 : decode cX4_hang 31 = .ok (.iload_n 3, 1) := by decide +kernel
theorem dX4_hang_32 : decode cX4_hang 32 = .ok (.iload 4, 2) := by decide +kernel
theorem dX4_hang_34 : decode cX4_hang 34 = .ok (.invokevirtual 82, 3) := by decide +kernel
theorem dX4_hang_37 : decode cX4_hang 37 = .ok (.istore 7, 2) := by decide +kernel
theorem dX4_hang_39 : decode cX4_hang 39 = .ok (.iload 7, 2) := by decide +kernel
theorem dX4_hang_41 : decode cX4_hang 41 = .ok (.ifCond .eq 10, 3) := by decide +kernel
theorem dX4_hang_44 : decode cX4_hang 44 = .ok (.aload_n 0, 1) := by decide +kernel
theorem dX4_hang_45 : decode cX4_hang 45 = .ok (.iload 7, 2) := by decide +kernel
theorem dX4_hang_47 : decode cX4_hang 47 = .ok (.invokevirtual 96, 3) := by decide +kernel
theorem dX4_hang_50 : decode cX4_hang 50 = .ok (.ireturn, 1) := by decide +kernel
theorem dX4_hang_51 : decode cX4_hang 51 = .ok (.iload_n 2, 1) := by decide +kernel
theorem dX4_hang_52 : decode cX4_hang 52 = .ok (.iload_n 3, 1) := by decide +kernel
theorem dX4_hang_53 : decode cX4_hang 53 = .ok (.iload 4, 2) := by decide +kernel
theorem dX4_hang_55 : decode cX4_hang 55 = .ok (.iload 5, 2) := by decide +kernel
theorem dX4_hang_57 : decode cX4_hang 57 = .ok (.invokestatic 86, 3) := by decide +kernel
theorem dX4_hang_60 : decode cX4_hang 60 = .ok (.istore 8, 2) := by decide +kernel
theorem dX4_hang_62 : decode cX4_hang 62 = .ok (.aload_n 0, 1) := by decide +kernel
theorem dX4_hang_63 : decode cX4_hang 63 = .ok (.getfield 26, 3) := by decide +kernel
theorem dX4_hang_66 : decode cX4_hang 66 = .ok (.iload 6, 2) := by decide +kernel
theorem dX4_hang_68 : decode cX4_hang 68 = .ok (.iaload, 1) := by decide +kernel
theorem dX4_hang_69 : decode cX4_hang 69 = .ok (.istore 9, 2) := by decide +kernel
theorem dX4_hang_71 : decode cX4_hang 71 = .ok (.aload_n 0, 1) := by decide +kernel
theorem dX4_hang_72 : decode cX4_hang 72 = .ok (.getfield 13, 3) := by decide +kernel
theorem dX4_hang_75 : decode cX4_hang 75 = .ok (.aload_n 0, 1) := by decide +kernel
theorem dX4_hang_76 : decode cX4_hang 76 = .ok (.getfield 68, 3) := by decide +kernel
theorem dX4_hang_79 : decode cX4_hang 79 = .ok (.iaload, 1) := by decide +kernel
theorem dX4_hang_80 : decode cX4_hang 80 = .ok (.iconst 1, 1) := by decide +kernel
theorem dX4_hang_81 : decode cX4_hang 81 = .ok (.if_icmp .ne 7, 3) := by decide +kernel
theorem dX4_hang_84 : decode cX4_hang 84 = .ok (.iconst 1, 1) := by decide +kernel
theorem dX4_hang_85 : decode cX4_hang 85 = .ok (.goto 4, 3) := by decide +kernel
theorem dX4_hang_88 : decode cX4_hang 88 = .ok (.iconst 0, 1) := by decide +kernel
theorem dX4_hang_89 : decode cX4_hang 89 = .ok (.istore 10, 2) := by decide +kernel
theorem dX4_hang_91 : decode cX4_hang 91 = .ok (.iload 10, 2) := by decide +kernel
theorem dX4_hang_93 : decode cX4_hang 93 = .ok (.ifCond .eq 15, 3) := by decide +kernel
theorem dX4_hang_96 : decode cX4_hang 96 = .ok (.iload 9, 2) := by decide +kernel
theorem dX4_hang_98 : decode cX4_hang 98 = .ok (.iconst (-1), 1) := by decide +kernel
theorem dX4_hang_99 : decode cX4_hang 99 = .ok (.if_icmp .ne 9, 3) := by decide +kernel
theorem dX4_hang_102 : decode cX4_hang 102 = .ok (.aload_n 0, 1) := by decide +kernel
theorem dX4_hang_103 : decode cX4_hang 103 = .ok (.iconst 4, 1) := by decide +kernel
theorem dX4_hang_104 : decode cX4_hang 104 = .ok (.invokevirtual 96, 3) := by decide +kernel
theorem dX4_hang_107 : decode cX4_hang 107 = .ok (.ireturn, 1) := by decide +kernel
theorem dX4_hang_108 : decode cX4_hang 108 = .ok (.iload 8, 2) := by decide +kernel
theorem dX4_hang_110 : decode cX4_hang 110 = .ok (.iconst 0, 1) := by decide +kernel
theorem dX4_hang_111 : decode cX4_hang 111 = .ok (.aload_n 0, 1) := by decide +kernel
theorem dX4_hang_112 : decode cX4_hang 112 = .ok (.getfield 16, 3) := by decide +kernel
theorem dX4_hang_115 : decode cX4_hang 115 = .ok (.aload_n 0, 1) := by decide +kernel
theorem dX4_hang_116 : decode cX4_hang 116 = .ok (.getfield 68, 3) := by decide +kernel
theorem dX4_hang_119 : decode cX4_hang 119 = .ok (.iaload, 1) := by decide +kernel
theorem dX4_hang_120 : decode cX4_hang 120 = .ok (.iconst 1, 1) := by decide +kernel
theorem dX4_hang_121 : decode cX4_hang 121 = .ok (.isub, 1) := by decide +kernel
theorem dX4_hang_122 : decode cX4_hang 122 = .ok (.invokestatic 36, 3) := by decide +kernel
theorem dX4_hang_125 : decode cX4_hang 125 = .ok (.ifCond .ne 9, 3) := by decide +kernel
theorem dX4_hang_128 : decode cX4_hang 128 = .ok (.aload_n 0, 1) := by decide +kernel
theorem dX4_hang_129 : decode cX4_hang 129 = .ok (.iconst 3, 1) := by decide +kernel
theorem dX4_hang_130 : decode cX4_hang 130 = .ok (.invokevirtual 96, 3) := by decide +kernel
theorem dX4_hang_133 : decode cX4_hang 133 = .ok (.ireturn, 1) := by decide +kernel
theorem dX4_hang_134 : decode cX4_hang 134 = .ok (.iload 10, 2) := by decide +kernel
theorem dX4_hang_136 : decode cX4_hang 136 = .ok (.ifCond .ne 16, 3) := by decide +kernel
theorem dX4_hang_139 : decode cX4_hang 139 = .ok (.aload_n 0, 1) := by decide +kernel
theorem dX4_hang_140 : decode cX4_hang 140 = .ok (.iload 9, 2) := by decide +kernel
theorem dX4_hang_142 : decode cX4_hang 142 = .ok (.aload_n 0, 1) := by decide +kernel
theorem dX4_hang_143 : decode cX4_hang 143 = .ok (.getfield 68, 3) := by decide +kernel
theorem dX4_hang_146 : decode cX4_hang 146 = .ok (.invokevirtual 119, 3) := by decide +kernel
theorem dX4_hang_149 : decode cX4_hang 149 = .ok (.ifCond .ne 9, 3) := by decide +kernel
theorem dX4_hang_152 : decode cX4_hang 152 = .ok (.aload_n 0, 1) := by decide +kernel
theorem dX4_hang_153 : decode cX4_hang 153 = .ok (.iconst 4, 1) := by decide +kernel
theorem dX4_hang_154 : decode cX4_hang 154 = .ok (.invokevirtual 96, 3) := by decide +kernel
theorem dX4_hang_157 : decode cX4_hang 157 = .ok (.ireturn, 1) := by decide +kernel
theorem dX4_hang_158 : decode cX4_hang 158 = .ok (.aload_n 0, 1) := by decide +kernel
theorem dX4_hang_159 : decode cX4_hang 159 = .ok (.getfield 23, 3) := by decide +kernel
theorem dX4_hang_162 : decode cX4_hang 162 = .ok (.bipush 8, 2) := by decide +kernel
theorem dX4_hang_164 : decode cX4_hang 164 = .ok (.aload_n 0, 1) := by decide +kernel
theorem dX4_hang_165 : decode cX4_hang 165 = .ok (.getfield 68, 3) := by decide +kernel
theorem dX4_hang_168 : decode cX4_hang 168 = .ok (.imul, 1) := by decide +kernel
theorem dX4_hang_169 : decode cX4_hang 169 = .ok (.iload 8, 2) := by decide +kernel
theorem dX4_hang_171 : decode cX4_hang 171 = .ok (.iadd, 1) := by decide +kernel
theorem dX4_hang_172 : decode cX4_hang 172 = .ok (.iload 9, 2) := by decide +kernel
theorem dX4_hang_174 : decode cX4_hang 174 = .ok (.iastore, 1) := by decide +kernel
theorem dX4_hang_175 : decode cX4_hang 175 = .ok (.iconst 1, 1) := by decide +kernel
theorem dX4_hang_176 : decode cX4_hang 176 = .ok (.ireturn, 1) := by decide +kernel
set_option maxRecDepth 20000 in
theorem ggX4_lift_X4_isBox : GoodIn wsX4_lift wsX4_isBox := goodIn_r _ [7, 8, 9, 6, 10] (by decide +kernel) (by decide +kernel)
set_option maxRecDepth 20000 in
theorem gX4_lift_X4_isBox : GoodIn wsX4_lift (va_wsS RX4 89 yX4_isBox wsX4_isBox) := goodIn_app (goodIn_of _ (by decide +kernel)) ggX4_lift_X4_isBox
set_option maxRecDepth 20000 in
theorem ggX4_lift_X4_in : GoodIn wsX4_lift wsX4_in := goodIn_r _ [10] (by decide +kernel) (by decide +kernel)
set_option maxRecDepth 20000 in
theorem gX4_lift_X4_in : GoodIn wsX4_lift (va_wsS RX4 36 yX4_in wsX4_in) := goodIn_app (goodIn_of _ (by decide +kernel)) ggX4_lift_X4_in
set_option maxRecDepth 20000 in
theorem ggX4_lift_X4_go : GoodIn wsX4_lift wsX4_go := goodIn_r _ [14, 2, 3, 1, 15, 16, 17, 8, 9, 6, 10, 23, 24, 25, 26, 27, 28, 29, 30, 31, 32, 33, 34, 35, 36] (by decide +kernel) (by decide +kernel)
set_option maxRecDepth 20000 in
theorem gX4_lift_X4_go : GoodIn wsX4_lift (wsV RX4 74 RX4 yX4_go wsX4_go) := goodIn_app (goodIn_of _ (by decide +kernel)) ggX4_lift_X4_go
set_option maxRecDepth 20000 in
theorem ggX4_lift_X4_fails : GoodIn wsX4_lift wsX4_fails := goodIn_r _ [21, 22, 23, 24, 25, 26, 27, 28, 29, 30, 31, 32, 33, 34, 35, 36] (by decide +kernel) (by decide +kernel)
set_option maxRecDepth 20000 in
theorem gX4_lift_X4_fails : GoodIn wsX4_lift (wsV RX4 96 RX4 yX4_fails wsX4_fails) := goodIn_app (goodIn_of _ (by decide +kernel)) ggX4_lift_X4_fails
theorem dX4_lift_0 : decode cX4_lift 0 = .ok (.iload_n 1, 1) := by decide +kernel
theorem dX4_lift_1 : decode cX4_lift 1 = .ok (.invokestatic 89, 3) := by decide +kernel
theorem dX4_lift_4 : decode cX4_lift 4 = .ok (.ifCond .eq 20, 3) := by decide +kernel
theorem dX4_lift_7 : decode cX4_lift 7 = .ok (.iload_n 2, 1) := by decide +kernel
theorem dX4_lift_8 : decode cX4_lift 8 = .ok (.iconst 1, 1) := by decide +kernel
theorem dX4_lift_9 : decode cX4_lift 9 = .ok (.iconst 3, 1) := by decide +kernel
theorem dX4_lift_10 : decode cX4_lift 10 = .ok (.invokestatic 36, 3) := by decide +kernel
theorem dX4_lift_13 : decode cX4_lift 13 = .ok (.ifCond .eq 11, 3) := by decide +kernel
theorem dX4_lift_16 : decode cX4_lift 16 = .ok (.iload 6, 2) := by decide +kernel
theorem dX4_lift_18 : decode cX4_lift 18 = .ok (.invokestatic 89, 3) := by decide +kernel
theorem dX4_lift_21 : decode cX4_lift 21 = .ok (.ifCond .ne 5, 3) := by decide +kernel
theorem dX4_lift_24 : decode cX4_lift 24 = .ok (.iconst (-1), 1) := by decide +kernel
theorem dX4_lift_25 : decode cX4_lift 25 = .ok (.ireturn, 1) := by decide +kernel
theorem dX4_lift_26 : decode cX4_lift 26 = .ok (.aload_n 0, 1) := by decide +kernel
theorem dX4_lift_27 : decode cX4_lift 27 = .ok (.iload_n 1, 1) := by decide +kernel
theorem dX4_lift_28 : decode cX4_lift 28 = .ok (.iload_n 2, 1) := by decide +kernel
theorem dX4_lift_29 : decode cX4_lift 29 = .ok (.iload_n 3, 1) := by decide +kernel
theorem dX4_lift_30 : decode cX4_lift 30 = .ok (.iload 4, 2) := by decide +kernel
theorem dX4_lift_32 : decode cX4_lift 32 = .ok (.iload 5, 2) := by decide +kernel
theorem dX4_lift_34 : decode cX4_lift 34 = .ok (.invokevirtual 74, 3) := by decide +kernel
theorem dX4_lift_37 : decode cX4_lift 37 = .ok (.istore 7, 2) := by decide +kernel
theorem dX4_lift_39 : decode cX4_lift 39 = .ok (.iload 7, 2) := by decide +kernel
theorem dX4_lift_41 : decode cX4_lift 41 = .ok (.ifCond .ne 14, 3) := by decide +kernel
theorem dX4_lift_44 : decode cX4_lift 44 = .ok (.aload_n 0, 1) := by decide +kernel
theorem dX4_lift_45 : decode cX4_lift 45 = .ok (.getfield 71, 3) := by decide +kernel
theorem dX4_lift_48 : decode cX4_lift 48 = .ok (.iconst (-1), 1) := by decide +kernel
theorem dX4_lift_49 : decode cX4_lift 49 = .ok (.if_icmp .eq 6, 3) := by decide +kernel
theorem dX4_lift_52 : decode cX4_lift 52 = .ok (.iconst 2, 1) := by decide +kernel
theorem dX4_lift_53 : decode cX4_lift 53 = .ok (.istore 7, 2) := by decide +kernel
theorem dX4_lift_55 : decode cX4_lift 55 = .ok (.iload 7, 2) := by decide +kernel
theorem dX4_lift_57 : decode cX4_lift 57 = .ok (.ifCond .eq 10, 3) := by decide +kernel
theorem dX4_lift_60 : decode cX4_lift 60 = .ok (.aload_n 0, 1) := by decide +kernel
theorem dX4_lift_61 : decode cX4_lift 61 = .ok (.iload 7, 2) := by decide +kernel
theorem dX4_lift_63 : decode cX4_lift 63 = .ok (.invokevirtual 96, 3) := by decide +kernel
theorem dX4_lift_66 : decode cX4_lift 66 = .ok (.ireturn, 1) := by decide +kernel
theorem dX4_lift_67 : decode cX4_lift 67 = .ok (.aload_n 0, 1) := by decide +kernel
theorem dX4_lift_68 : decode cX4_lift 68 = .ok (.getfield 26, 3) := by decide +kernel
theorem dX4_lift_71 : decode cX4_lift 71 = .ok (.iload 6, 2) := by decide +kernel
theorem dX4_lift_73 : decode cX4_lift 73 = .ok (.aload_n 0, 1) := by decide +kernel
theorem dX4_lift_74 : decode cX4_lift 74 = .ok (.getfield 68, 3) := by decide +kernel
theorem dX4_lift_77 : decode cX4_lift 77 = .ok (.iastore, 1) := by decide +kernel
theorem dX4_lift_78 : decode cX4_lift 78 = .ok (.aload_n 0, 1) := by decide +kernel
theorem dX4_lift_79 : decode cX4_lift 79 = .ok (.getfield 68, 3) := by decide +kernel
theorem dX4_lift_82 : decode cX4_lift 82 = .ok (.iconst (-1), 1) := by decide +kernel
theorem dX4_lift_83 : decode cX4_lift 83 = .ok (.if_icmp .ne 7, 3) := by decide +kernel
theorem dX4_lift_86 : decode cX4_lift 86 = .ok (.iconst 0, 1) := by decide +kernel
theorem dX4_lift_87 : decode cX4_lift 87 = .ok (.goto 4, 3) := by decide +kernel
theorem dX4_lift_90 : decode cX4_lift 90 = .ok (.iconst 1, 1) := by decide +kernel
theorem dX4_lift_91 : decode cX4_lift 91 = .ok (.ireturn, 1) := by decide +kernel
set_option maxRecDepth 20000 in
theorem ggX4_turn_X4_isBox : GoodIn wsX4_turn wsX4_isBox := goodIn_r _ [8, 9, 10, 7, 11] (by decide +kernel) (by decide +kernel)
set_option maxRecDepth 20000 in
theorem gX4_turn_X4_isBox : GoodIn wsX4_turn (va_wsS RX4 89 yX4_isBox wsX4_isBox) := goodIn_app (goodIn_of _ (by decide +kernel)) ggX4_turn_X4_isBox
set_option maxRecDepth 20000 in
theorem ggX4_turn_X4_in : GoodIn wsX4_turn wsX4_in := goodIn_r _ [11] (by decide +kernel) (by decide +kernel)
set_option maxRecDepth 20000 in
theorem gX4_turn_X4_in : GoodIn wsX4_turn (va_wsS RX4 36 yX4_in wsX4_in) := goodIn_app (goodIn_of _ (by decide +kernel)) ggX4_turn_X4_in
set_option maxRecDepth 20000 in
theorem ggX4_turn_X4_goToRow : GoodIn wsX4_turn wsX4_goToRow := goodIn_r _ [15, 16, 17, 18, 7, 19, 20, 2, 21, 1, 22, 4, 9, 10, 11, 23, 24, 25, 26, 32, 33, 34, 35, 36, 37, 38, 39, 40, 41, 42, 43, 44, 45] (by decide +kernel) (by decide +kernel)
set_option maxRecDepth 20000 in
theorem gX4_turn_X4_goToRow : GoodIn wsX4_turn (wsV RX4 82 RX4 yX4_goToRow wsX4_goToRow) := goodIn_app (goodIn_of _ (by decide +kernel)) ggX4_turn_X4_goToRow
set_option maxRecDepth 20000 in
theorem ggX4_turn_X4_fails : GoodIn wsX4_turn wsX4_fails := goodIn_r _ [30, 31, 32, 33, 34, 35, 36, 37, 38, 39, 40, 41, 42, 43, 44, 45] (by decide +kernel) (by decide +kernel)
set_option maxRecDepth 20000 in
theorem gX4_turn_X4_fails : GoodIn wsX4_turn (wsV RX4 96 RX4 yX4_fails wsX4_fails) := goodIn_app (goodIn_of _ (by decide +kernel)) ggX4_turn_X4_fails
theorem dX4_turn_0 : decode cX4_turn 0 = .ok (.iload_n 1, 1) := by decide +kernel
theorem dX4_turn_1 : decode cX4_turn 1 = .ok (.invokestatic 89, 3) := by decide +kernel
theorem dX4_turn_4 : decode cX4_turn 4 = .ok (.ifCond .eq 12, 3) := by decide +kernel
theorem dX4_turn_7 : decode cX4_turn 7 = .ok (.iload_n 2, 1) := by decide +kernel
theorem dX4_turn_8 : decode cX4_turn 8 = .ok (.iconst 0, 1) := by decide +kernel
theorem dX4_turn_9 : decode cX4_turn 9 = .ok (.iconst 2, 1) := by decide +kernel
theorem dX4_turn_10 : decode cX4_turn 10 = .ok (.invokestatic 36, 3) := by decide +kernel
theorem dX4_turn_13 : decode cX4_turn 13 = .ok (.ifCond .ne 5, 3) := by decide +kernel
theorem dX4_turn_16 : decode cX4_turn 16 = .ok (.iconst (-1), 1) := by decide +kernel
theorem dX4_turn_17 : decode cX4_turn 17 = .ok (.ireturn, 1) := by decide +kernel
theorem dX4_turn_18 : decode cX4_turn 18 = .ok (.aload_n 0, 1) := by decide +kernel
theorem dX4_turn_19 : decode cX4_turn 19 = .ok (.iload_n 1, 1) := by decide +kernel
theorem dX4_turn_20 : decode cX4_turn 20 = .ok (.iload_n 2, 1) := by decide +kernel
theorem dX4_turn_21 : decode cX4_turn 21 = .ok (.iload_n 3, 1) := by decide +kernel
theorem dX4_turn_22 : decode cX4_turn 22 = .ok (.iload 4, 2) := by decide +kernel
theorem dX4_turn_24 : decode cX4_turn 24 = .ok (.invokevirtual 82, 3) := by decide +kernel
theorem dX4_turn_27 : decode cX4_turn 27 = .ok (.istore 7, 2) := by decide +kernel
theorem dX4_turn_29 : decode cX4_turn 29 = .ok (.iload 7, 2) := by decide +kernel
theorem dX4_turn_31 : decode cX4_turn 31 = .ok (.ifCond .ne 46, 3) := by decide +kernel
theorem dX4_turn_34 : decode cX4_turn 34 = .ok (.iload 5, 2) := by decide +kernel
theorem dX4_turn_36 : decode cX4_turn 36 = .ok (.iconst 0, 1) := by decide +kernel
theorem dX4_turn_37 : decode cX4_turn 37 = .ok (.aload_n 0, 1) := by decide +kernel
theorem dX4_turn_38 : decode cX4_turn 38 = .ok (.getfield 16, 3) := by decide +kernel
theorem dX4_turn_41 : decode cX4_turn 41 = .ok (.aload_n 0, 1) := by decide +kernel
theorem dX4_turn_42 : decode cX4_turn 42 = .ok (.getfield 68, 3) := by decide +kernel
theorem dX4_turn_45 : decode cX4_turn 45 = .ok (.iaload, 1) := by decide +kernel
theorem dX4_turn_46 : decode cX4_turn 46 = .ok (.iconst 1, 1) := by decide +kernel
theorem dX4_turn_47 : decode cX4_turn 47 = .ok (.isub, 1) := by decide +kernel
theorem dX4_turn_48 : decode cX4_turn 48 = .ok (.invokestatic 36, 3) := by decide +kernel
theorem dX4_turn_51 : decode cX4_turn 51 = .ok (.ifCond .eq 23, 3) := by decide +kernel
theorem dX4_turn_54 : decode cX4_turn 54 = .ok (.iload 6, 2) := by decide +kernel
theorem dX4_turn_56 : decode cX4_turn 56 = .ok (.iconst 0, 1) := by decide +kernel
theorem dX4_turn_57 : decode cX4_turn 57 = .ok (.aload_n 0, 1) := by decide +kernel
theorem dX4_turn_58 : decode cX4_turn 58 = .ok (.getfield 16, 3) := by decide +kernel
theorem dX4_turn_61 : decode cX4_turn 61 = .ok (.aload_n 0, 1) := by decide +kernel
theorem dX4_turn_62 : decode cX4_turn 62 = .ok (.getfield 68, 3) := by decide +kernel
theorem dX4_turn_65 : decode cX4_turn 65 = .ok (.iaload, 1) := by decide +kernel
theorem dX4_turn_66 : decode cX4_turn 66 = .ok (.iconst 1, 1) := by decide +kernel
theorem dX4_turn_67 : decode cX4_turn 67 = .ok (.isub, 1) := by decide +kernel
theorem dX4_turn_68 : decode cX4_turn 68 = .ok (.invokestatic 36, 3) := by decide +kernel
theorem dX4_turn_71 : decode cX4_turn 71 = .ok (.ifCond .ne 6, 3) := by decide +kernel
theorem dX4_turn_74 : decode cX4_turn 74 = .ok (.iconst 3, 1) := by decide +kernel
theorem dX4_turn_75 : decode cX4_turn 75 = .ok (.istore 7, 2) := by decide +kernel
theorem dX4_turn_77 : decode cX4_turn 77 = .ok (.iload 7, 2) := by decide +kernel
theorem dX4_turn_79 : decode cX4_turn 79 = .ok (.ifCond .eq 10, 3) := by decide +kernel
theorem dX4_turn_82 : decode cX4_turn 82 = .ok (.aload_n 0, 1) := by decide +kernel
theorem dX4_turn_83 : decode cX4_turn 83 = .ok (.iload 7, 2) := by decide +kernel
theorem dX4_turn_85 : decode cX4_turn 85 = .ok (.invokevirtual 96, 3) := by decide +kernel
theorem dX4_turn_88 : decode cX4_turn 88 = .ok (.ireturn, 1) := by decide +kernel
theorem dX4_turn_89 : decode cX4_turn 89 = .ok (.bipush 8, 2) := by decide +kernel
theorem dX4_turn_91 : decode cX4_turn 91 = .ok (.aload_n 0, 1) := by decide +kernel
theorem dX4_turn_92 : decode cX4_turn 92 = .ok (.getfield 68, 3) := by decide +kernel
theorem dX4_turn_95 : decode cX4_turn 95 = .ok (.imul, 1) := by decide +kernel
theorem dX4_turn_96 : decode cX4_turn 96 = .ok (.iload 5, 2) := by decide +kernel
theorem dX4_turn_98 : decode cX4_turn 98 = .ok (.iadd, 1) := by decide +kernel
theorem dX4_turn_99 : decode cX4_turn 99 = .ok (.istore 8, 2) := by decide +kernel
theorem dX4_turn_101 : decode cX4_turn 101 = .ok (.bipush 8, 2) := by decide +kernel
theorem dX4_turn_103 : decode cX4_turn 103 = .ok (.aload_n 0, 1) := by decide +kernel
theorem dX4_turn_104 : decode cX4_turn 104 = .ok (.getfield 68, 3) := by decide +kernel
theorem dX4_turn_107 : decode cX4_turn 107 = .ok (.imul, 1) := by decide +kernel
theorem dX4_turn_108 : decode cX4_turn 108 = .ok (.iload 6, 2) := by decide +kernel
theorem dX4_turn_110 : decode cX4_turn 110 = .ok (.iadd, 1) := by decide +kernel
theorem dX4_turn_111 : decode cX4_turn 111 = .ok (.istore 9, 2) := by decide +kernel
theorem dX4_turn_113 : decode cX4_turn 113 = .ok (.aload_n 0, 1) := by decide +kernel
theorem dX4_turn_114 : decode cX4_turn 114 = .ok (.getfield 19, 3) := by decide +kernel
theorem dX4_turn_117 : decode cX4_turn 117 = .ok (.iload 8, 2) := by decide +kernel
theorem dX4_turn_119 : decode cX4_turn 119 = .ok (.laload, 1) := by decide +kernel
theorem dX4_turn_120 : decode cX4_turn 120 = .ok (.lstore 10, 2) := by decide +kernel
theorem dX4_turn_122 : decode cX4_turn 122 = .ok (.aload_n 0, 1) := by decide +kernel
theorem dX4_turn_123 : decode cX4_turn 123 = .ok (.getfield 19, 3) := by decide +kernel
theorem dX4_turn_126 : decode cX4_turn 126 = .ok (.iload 8, 2) := by decide +kernel
theorem dX4_turn_128 : decode cX4_turn 128 = .ok (.aload_n 0, 1) := by decide +kernel
theorem dX4_turn_129 : decode cX4_turn 129 = .ok (.getfield 19, 3) := by decide +kernel
theorem dX4_turn_132 : decode cX4_turn 132 = .ok (.iload 9, 2) := by decide +kernel
theorem dX4_turn_134 : decode cX4_turn 134 = .ok (.laload, 1) := by decide +kernel
theorem dX4_turn_135 : decode cX4_turn 135 = .ok (.lastore, 1) := by decide +kernel
theorem dX4_turn_136 : decode cX4_turn 136 = .ok (.aload_n 0, 1) := by decide +kernel
theorem dX4_turn_137 : decode cX4_turn 137 = .ok (.getfield 19, 3) := by decide +kernel
theorem dX4_turn_140 : decode cX4_turn 140 = .ok (.iload 9, 2) := by decide +kernel
theorem dX4_turn_142 : decode cX4_turn 142 = .ok (.lload 10, 2) := by decide +kernel
theorem dX4_turn_144 : decode cX4_turn 144 = .ok (.lastore, 1) := by decide +kernel
theorem dX4_turn_145 : decode cX4_turn 145 = .ok (.aload_n 0, 1) := by decide +kernel
theorem dX4_turn_146 : decode cX4_turn 146 = .ok (.getfield 23, 3) := by decide +kernel
theorem dX4_turn_149 : decode cX4_turn 149 = .ok (.iload 8, 2) := by decide +kernel
theorem dX4_turn_151 : decode cX4_turn 151 = .ok (.iaload, 1) := by decide +kernel
theorem dX4_turn_152 : decode cX4_turn 152 = .ok (.istore 12, 2) := by decide +kernel
theorem dX4_turn_154 : decode cX4_turn 154 = .ok (.aload_n 0, 1) := by decide +kernel
theorem dX4_turn_155 : decode cX4_turn 155 = .ok (.getfield 23, 3) := by decide +kernel
theorem dX4_turn_158 : decode cX4_turn 158 = .ok (.iload 8, 2) := by decide +kernel
theorem dX4_turn_160 : decode cX4_turn 160 = .ok (.aload_n 0, 1) := by decide +kernel
theorem dX4_turn_161 : decode cX4_turn 161 = .ok (.getfield 23, 3) := by decide +kernel
theorem dX4_turn_164 : decode cX4_turn 164 = .ok (.iload 9, 2) := by decide +kernel
theorem dX4_turn_166 : decode cX4_turn 166 = .ok (.iaload, 1) := by decide +kernel
theorem dX4_turn_167 : decode cX4_turn 167 = .ok (.iastore, 1) := by decide +kernel
theorem dX4_turn_168 : decode cX4_turn 168 = .ok (.aload_n 0, 1) := by decide +kernel
theorem dX4_turn_169 : decode cX4_turn 169 = .ok (.getfield 23, 3) := by decide +kernel
theorem dX4_turn_172 : decode cX4_turn 172 = .ok (.iload 9, 2) := by decide +kernel
theorem dX4_turn_174 : decode cX4_turn 174 = .ok (.iload 12, 2) := by decide +kernel
theorem dX4_turn_176 : decode cX4_turn 176 = .ok (.iastore, 1) := by decide +kernel
theorem dX4_turn_177 : decode cX4_turn 177 = .ok (.iconst 1, 1) := by decide +kernel
theorem dX4_turn_178 : decode cX4_turn 178 = .ok (.ireturn, 1) := by decide +kernel
set_option maxRecDepth 20000 in
theorem ggX4_fill_X4_isBox : GoodIn wsX4_fill wsX4_isBox := goodIn_r _ [9, 10, 11, 8, 12] (by decide +kernel) (by decide +kernel)
set_option maxRecDepth 20000 in
theorem gX4_fill_X4_isBox : GoodIn wsX4_fill (va_wsS RX4 89 yX4_isBox wsX4_isBox) := goodIn_app (goodIn_of _ (by decide +kernel)) ggX4_fill_X4_isBox
set_option maxRecDepth 20000 in
theorem ggX4_fill_X4_in : GoodIn wsX4_fill wsX4_in := goodIn_r _ [12] (by decide +kernel) (by decide +kernel)
set_option maxRecDepth 20000 in
theorem gX4_fill_X4_in : GoodIn wsX4_fill (va_wsS RX4 36 yX4_in wsX4_in) := goodIn_app (goodIn_of _ (by decide +kernel)) ggX4_fill_X4_in
set_option maxRecDepth 20000 in
theorem ggX4_fill_X4_isKind : GoodIn wsX4_fill wsX4_isKind := goodIn_r _ [15, 10, 11, 8, 12] (by decide +kernel) (by decide +kernel)
set_option maxRecDepth 20000 in
theorem gX4_fill_X4_isKind : GoodIn wsX4_fill (va_wsS RX4 93 yX4_isKind wsX4_isKind) := goodIn_app (goodIn_of _ (by decide +kernel)) ggX4_fill_X4_isKind
set_option maxRecDepth 20000 in
theorem ggX4_fill_X4_goToRow : GoodIn wsX4_fill wsX4_goToRow := goodIn_r _ [19, 20, 21, 22, 8, 23, 24, 2, 25, 1, 3, 26, 10, 11, 12, 27, 28, 29, 30, 79, 80, 81, 82, 83, 84, 85, 86, 87, 88, 89, 90, 91, 92] (by decide +kernel) (by decide +kernel)
set_option maxRecDepth 20000 in
theorem gX4_fill_X4_goToRow : GoodIn wsX4_fill (wsV RX4 82 RX4 yX4_goToRow wsX4_goToRow) := goodIn_app (goodIn_of _ (by decide +kernel)) ggX4_fill_X4_goToRow
set_option maxRecDepth 20000 in
theorem ggX4_fill_X4_goesInto : GoodIn wsX4_fill wsX4_goesInto := goodIn_r _ [33] (by decide +kernel) (by decide +kernel)
set_option maxRecDepth 20000 in
theorem gX4_fill_X4_goesInto : GoodIn wsX4_fill (va_wsS RX4 107 yX4_goesInto wsX4_goesInto) := goodIn_app (goodIn_of _ (by decide +kernel)) ggX4_fill_X4_goesInto
set_option maxRecDepth 20000 in
theorem ggX4_fill_X4_fails : GoodIn wsX4_fill wsX4_fails := goodIn_r _ [37, 38, 79, 80, 81, 82, 83, 84, 85, 86, 87, 88, 89, 90, 91, 92] (by decide +kernel) (by decide +kernel)
set_option maxRecDepth 20000 in
theorem gX4_fill_X4_fails : GoodIn wsX4_fill (wsV RX4 96 RX4 yX4_fails wsX4_fails) := goodIn_app (goodIn_of _ (by decide +kernel)) ggX4_fill_X4_fails
set_option maxRecDepth 20000 in
theorem ggX4_fill_X4_ofBits : GoodIn wsX4_fill wsX4_ofBits := goodIn_r _ [41, 42, 43, 44, 45, 46, 47, 48] (by decide +kernel) (by decide +kernel)
set_option maxRecDepth 20000 in
theorem gX4_fill_X4_ofBits : GoodIn wsX4_fill (va_wsS RX4 115 yX4_ofBits wsX4_ofBits) := goodIn_app (goodIn_of _ (by decide +kernel)) ggX4_fill_X4_ofBits
set_option maxRecDepth 20000 in
theorem ggX4_fill_X4_as : GoodIn wsX4_fill wsX4_as := goodIn_r _ [51, 52, 53, 54, 55, 45, 48, 56, 57, 58, 59, 60, 61, 62, 63, 64, 65, 66, 67, 68, 69, 70, 71, 72, 73, 74, 75, 76, 77, 78] (by decide +kernel) (by decide +kernel)
set_option maxRecDepth 20000 in
theorem gX4_fill_X4_as : GoodIn wsX4_fill (va_wsS RX4 111 yX4_as wsX4_as) := goodIn_app (goodIn_of _ (by decide +kernel)) ggX4_fill_X4_as
theorem dX4_fill_0 : decode cX4_fill 0 = .ok (.iload_n 1, 1) := by decide +kernel
theorem dX4_fill_1 : decode cX4_fill 1 = .ok (.invokestatic 89, 3) := by decide +kernel
theorem dX4_fill_4 : decode cX4_fill 4 = .ok (.ifCond .eq 20, 3) := by decide +kernel
theorem dX4_fill_7 : decode cX4_fill 7 = .ok (.iload_n 2, 1) := by decide +kernel
theorem dX4_fill_8 : decode cX4_fill 8 = .ok (.iconst 0, 1) := by decide +kernel
theorem dX4_fill_9 : decode cX4_fill 9 = .ok (.iconst 2, 1) := by decide +kernel
theorem dX4_fill_10 : decode cX4_fill 10 = .ok (.invokestatic 36, 3) := by decide +kernel
theorem dX4_fill_13 : decode cX4_fill 13 = .ok (.ifCond .eq 11, 3) := by decide +kernel
theorem dX4_fill_16 : decode cX4_fill 16 = .ok (.iload 5, 2) := by decide +kernel
theorem dX4_fill_18 : decode cX4_fill 18 = .ok (.invokestatic 93, 3) := by decide +kernel
theorem dX4_fill_21 : decode cX4_fill 21 = .ok (.ifCond .ne 5, 3) := by decide +kernel
theorem dX4_fill_24 : decode cX4_fill 24 = .ok (.iconst (-1), 1) := by decide +kernel
theorem dX4_fill_25 : decode cX4_fill 25 = .ok (.ireturn, 1) := by decide +kernel
theorem dX4_fill_26 : decode cX4_fill 26 = .ok (.aload_n 0, 1) := by decide +kernel
theorem dX4_fill_27 : decode cX4_fill 27 = .ok (.iload_n 1, 1) := by decide +kernel
theorem dX4_fill_28 : decode cX4_fill 28 = .ok (.iload_n 2, 1) := by decide +kernel
theorem dX4_fill_29 : decode cX4_fill 29 = .ok (.iload_n 3, 1) := by decide +kernel
theorem dX4_fill_30 : decode cX4_fill 30 = .ok (.iload 4, 2) := by decide +kernel
theorem dX4_fill_32 : decode cX4_fill 32 = .ok (.invokevirtual 82, 3) := by decide +kernel
theorem dX4_fill_35 : decode cX4_fill 35 = .ok (.istore 8, 2) := by decide +kernel
theorem dX4_fill_37 : decode cX4_fill 37 = .ok (.iload 8, 2) := by decide +kernel
theorem dX4_fill_39 : decode cX4_fill 39 = .ok (.ifCond .ne 56, 3) := by decide +kernel
theorem dX4_fill_42 : decode cX4_fill 42 = .ok (.aload_n 0, 1) := by decide +kernel
theorem dX4_fill_43 : decode cX4_fill 43 = .ok (.getfield 16, 3) := by decide +kernel
theorem dX4_fill_46 : decode cX4_fill 46 = .ok (.aload_n 0, 1) := by decide +kernel
theorem dX4_fill_47 : decode cX4_fill 47 = .ok (.getfield 68, 3) := by decide +kernel
theorem dX4_fill_50 : decode cX4_fill 50 = .ok (.iaload, 1) := by decide +kernel
theorem dX4_fill_51 : decode cX4_fill 51 = .ok (.ifCond .le 44, 3) := by decide +kernel
theorem dX4_fill_54 : decode cX4_fill 54 = .ok (.aload_n 0, 1) := by decide +kernel
theorem dX4_fill_55 : decode cX4_fill 55 = .ok (.getfield 13, 3) := by decide +kernel
theorem dX4_fill_58 : decode cX4_fill 58 = .ok (.aload_n 0, 1) := by decide +kernel
theorem dX4_fill_59 : decode cX4_fill 59 = .ok (.getfield 68, 3) := by decide +kernel
theorem dX4_fill_62 : decode cX4_fill 62 = .ok (.iaload, 1) := by decide +kernel
theorem dX4_fill_63 : decode cX4_fill 63 = .ok (.iconst 1, 1) := by decide +kernel
theorem dX4_fill_64 : decode cX4_fill 64 = .ok (.if_icmp .le 7, 3) := by decide +kernel
theorem dX4_fill_67 : decode cX4_fill 67 = .ok (.iconst 2, 1) := by decide +kernel
theorem dX4_fill_68 : decode cX4_fill 68 = .ok (.goto 25, 3) := by decide +kernel
theorem dX4_fill_71 : decode cX4_fill 71 = .ok (.iload 5, 2) := by decide +kernel
theorem dX4_fill_73 : decode cX4_fill 73 = .ok (.aload_n 0, 1) := by decide +kernel
theorem dX4_fill_74 : decode cX4_fill 74 = .ok (.getfield 7, 3) := by decide +kernel
theorem dX4_fill_77 : decode cX4_fill 77 = .ok (.aload_n 0, 1) := by decide +kernel
theorem dX4_fill_78 : decode cX4_fill 78 = .ok (.getfield 68, 3) := by decide +kernel
theorem dX4_fill_81 : decode cX4_fill 81 = .ok (.iaload, 1) := by decide +kernel
theorem dX4_fill_82 : decode cX4_fill 82 = .ok (.invokestatic 107, 3) := by decide +kernel
theorem dX4_fill_85 : decode cX4_fill 85 = .ok (.ifCond .eq 7, 3) := by decide +kernel
theorem dX4_fill_88 : decode cX4_fill 88 = .ok (.iconst 0, 1) := by decide +kernel
theorem dX4_fill_89 : decode cX4_fill 89 = .ok (.goto 4, 3) := by decide +kernel
theorem dX4_fill_92 : decode cX4_fill 92 = .ok (.iconst 4, 1) := by decide +kernel
theorem dX4_fill_93 : decode cX4_fill 93 = .ok (.istore 8, 2) := by decide +kernel
theorem dX4_fill_95 : decode cX4_fill 95 = .ok (.iload 8, 2) := by decide +kernel
theorem dX4_fill_97 : decode cX4_fill 97 = .ok (.ifCond .eq 10, 3) := by decide +kernel
theorem dX4_fill_100 : decode cX4_fill 100 = .ok (.aload_n 0, 1) := by decide +kernel
theorem dX4_fill_101 : decode cX4_fill 101 = .ok (.iload 8, 2) := by decide +kernel
theorem dX4_fill_103 : decode cX4_fill 103 = .ok (.invokevirtual 96, 3) := by decide +kernel
theorem dX4_fill_106 : decode cX4_fill 106 = .ok (.ireturn, 1) := by decide +kernel
theorem dX4_fill_107 : decode cX4_fill 107 = .ok (.iconst 0, 1) := by decide +kernel
theorem dX4_fill_108 : decode cX4_fill 108 = .ok (.istore 9, 2) := by decide +kernel
theorem dX4_fill_110 : decode cX4_fill 110 = .ok (.iload 9, 2) := by decide +kernel
theorem dX4_fill_112 : decode cX4_fill 112 = .ok (.aload_n 0, 1) := by decide +kernel
theorem dX4_fill_113 : decode cX4_fill 113 = .ok (.getfield 16, 3) := by decide +kernel
theorem dX4_fill_116 : decode cX4_fill 116 = .ok (.aload_n 0, 1) := by decide +kernel
theorem dX4_fill_117 : decode cX4_fill 117 = .ok (.getfield 68, 3) := by decide +kernel
theorem dX4_fill_120 : decode cX4_fill 120 = .ok (.iaload, 1) := by decide +kernel
theorem dX4_fill_121 : decode cX4_fill 121 = .ok (.if_icmp .ge 45, 3) := by decide +kernel
theorem dX4_fill_124 : decode cX4_fill 124 = .ok (.aload_n 0, 1) := by decide +kernel
theorem dX4_fill_125 : decode cX4_fill 125 = .ok (.getfield 19, 3) := by decide +kernel
theorem dX4_fill_128 : decode cX4_fill 128 = .ok (.bipush 8, 2) := by decide +kernel
theorem dX4_fill_130 : decode cX4_fill 130 = .ok (.aload_n 0, 1) := by decide +kernel
theorem dX4_fill_131 : decode cX4_fill 131 = .ok (.getfield 68, 3) := by decide +kernel
theorem dX4_fill_134 : decode cX4_fill 134 = .ok (.imul, 1) := by decide +kernel
theorem dX4_fill_135 : decode cX4_fill 135 = .ok (.iload 9, 2) := by decide +kernel
theorem dX4_fill_137 : decode cX4_fill 137 = .ok (.iadd, 1) := by decide +kernel
theorem dX4_fill_138 : decode cX4_fill 138 = .ok (.iload 5, 2) := by decide +kernel
theorem dX4_fill_140 : decode cX4_fill 140 = .ok (.aload_n 0, 1) := by decide +kernel
theorem dX4_fill_141 : decode cX4_fill 141 = .ok (.getfield 7, 3) := by decide +kernel
theorem dX4_fill_144 : decode cX4_fill 144 = .ok (.aload_n 0, 1) := by decide +kernel
theorem dX4_fill_145 : decode cX4_fill 145 = .ok (.getfield 68, 3) := by decide +kernel
theorem dX4_fill_148 : decode cX4_fill 148 = .ok (.iaload, 1) := by decide +kernel
theorem dX4_fill_149 : decode cX4_fill 149 = .ok (.iload 5, 2) := by decide +kernel
theorem dX4_fill_151 : decode cX4_fill 151 = .ok (.lload 6, 2) := by decide +kernel
theorem dX4_fill_153 : decode cX4_fill 153 = .ok (.invokestatic 115, 3) := by decide +kernel
theorem dX4_fill_156 : decode cX4_fill 156 = .ok (.invokestatic 111, 3) := by decide +kernel
theorem dX4_fill_159 : decode cX4_fill 159 = .ok (.lastore, 1) := by decide +kernel
theorem dX4_fill_160 : decode cX4_fill 160 = .ok (.iinc 9 1, 3) := by decide +kernel
theorem dX4_fill_163 : decode cX4_fill 163 = .ok (.goto (-53), 3) := by decide +kernel
theorem dX4_fill_166 : decode cX4_fill 166 = .ok (.aload_n 0, 1) := by decide +kernel
theorem dX4_fill_167 : decode cX4_fill 167 = .ok (.getfield 16, 3) := by decide +kernel
theorem dX4_fill_170 : decode cX4_fill 170 = .ok (.aload_n 0, 1) := by decide +kernel
theorem dX4_fill_171 : decode cX4_fill 171 = .ok (.getfield 68, 3) := by decide +kernel
theorem dX4_fill_174 : decode cX4_fill 174 = .ok (.iaload, 1) := by decide +kernel
theorem dX4_fill_175 : decode cX4_fill 175 = .ok (.ireturn, 1) := by decide +kernel
set_option maxRecDepth 20000 in
theorem ggX4_pourOne_X4_goesInto : GoodIn wsX4_pourOne wsX4_goesInto := goodIn_r _ [9] (by decide +kernel) (by decide +kernel)
set_option maxRecDepth 20000 in
theorem gX4_pourOne_X4_goesInto : GoodIn wsX4_pourOne (va_wsS RX4 107 yX4_goesInto wsX4_goesInto) := goodIn_app (goodIn_of _ (by decide +kernel)) ggX4_pourOne_X4_goesInto
set_option maxRecDepth 20000 in
theorem ggX4_pourOne_X4_as : GoodIn wsX4_pourOne wsX4_as := goodIn_r _ [12, 13, 14, 15, 16, 17, 18, 19, 20, 21, 22, 23, 24, 25, 26, 27, 28, 29, 30, 31, 32, 33, 34, 35, 36, 37, 38, 39, 40, 41] (by decide +kernel) (by decide +kernel)
set_option maxRecDepth 20000 in
theorem gX4_pourOne_X4_as : GoodIn wsX4_pourOne (va_wsS RX4 111 yX4_as wsX4_as) := goodIn_app (goodIn_of _ (by decide +kernel)) ggX4_pourOne_X4_as
set_option maxRecDepth 20000 in
theorem ggX4_pourOne_X4_fits : GoodIn wsX4_pourOne wsX4_fits := goodIn_r _ [45, 4, 1, 46, 47, 48, 49, 50, 51, 52, 53, 54, 55, 56, 57, 58, 59] (by decide +kernel) (by decide +kernel)
set_option maxRecDepth 20000 in
theorem gX4_pourOne_X4_fits : GoodIn wsX4_pourOne (wsV RX4 119 RX4 yX4_fits wsX4_fits) := goodIn_app (goodIn_of _ (by decide +kernel)) ggX4_pourOne_X4_fits
theorem dX4_pourOne_0 : decode cX4_pourOne 0 = .ok (.aload_n 0, 1) := by decide +kernel
theorem dX4_pourOne_1 : decode cX4_pourOne 1 = .ok (.getfield 13, 3) := by decide +kernel
theorem dX4_pourOne_4 : decode cX4_pourOne 4 = .ok (.iload_n 2, 1) := by decide +kernel
theorem dX4_pourOne_5 : decode cX4_pourOne 5 = .ok (.iaload, 1) := by decide +kernel
theorem dX4_pourOne_6 : decode cX4_pourOne 6 = .ok (.iconst 1, 1) := by decide +kernel
theorem dX4_pourOne_7 : decode cX4_pourOne 7 = .ok (.if_icmp .ne 7, 3) := by decide +kernel
theorem dX4_pourOne_10 : decode cX4_pourOne 10 = .ok (.iconst 1, 1) := by decide +kernel
theorem dX4_pourOne_11 : decode cX4_pourOne 11 = .ok (.goto 4, 3) := by decide +kernel
theorem dX4_pourOne_14 : decode cX4_pourOne 14 = .ok (.iconst 0, 1) := by decide +kernel
theorem dX4_pourOne_15 : decode cX4_pourOne 15 = .ok (.istore 4, 2) := by decide +kernel
theorem dX4_pourOne_17 : decode cX4_pourOne 17 = .ok (.aload_n 0, 1) := by decide +kernel
theorem dX4_pourOne_18 : decode cX4_pourOne 18 = .ok (.getfield 13, 3) := by decide +kernel
theorem dX4_pourOne_21 : decode cX4_pourOne 21 = .ok (.iload_n 3, 1) := by decide +kernel
theorem dX4_pourOne_22 : decode cX4_pourOne 22 = .ok (.iaload, 1) := by decide +kernel
theorem dX4_pourOne_23 : decode cX4_pourOne 23 = .ok (.iconst 1, 1) := by decide +kernel
theorem dX4_pourOne_24 : decode cX4_pourOne 24 = .ok (.if_icmp .ne 7, 3) := by decide +kernel
theorem dX4_pourOne_27 : decode cX4_pourOne 27 = .ok (.iconst 1, 1) := by decide +kernel
theorem dX4_pourOne_28 : decode cX4_pourOne 28 = .ok (.goto 4, 3) := by decide +kernel
theorem dX4_pourOne_31 : decode cX4_pourOne 31 = .ok (.iconst 0, 1) := by decide +kernel
theorem dX4_pourOne_32 : decode cX4_pourOne 32 = .ok (.istore 5, 2) := by decide +kernel
theorem dX4_pourOne_34 : decode cX4_pourOne 34 = .ok (.iload 4, 2) := by decide +kernel
theorem dX4_pourOne_36 : decode cX4_pourOne 36 = .ok (.ifCond .ne 25, 3) := by decide +kernel
theorem dX4_pourOne_39 : decode cX4_pourOne 39 = .ok (.iload 5, 2) := by decide +kernel
theorem dX4_pourOne_41 : decode cX4_pourOne 41 = .ok (.ifCond .eq 20, 3) := by decide +kernel
theorem dX4_pourOne_44 : decode cX4_pourOne 44 = .ok (.aload_n 0, 1) := by decide +kernel
theorem dX4_pourOne_45 : decode cX4_pourOne 45 = .ok (.getfield 23, 3) := by decide +kernel
theorem dX4_pourOne_48 : decode cX4_pourOne 48 = .ok (.bipush 8, 2) := by decide +kernel
theorem dX4_pourOne_50 : decode cX4_pourOne 50 = .ok (.iload_n 2, 1) := by decide +kernel
theorem dX4_pourOne_51 : decode cX4_pourOne 51 = .ok (.imul, 1) := by decide +kernel
theorem dX4_pourOne_52 : decode cX4_pourOne 52 = .ok (.iload_n 1, 1) := by decide +kernel
theorem dX4_pourOne_53 : decode cX4_pourOne 53 = .ok (.iadd, 1) := by decide +kernel
theorem dX4_pourOne_54 : decode cX4_pourOne 54 = .ok (.iaload, 1) := by decide +kernel
theorem dX4_pourOne_55 : decode cX4_pourOne 55 = .ok (.iconst (-1), 1) := by decide +kernel
theorem dX4_pourOne_56 : decode cX4_pourOne 56 = .ok (.if_icmp .ne 5, 3) := by decide +kernel
theorem dX4_pourOne_59 : decode cX4_pourOne 59 = .ok (.iconst 4, 1) := by decide +kernel
theorem dX4_pourOne_60 : decode cX4_pourOne 60 = .ok (.ireturn, 1) := by decide +kernel
theorem dX4_pourOne_61 : decode cX4_pourOne 61 = .ok (.iload_n 1, 1) := by decide +kernel
theorem dX4_pourOne_62 : decode cX4_pourOne 62 = .ok (.aload_n 0, 1) := by decide +kernel
theorem dX4_pourOne_63 : decode cX4_pourOne 63 = .ok (.getfield 16, 3) := by decide +kernel
theorem dX4_pourOne_66 : decode cX4_pourOne 66 = .ok (.iload_n 3, 1) := by decide +kernel
theorem dX4_pourOne_67 : decode cX4_pourOne 67 = .ok (.iaload, 1) := by decide +kernel
theorem dX4_pourOne_68 : decode cX4_pourOne 68 = .ok (.if_icmp .lt 5, 3) := by decide +kernel
theorem dX4_pourOne_71 : decode cX4_pourOne 71 = .ok (.iconst 3, 1) := by decide +kernel
theorem dX4_pourOne_72 : decode cX4_pourOne 72 = .ok (.ireturn, 1) := by decide +kernel
theorem dX4_pourOne_73 : decode cX4_pourOne 73 = .ok (.iload 4, 2) := by decide +kernel
theorem dX4_pourOne_75 : decode cX4_pourOne 75 = .ok (.iload 5, 2) := by decide +kernel
theorem dX4_pourOne_77 : decode cX4_pourOne 77 = .ok (.if_icmp .eq 5, 3) := by decide +kernel
theorem dX4_pourOne_80 : decode cX4_pourOne 80 = .ok (.iconst 4, 1) := by decide +kernel
theorem dX4_pourOne_81 : decode cX4_pourOne 81 = .ok (.ireturn, 1) := by decide +kernel
theorem dX4_pourOne_82 : decode cX4_pourOne 82 = .ok (.iload 4, 2) := by decide +kernel
theorem dX4_pourOne_84 : decode cX4_pourOne 84 = .ok (.ifCond .eq 62, 3) := by decide +kernel
theorem dX4_pourOne_87 : decode cX4_pourOne 87 = .ok (.aload_n 0, 1) := by decide +kernel
theorem dX4_pourOne_88 : decode cX4_pourOne 88 = .ok (.getfield 7, 3) := by decide +kernel
theorem dX4_pourOne_91 : decode cX4_pourOne 91 = .ok (.iload_n 2, 1) := by decide +kernel
theorem dX4_pourOne_92 : decode cX4_pourOne 92 = .ok (.iaload, 1) := by decide +kernel
theorem dX4_pourOne_93 : decode cX4_pourOne 93 = .ok (.aload_n 0, 1) := by decide +kernel
theorem dX4_pourOne_94 : decode cX4_pourOne 94 = .ok (.getfield 7, 3) := by decide +kernel
theorem dX4_pourOne_97 : decode cX4_pourOne 97 = .ok (.iload_n 3, 1) := by decide +kernel
theorem dX4_pourOne_98 : decode cX4_pourOne 98 = .ok (.iaload, 1) := by decide +kernel
theorem dX4_pourOne_99 : decode cX4_pourOne 99 = .ok (.invokestatic 107, 3) := by decide +kernel
theorem dX4_pourOne_102 : decode cX4_pourOne 102 = .ok (.ifCond .ne 5, 3) := by decide +kernel
theorem dX4_pourOne_105 : decode cX4_pourOne 105 = .ok (.iconst 4, 1) := by decide +kernel
theorem dX4_pourOne_106 : decode cX4_pourOne 106 = .ok (.ireturn, 1) := by decide +kernel
theorem dX4_pourOne_107 : decode cX4_pourOne 107 = .ok (.aload_n 0, 1) := by decide +kernel
theorem dX4_pourOne_108 : decode cX4_pourOne 108 = .ok (.getfield 19, 3) := by decide +kernel
theorem dX4_pourOne_111 : decode cX4_pourOne 111 = .ok (.bipush 8, 2) := by decide +kernel
theorem dX4_pourOne_113 : decode cX4_pourOne 113 = .ok (.iload_n 3, 1) := by decide +kernel
theorem dX4_pourOne_114 : decode cX4_pourOne 114 = .ok (.imul, 1) := by decide +kernel
theorem dX4_pourOne_115 : decode cX4_pourOne 115 = .ok (.iload_n 1, 1) := by decide +kernel
theorem dX4_pourOne_116 : decode cX4_pourOne 116 = .ok (.iadd, 1) := by decide +kernel
theorem dX4_pourOne_117 : decode cX4_pourOne 117 = .ok (.aload_n 0, 1) := by decide +kernel
theorem dX4_pourOne_118 : decode cX4_pourOne 118 = .ok (.getfield 7, 3) := by decide +kernel
theorem dX4_pourOne_121 : decode cX4_pourOne 121 = .ok (.iload_n 2, 1) := by decide +kernel
theorem dX4_pourOne_122 : decode cX4_pourOne 122 = .ok (.iaload, 1) := by decide +kernel
theorem dX4_pourOne_123 : decode cX4_pourOne 123 = .ok (.aload_n 0, 1) := by decide +kernel
theorem dX4_pourOne_124 : decode cX4_pourOne 124 = .ok (.getfield 7, 3) := by decide +kernel
theorem dX4_pourOne_127 : decode cX4_pourOne 127 = .ok (.iload_n 3, 1) := by decide +kernel
theorem dX4_pourOne_128 : decode cX4_pourOne 128 = .ok (.iaload, 1) := by decide +kernel
theorem dX4_pourOne_129 : decode cX4_pourOne 129 = .ok (.aload_n 0, 1) := by decide +kernel
theorem dX4_pourOne_130 : decode cX4_pourOne 130 = .ok (.getfield 19, 3) := by decide +kernel
theorem dX4_pourOne_133 : decode cX4_pourOne 133 = .ok (.bipush 8, 2) := by decide +kernel
theorem dX4_pourOne_135 : decode cX4_pourOne 135 = .ok (.iload_n 2, 1) := by decide +kernel
theorem dX4_pourOne_136 : decode cX4_pourOne 136 = .ok (.imul, 1) := by decide +kernel
theorem dX4_pourOne_137 : decode cX4_pourOne 137 = .ok (.iload_n 1, 1) := by decide +kernel
theorem dX4_pourOne_138 : decode cX4_pourOne 138 = .ok (.iadd, 1) := by decide +kernel
theorem dX4_pourOne_139 : decode cX4_pourOne 139 = .ok (.laload, 1) := by decide +kernel
theorem dX4_pourOne_140 : decode cX4_pourOne 140 = .ok (.invokestatic 111, 3) := by decide +kernel
theorem dX4_pourOne_143 : decode cX4_pourOne 143 = .ok (.lastore, 1) := by decide +kernel
theorem dX4_pourOne_144 : decode cX4_pourOne 144 = .ok (.iconst 0, 1) := by decide +kernel
theorem dX4_pourOne_145 : decode cX4_pourOne 145 = .ok (.ireturn, 1) := by decide +kernel
theorem dX4_pourOne_146 : decode cX4_pourOne 146 = .ok (.aload_n 0, 1) := by decide +kernel
theorem dX4_pourOne_147 : decode cX4_pourOne 147 = .ok (.aload_n 0, 1) := by decide +kernel
theorem dX4_pourOne_148 : decode cX4_pourOne 148 = .ok (.getfield 23, 3) := by decide +kernel
theorem dX4_pourOne_151 : decode cX4_pourOne 151 = .ok (.bipush 8, 2) := by decide +kernel
theorem dX4_pourOne_153 : decode cX4_pourOne 153 = .ok (.iload_n 2, 1) := by decide +kernel
theorem dX4_pourOne_154 : decode cX4_pourOne 154 = .ok (.imul, 1) := by decide +kernel
theorem dX4_pourOne_155 : decode cX4_pourOne 155 = .ok (.iload_n 1, 1) := by decide +kernel
theorem dX4_pourOne_156 : decode cX4_pourOne 156 = .ok (.iadd, 1) := by decide +kernel
theorem dX4_pourOne_157 : decode cX4_pourOne 157 = .ok (.iaload, 1) := by decide +kernel
theorem dX4_pourOne_158 : decode cX4_pourOne 158 = .ok (.iload_n 3, 1) := by decide +kernel
theorem dX4_pourOne_159 : decode cX4_pourOne 159 = .ok (.invokevirtual 119, 3) := by decide +kernel
theorem dX4_pourOne_162 : decode cX4_pourOne 162 = .ok (.ifCond .ne 5, 3) := by decide +kernel
theorem dX4_pourOne_165 : decode cX4_pourOne 165 = .ok (.iconst 4, 1) := by decide +kernel
theorem dX4_pourOne_166 : decode cX4_pourOne 166 = .ok (.ireturn, 1) := by decide +kernel
theorem dX4_pourOne_167 : decode cX4_pourOne 167 = .ok (.aload_n 0, 1) := by decide +kernel
theorem dX4_pourOne_168 : decode cX4_pourOne 168 = .ok (.getfield 23, 3) := by decide +kernel
theorem dX4_pourOne_171 : decode cX4_pourOne 171 = .ok (.bipush 8, 2) := by decide +kernel
theorem dX4_pourOne_173 : decode cX4_pourOne 173 = .ok (.iload_n 3, 1) := by decide +kernel
theorem dX4_pourOne_174 : decode cX4_pourOne 174 = .ok (.imul, 1) := by decide +kernel
theorem dX4_pourOne_175 : decode cX4_pourOne 175 = .ok (.iload_n 1, 1) := by decide +kernel
theorem dX4_pourOne_176 : decode cX4_pourOne 176 = .ok (.iadd, 1) := by decide +kernel
theorem dX4_pourOne_177 : decode cX4_pourOne 177 = .ok (.aload_n 0, 1) := by decide +kernel
theorem dX4_pourOne_178 : decode cX4_pourOne 178 = .ok (.getfield 23, 3) := by decide +kernel
theorem dX4_pourOne_181 : decode cX4_pourOne 181 = .ok (.bipush 8, 2) := by decide +kernel
theorem dX4_pourOne_183 : decode cX4_pourOne 183 = .ok (.iload_n 2, 1) := by decide +kernel
theorem dX4_pourOne_184 : decode cX4_pourOne 184 = .ok (.imul, 1) := by decide +kernel
theorem dX4_pourOne_185 : decode cX4_pourOne 185 = .ok (.iload_n 1, 1) := by decide +kernel
theorem dX4_pourOne_186 : decode cX4_pourOne 186 = .ok (.iadd, 1) := by decide +kernel
theorem dX4_pourOne_187 : decode cX4_pourOne 187 = .ok (.iaload, 1) := by decide +kernel
theorem dX4_pourOne_188 : decode cX4_pourOne 188 = .ok (.iastore, 1) := by decide +kernel
theorem dX4_pourOne_189 : decode cX4_pourOne 189 = .ok (.iconst 0, 1) := by decide +kernel
theorem dX4_pourOne_190 : decode cX4_pourOne 190 = .ok (.ireturn, 1) := by decide +kernel
set_option maxRecDepth 20000 in
theorem ggX4_pour_X4_isBox : GoodIn wsX4_pour wsX4_isBox := goodIn_r _ [7, 8, 9, 6, 10] (by decide +kernel) (by decide +kernel)
set_option maxRecDepth 20000 in
theorem gX4_pour_X4_isBox : GoodIn wsX4_pour (va_wsS RX4 89 yX4_isBox wsX4_isBox) := goodIn_app (goodIn_of _ (by decide +kernel)) ggX4_pour_X4_isBox
set_option maxRecDepth 20000 in
theorem ggX4_pour_X4_fails : GoodIn wsX4_pour wsX4_fails := goodIn_r _ [14, 15, 63, 64, 65, 66, 67, 68, 69, 70, 71, 72, 73, 74, 75, 76] (by decide +kernel) (by decide +kernel)
set_option maxRecDepth 20000 in
theorem gX4_pour_X4_fails : GoodIn wsX4_pour (wsV RX4 96 RX4 yX4_fails wsX4_fails) := goodIn_app (goodIn_of _ (by decide +kernel)) ggX4_pour_X4_fails
set_option maxRecDepth 20000 in
theorem ggX4_pour_X4_pourOne : GoodIn wsX4_pour wsX4_pourOne := goodIn_r _ [19, 20, 21, 3, 22, 23, 24, 25, 6, 26, 27, 28, 29, 30, 31, 32, 33, 34, 35, 36, 37, 38, 39, 40, 41, 42, 43, 44, 45, 46, 47, 48, 49, 50, 51, 52, 53, 54, 55, 56, 57, 58, 59, 60, 61, 62, 63, 64, 65, 66, 67, 68, 69, 70, 71, 72, 73, 74, 75, 76] (by decide +kernel) (by decide +kernel)
set_option maxRecDepth 20000 in
theorem gX4_pour_X4_pourOne : GoodIn wsX4_pour (wsV RX4 125 RX4 yX4_pourOne wsX4_pourOne) := goodIn_app (goodIn_of _ (by decide +kernel)) ggX4_pour_X4_pourOne
theorem dX4_pour_0 : decode cX4_pour 0 = .ok (.iload_n 1, 1) := by decide +kernel
theorem dX4_pour_1 : decode cX4_pour 1 = .ok (.invokestatic 89, 3) := by decide +kernel
theorem dX4_pour_4 : decode cX4_pour 4 = .ok (.ifCond .eq 10, 3) := by decide +kernel
theorem dX4_pour_7 : decode cX4_pour 7 = .ok (.iload_n 2, 1) := by decide +kernel
theorem dX4_pour_8 : decode cX4_pour 8 = .ok (.invokestatic 89, 3) := by decide +kernel
theorem dX4_pour_11 : decode cX4_pour 11 = .ok (.ifCond .ne 5, 3) := by decide +kernel
theorem dX4_pour_14 : decode cX4_pour 14 = .ok (.iconst (-1), 1) := by decide +kernel
theorem dX4_pour_15 : decode cX4_pour 15 = .ok (.ireturn, 1) := by decide +kernel
theorem dX4_pour_16 : decode cX4_pour 16 = .ok (.aload_n 0, 1) := by decide +kernel
theorem dX4_pour_17 : decode cX4_pour 17 = .ok (.iconst 0, 1) := by decide +kernel
theorem dX4_pour_18 : decode cX4_pour 18 = .ok (.putfield 122, 3) := by decide +kernel
theorem dX4_pour_21 : decode cX4_pour 21 = .ok (.aload_n 0, 1) := by decide +kernel
theorem dX4_pour_22 : decode cX4_pour 22 = .ok (.getfield 26, 3) := by decide +kernel
theorem dX4_pour_25 : decode cX4_pour 25 = .ok (.iload_n 1, 1) := by decide +kernel
theorem dX4_pour_26 : decode cX4_pour 26 = .ok (.iaload, 1) := by decide +kernel
theorem dX4_pour_27 : decode cX4_pour 27 = .ok (.iconst (-1), 1) := by decide +kernel
theorem dX4_pour_28 : decode cX4_pour 28 = .ok (.if_icmp .eq 13, 3) := by decide +kernel
theorem dX4_pour_31 : decode cX4_pour 31 = .ok (.aload_n 0, 1) := by decide +kernel
theorem dX4_pour_32 : decode cX4_pour 32 = .ok (.getfield 26, 3) := by decide +kernel
theorem dX4_pour_35 : decode cX4_pour 35 = .ok (.iload_n 2, 1) := by decide +kernel
theorem dX4_pour_36 : decode cX4_pour 36 = .ok (.iaload, 1) := by decide +kernel
theorem dX4_pour_37 : decode cX4_pour 37 = .ok (.iconst (-1), 1) := by decide +kernel
theorem dX4_pour_38 : decode cX4_pour 38 = .ok (.if_icmp .ne 9, 3) := by decide +kernel
theorem dX4_pour_41 : decode cX4_pour 41 = .ok (.aload_n 0, 1) := by decide +kernel
theorem dX4_pour_42 : decode cX4_pour 42 = .ok (.iconst 1, 1) := by decide +kernel
theorem dX4_pour_43 : decode cX4_pour 43 = .ok (.invokevirtual 96, 3) := by decide +kernel
theorem dX4_pour_46 : decode cX4_pour 46 = .ok (.ireturn, 1) := by decide +kernel
theorem dX4_pour_47 : decode cX4_pour 47 = .ok (.iconst 0, 1) := by decide +kernel
theorem dX4_pour_48 : decode cX4_pour 48 = .ok (.istore_n 3, 1) := by decide +kernel
theorem dX4_pour_49 : decode cX4_pour 49 = .ok (.iload_n 3, 1) := by decide +kernel
theorem dX4_pour_50 : decode cX4_pour 50 = .ok (.aload_n 0, 1) := by decide +kernel
theorem dX4_pour_51 : decode cX4_pour 51 = .ok (.getfield 16, 3) := by decide +kernel
theorem dX4_pour_54 : decode cX4_pour 54 = .ok (.aload_n 0, 1) := by decide +kernel
theorem dX4_pour_55 : decode cX4_pour 55 = .ok (.getfield 26, 3) := by decide +kernel
theorem dX4_pour_58 : decode cX4_pour 58 = .ok (.iload_n 1, 1) := by decide +kernel
theorem dX4_pour_59 : decode cX4_pour 59 = .ok (.iaload, 1) := by decide +kernel
theorem dX4_pour_60 : decode cX4_pour 60 = .ok (.iaload, 1) := by decide +kernel
theorem dX4_pour_61 : decode cX4_pour 61 = .ok (.if_icmp .ge 50, 3) := by decide +kernel
theorem dX4_pour_64 : decode cX4_pour 64 = .ok (.aload_n 0, 1) := by decide +kernel
theorem dX4_pour_65 : decode cX4_pour 65 = .ok (.iload_n 3, 1) := by decide +kernel
theorem dX4_pour_66 : decode cX4_pour 66 = .ok (.aload_n 0, 1) := by decide +kernel
theorem dX4_pour_67 : decode cX4_pour 67 = .ok (.getfield 26, 3) := by decide +kernel
theorem dX4_pour_70 : decode cX4_pour 70 = .ok (.iload_n 1, 1) := by decide +kernel
theorem dX4_pour_71 : decode cX4_pour 71 = .ok (.iaload, 1) := by decide +kernel
theorem dX4_pour_72 : decode cX4_pour 72 = .ok (.aload_n 0, 1) := by decide +kernel
theorem dX4_pour_73 : decode cX4_pour 73 = .ok (.getfield 26, 3) := by decide +kernel
theorem dX4_pour_76 : decode cX4_pour 76 = .ok (.iload_n 2, 1) := by decide +kernel
theorem dX4_pour_77 : decode cX4_pour 77 = .ok (.iaload, 1) := by decide +kernel
theorem dX4_pour_78 : decode cX4_pour 78 = .ok (.invokevirtual 125, 3) := by decide +kernel
theorem dX4_pour_81 : decode cX4_pour 81 = .ok (.istore 4, 2) := by decide +kernel
theorem dX4_pour_83 : decode cX4_pour 83 = .ok (.iload 4, 2) := by decide +kernel
theorem dX4_pour_85 : decode cX4_pour 85 = .ok (.ifCond .eq 10, 3) := by decide +kernel
theorem dX4_pour_88 : decode cX4_pour 88 = .ok (.aload_n 0, 1) := by decide +kernel
theorem dX4_pour_89 : decode cX4_pour 89 = .ok (.iload 4, 2) := by decide +kernel
theorem dX4_pour_91 : decode cX4_pour 91 = .ok (.invokevirtual 96, 3) := by decide +kernel
theorem dX4_pour_94 : decode cX4_pour 94 = .ok (.ireturn, 1) := by decide +kernel
theorem dX4_pour_95 : decode cX4_pour 95 = .ok (.aload_n 0, 1) := by decide +kernel
theorem dX4_pour_96 : decode cX4_pour 96 = .ok (.dup, 1) := by decide +kernel
theorem dX4_pour_97 : decode cX4_pour 97 = .ok (.getfield 122, 3) := by decide +kernel
theorem dX4_pour_100 : decode cX4_pour 100 = .ok (.iconst 1, 1) := by decide +kernel
theorem dX4_pour_101 : decode cX4_pour 101 = .ok (.iadd, 1) := by decide +kernel
theorem dX4_pour_102 : decode cX4_pour 102 = .ok (.putfield 122, 3) := by decide +kernel
theorem dX4_pour_105 : decode cX4_pour 105 = .ok (.iinc 3 1, 3) := by decide +kernel
theorem dX4_pour_108 : decode cX4_pour 108 = .ok (.goto (-59), 3) := by decide +kernel
theorem dX4_pour_111 : decode cX4_pour 111 = .ok (.aload_n 0, 1) := by decide +kernel
theorem dX4_pour_112 : decode cX4_pour 112 = .ok (.getfield 122, 3) := by decide +kernel
theorem dX4_pour_115 : decode cX4_pour 115 = .ok (.ireturn, 1) := by decide +kernel
theorem dX4_moved_0 : decode cX4_moved 0 = .ok (.aload_n 0, 1) := by decide +kernel
theorem dX4_moved_1 : decode cX4_moved 1 = .ok (.getfield 122, 3) := by decide +kernel
theorem dX4_moved_4 : decode cX4_moved 4 = .ok (.ireturn, 1) := by decide +kernel
theorem dX4_goOver_0 : decode cX4_goOver 0 = .ok (.iconst 0, 1) := by decide +kernel
theorem dX4_goOver_1 : decode cX4_goOver 1 = .ok (.istore_n 2, 1) := by decide +kernel
theorem dX4_goOver_2 : decode cX4_goOver 2 = .ok (.iload_n 1, 1) := by decide +kernel
theorem dX4_goOver_3 : decode cX4_goOver 3 = .ok (.iconst (-1), 1) := by decide +kernel
theorem dX4_goOver_4 : decode cX4_goOver 4 = .ok (.if_icmp .eq 49, 3) := by decide +kernel
theorem dX4_goOver_7 : decode cX4_goOver 7 = .ok (.iload_n 2, 1) := by decide +kernel
theorem dX4_goOver_8 : decode cX4_goOver 8 = .ok (.aload_n 0, 1) := by decide +kernel
theorem dX4_goOver_9 : decode cX4_goOver 9 = .ok (.getfield 16, 3) := by decide +kernel
theorem dX4_goOver_12 : decode cX4_goOver 12 = .ok (.iload_n 1, 1) := by decide +kernel
theorem dX4_goOver_13 : decode cX4_goOver 13 = .ok (.iaload, 1) := by decide +kernel
theorem dX4_goOver_14 : decode cX4_goOver 14 = .ok (.if_icmp .ge 39, 3) := by decide +kernel
theorem dX4_goOver_17 : decode cX4_goOver 17 = .ok (.aload_n 0, 1) := by decide +kernel
theorem dX4_goOver_18 : decode cX4_goOver 18 = .ok (.dup, 1) := by decide +kernel
theorem dX4_goOver_19 : decode cX4_goOver 19 = .ok (.getfield 129, 3) := by decide +kernel
theorem dX4_goOver_22 : decode cX4_goOver 22 = .ok (.iconst 1, 1) := by decide +kernel
theorem dX4_goOver_23 : decode cX4_goOver 23 = .ok (.iadd, 1) := by decide +kernel
theorem dX4_goOver_24 : decode cX4_goOver 24 = .ok (.putfield 129, 3) := by decide +kernel
theorem dX4_goOver_27 : decode cX4_goOver 27 = .ok (.aload_n 0, 1) := by decide +kernel
theorem dX4_goOver_28 : decode cX4_goOver 28 = .ok (.dup, 1) := by decide +kernel
theorem dX4_goOver_29 : decode cX4_goOver 29 = .ok (.getfield 132, 3) := by decide +kernel
theorem dX4_goOver_32 : decode cX4_goOver 32 = .ok (.aload_n 0, 1) := by decide +kernel
theorem dX4_goOver_33 : decode cX4_goOver 33 = .ok (.getfield 19, 3) := by decide +kernel
theorem dX4_goOver_36 : decode cX4_goOver 36 = .ok (.bipush 8, 2) := by decide +kernel
theorem dX4_goOver_38 : decode cX4_goOver 38 = .ok (.iload_n 1, 1) := by decide +kernel
theorem dX4_goOver_39 : decode cX4_goOver 39 = .ok (.imul, 1) := by decide +kernel
theorem dX4_goOver_40 : decode cX4_goOver 40 = .ok (.iload_n 2, 1) := by decide +kernel
theorem dX4_goOver_41 : decode cX4_goOver 41 = .ok (.iadd, 1) := by decide +kernel
theorem dX4_goOver_42 : decode cX4_goOver 42 = .ok (.laload, 1) := by decide +kernel
theorem dX4_goOver_43 : decode cX4_goOver 43 = .ok (.ladd, 1) := by decide +kernel
theorem dX4_goOver_44 : decode cX4_goOver 44 = .ok (.putfield 132, 3) := by decide +kernel
theorem dX4_goOver_47 : decode cX4_goOver 47 = .ok (.iinc 2 1, 3) := by decide +kernel
theorem dX4_goOver_50 : decode cX4_goOver 50 = .ok (.goto (-48), 3) := by decide +kernel
theorem dX4_goOver_53 : decode cX4_goOver 53 = .ok (.return_, 1) := by decide +kernel
set_option maxRecDepth 20000 in
theorem ggX4_goOverTwo_X4_goOver : GoodIn wsX4_goOverTwo wsX4_goOver := goodIn_r _ [7, 1, 8, 9, 10, 11, 12, 13, 14, 15, 16, 17, 18, 19, 20, 21, 22, 23, 24] (by decide +kernel) (by decide +kernel)
set_option maxRecDepth 20000 in
theorem gX4_goOverTwo_X4_goOver : GoodIn wsX4_goOverTwo (wsV RX4 135 RX4 yX4_goOver wsX4_goOver) := goodIn_app (goodIn_of _ (by decide +kernel)) ggX4_goOverTwo_X4_goOver
theorem dX4_goOverTwo_0 : decode cX4_goOverTwo 0 = .ok (.iconst 0, 1) := by decide +kernel
theorem dX4_goOverTwo_1 : decode cX4_goOverTwo 1 = .ok (.istore_n 2, 1) := by decide +kernel
theorem dX4_goOverTwo_2 : decode cX4_goOverTwo 2 = .ok (.iload_n 1, 1) := by decide +kernel
theorem dX4_goOverTwo_3 : decode cX4_goOverTwo 3 = .ok (.iconst (-1), 1) := by decide +kernel
theorem dX4_goOverTwo_4 : decode cX4_goOverTwo 4 = .ok (.if_icmp .eq 34, 3) := by decide +kernel
theorem dX4_goOverTwo_7 : decode cX4_goOverTwo 7 = .ok (.iload_n 2, 1) := by decide +kernel
theorem dX4_goOverTwo_8 : decode cX4_goOverTwo 8 = .ok (.aload_n 0, 1) := by decide +kernel
theorem dX4_goOverTwo_9 : decode cX4_goOverTwo 9 = .ok (.getfield 16, 3) := by decide +kernel
theorem dX4_goOverTwo_12 : decode cX4_goOverTwo 12 = .ok (.iload_n 1, 1) := by decide +kernel
theorem dX4_goOverTwo_13 : decode cX4_goOverTwo 13 = .ok (.iaload, 1) := by decide +kernel
theorem dX4_goOverTwo_14 : decode cX4_goOverTwo 14 = .ok (.if_icmp .ge 24, 3) := by decide +kernel
theorem dX4_goOverTwo_17 : decode cX4_goOverTwo 17 = .ok (.aload_n 0, 1) := by decide +kernel
theorem dX4_goOverTwo_18 : decode cX4_goOverTwo 18 = .ok (.aload_n 0, 1) := by decide +kernel
theorem dX4_goOverTwo_19 : decode cX4_goOverTwo 19 = .ok (.getfield 23, 3) := by decide +kernel
theorem dX4_goOverTwo_22 : decode cX4_goOverTwo 22 = .ok (.bipush 8, 2) := by decide +kernel
theorem dX4_goOverTwo_24 : decode cX4_goOverTwo 24 = .ok (.iload_n 1, 1) := by decide +kernel
theorem dX4_goOverTwo_25 : decode cX4_goOverTwo 25 = .ok (.imul, 1) := by decide +kernel
theorem dX4_goOverTwo_26 : decode cX4_goOverTwo 26 = .ok (.iload_n 2, 1) := by decide +kernel
theorem dX4_goOverTwo_27 : decode cX4_goOverTwo 27 = .ok (.iadd, 1) := by decide +kernel
theorem dX4_goOverTwo_28 : decode cX4_goOverTwo 28 = .ok (.iaload, 1) := by decide +kernel
theorem dX4_goOverTwo_29 : decode cX4_goOverTwo 29 = .ok (.invokevirtual 135, 3) := by decide +kernel
theorem dX4_goOverTwo_32 : decode cX4_goOverTwo 32 = .ok (.iinc 2 1, 3) := by decide +kernel
theorem dX4_goOverTwo_35 : decode cX4_goOverTwo 35 = .ok (.goto (-33), 3) := by decide +kernel
theorem dX4_goOverTwo_38 : decode cX4_goOverTwo 38 = .ok (.return_, 1) := by decide +kernel
set_option maxRecDepth 20000 in
theorem ggX4_goOverAll_X4_goOver : GoodIn wsX4_goOverAll wsX4_goOver := goodIn_r _ [10, 4, 1, 2, 11, 16, 17, 18, 19, 20, 21, 22, 23, 24, 25, 26, 27, 28, 29] (by decide +kernel) (by decide +kernel)
set_option maxRecDepth 20000 in
theorem gX4_goOverAll_X4_goOver : GoodIn wsX4_goOverAll (wsV RX4 135 RX4 yX4_goOver wsX4_goOver) := goodIn_app (goodIn_of _ (by decide +kernel)) ggX4_goOverAll_X4_goOver
set_option maxRecDepth 20000 in
theorem ggX4_goOverAll_X4_goOverTwo : GoodIn wsX4_goOverAll wsX4_goOverTwo := goodIn_r _ [15, 4, 5, 6, 7, 8, 9, 10, 1, 2, 11, 16, 17, 18, 19, 20, 21, 22, 23, 24, 25, 26, 27, 28, 29] (by decide +kernel) (by decide +kernel)
set_option maxRecDepth 20000 in
theorem gX4_goOverAll_X4_goOverTwo : GoodIn wsX4_goOverAll (wsV RX4 139 RX4 yX4_goOverTwo wsX4_goOverTwo) := goodIn_app (goodIn_of _ (by decide +kernel)) ggX4_goOverAll_X4_goOverTwo
theorem dX4_goOverAll_0 : decode cX4_goOverAll 0 = .ok (.aload_n 0, 1) := by decide +kernel
theorem dX4_goOverAll_1 : decode cX4_goOverAll 1 = .ok (.iconst 0, 1) := by decide +kernel
theorem dX4_goOverAll_2 : decode cX4_goOverAll 2 = .ok (.putfield 129, 3) := by decide +kernel
theorem dX4_goOverAll_5 : decode cX4_goOverAll 5 = .ok (.aload_n 0, 1) := by decide +kernel
theorem dX4_goOverAll_6 : decode cX4_goOverAll 6 = .ok (.lconst 0, 1) := by decide +kernel
theorem dX4_goOverAll_7 : decode cX4_goOverAll 7 = .ok (.putfield 132, 3) := by decide +kernel
theorem dX4_goOverAll_10 : decode cX4_goOverAll 10 = .ok (.aload_n 0, 1) := by decide +kernel
theorem dX4_goOverAll_11 : decode cX4_goOverAll 11 = .ok (.getfield 13, 3) := by decide +kernel
theorem dX4_goOverAll_14 : decode cX4_goOverAll 14 = .ok (.iload_n 1, 1) := by decide +kernel
theorem dX4_goOverAll_15 : decode cX4_goOverAll 15 = .ok (.iaload, 1) := by decide +kernel
theorem dX4_goOverAll_16 : decode cX4_goOverAll 16 = .ok (.iconst 1, 1) := by decide +kernel
theorem dX4_goOverAll_17 : decode cX4_goOverAll 17 = .ok (.if_icmp .ne 11, 3) := by decide +kernel
theorem dX4_goOverAll_20 : decode cX4_goOverAll 20 = .ok (.aload_n 0, 1) := by decide +kernel
theorem dX4_goOverAll_21 : decode cX4_goOverAll 21 = .ok (.iload_n 1, 1) := by decide +kernel
theorem dX4_goOverAll_22 : decode cX4_goOverAll 22 = .ok (.invokevirtual 135, 3) := by decide +kernel
theorem dX4_goOverAll_25 : decode cX4_goOverAll 25 = .ok (.goto 54, 3) := by decide +kernel
theorem dX4_goOverAll_28 : decode cX4_goOverAll 28 = .ok (.aload_n 0, 1) := by decide +kernel
theorem dX4_goOverAll_29 : decode cX4_goOverAll 29 = .ok (.getfield 13, 3) := by decide +kernel
theorem dX4_goOverAll_32 : decode cX4_goOverAll 32 = .ok (.iload_n 1, 1) := by decide +kernel
theorem dX4_goOverAll_33 : decode cX4_goOverAll 33 = .ok (.iaload, 1) := by decide +kernel
theorem dX4_goOverAll_34 : decode cX4_goOverAll 34 = .ok (.iconst 2, 1) := by decide +kernel
theorem dX4_goOverAll_35 : decode cX4_goOverAll 35 = .ok (.if_icmp .ne 11, 3) := by decide +kernel
theorem dX4_goOverAll_38 : decode cX4_goOverAll 38 = .ok (.aload_n 0, 1) := by decide +kernel
theorem dX4_goOverAll_39 : decode cX4_goOverAll 39 = .ok (.iload_n 1, 1) := by decide +kernel
theorem dX4_goOverAll_40 : decode cX4_goOverAll 40 = .ok (.invokevirtual 139, 3) := by decide +kernel
theorem dX4_goOverAll_43 : decode cX4_goOverAll 43 = .ok (.goto 36, 3) := by decide +kernel
theorem dX4_goOverAll_46 : decode cX4_goOverAll 46 = .ok (.iconst 0, 1) := by decide +kernel
theorem dX4_goOverAll_47 : decode cX4_goOverAll 47 = .ok (.istore_n 2, 1) := by decide +kernel
theorem dX4_goOverAll_48 : decode cX4_goOverAll 48 = .ok (.iload_n 2, 1) := by decide +kernel
theorem dX4_goOverAll_49 : decode cX4_goOverAll 49 = .ok (.aload_n 0, 1) := by decide +kernel
theorem dX4_goOverAll_50 : decode cX4_goOverAll 50 = .ok (.getfield 16, 3) := by decide +kernel
theorem dX4_goOverAll_53 : decode cX4_goOverAll 53 = .ok (.iload_n 1, 1) := by decide +kernel
theorem dX4_goOverAll_54 : decode cX4_goOverAll 54 = .ok (.iaload, 1) := by decide +kernel
theorem dX4_goOverAll_55 : decode cX4_goOverAll 55 = .ok (.if_icmp .ge 24, 3) := by decide +kernel
theorem dX4_goOverAll_58 : decode cX4_goOverAll 58 = .ok (.aload_n 0, 1) := by decide +kernel
theorem dX4_goOverAll_59 : decode cX4_goOverAll 59 = .ok (.aload_n 0, 1) := by decide +kernel
theorem dX4_goOverAll_60 : decode cX4_goOverAll 60 = .ok (.getfield 23, 3) := by decide +kernel
theorem dX4_goOverAll_63 : decode cX4_goOverAll 63 = .ok (.bipush 8, 2) := by decide +kernel
theorem dX4_goOverAll_65 : decode cX4_goOverAll 65 = .ok (.iload_n 1, 1) := by decide +kernel
theorem dX4_goOverAll_66 : decode cX4_goOverAll 66 = .ok (.imul, 1) := by decide +kernel
theorem dX4_goOverAll_67 : decode cX4_goOverAll 67 = .ok (.iload_n 2, 1) := by decide +kernel
theorem dX4_goOverAll_68 : decode cX4_goOverAll 68 = .ok (.iadd, 1) := by decide +kernel
theorem dX4_goOverAll_69 : decode cX4_goOverAll 69 = .ok (.iaload, 1) := by decide +kernel
theorem dX4_goOverAll_70 : decode cX4_goOverAll 70 = .ok (.invokevirtual 139, 3) := by decide +kernel
theorem dX4_goOverAll_73 : decode cX4_goOverAll 73 = .ok (.iinc 2 1, 3) := by decide +kernel
theorem dX4_goOverAll_76 : decode cX4_goOverAll 76 = .ok (.goto (-28), 3) := by decide +kernel
theorem dX4_goOverAll_79 : decode cX4_goOverAll 79 = .ok (.return_, 1) := by decide +kernel
set_option maxRecDepth 20000 in
theorem ggX4_total_X4_isBox : GoodIn wsX4_total wsX4_isBox := goodIn_r _ [9, 10, 11, 8, 12] (by decide +kernel) (by decide +kernel)
set_option maxRecDepth 20000 in
theorem gX4_total_X4_isBox : GoodIn wsX4_total (va_wsS RX4 89 yX4_isBox wsX4_isBox) := goodIn_app (goodIn_of _ (by decide +kernel)) ggX4_total_X4_isBox
set_option maxRecDepth 20000 in
theorem ggX4_total_X4_in : GoodIn wsX4_total wsX4_in := goodIn_r _ [12] (by decide +kernel) (by decide +kernel)
set_option maxRecDepth 20000 in
theorem gX4_total_X4_in : GoodIn wsX4_total (va_wsS RX4 36 yX4_in wsX4_in) := goodIn_app (goodIn_of _ (by decide +kernel)) ggX4_total_X4_in
set_option maxRecDepth 20000 in
theorem ggX4_total_X4_goToRow : GoodIn wsX4_total wsX4_goToRow := goodIn_r _ [16, 17, 18, 19, 8, 20, 21, 1, 22, 23, 24, 25, 10, 11, 12, 26, 27, 28, 29, 51, 52, 53, 54, 55, 56, 57, 58, 59, 60, 61, 62, 63, 64] (by decide +kernel) (by decide +kernel)
set_option maxRecDepth 20000 in
theorem gX4_total_X4_goToRow : GoodIn wsX4_total (wsV RX4 82 RX4 yX4_goToRow wsX4_goToRow) := goodIn_app (goodIn_of _ (by decide +kernel)) ggX4_total_X4_goToRow
set_option maxRecDepth 20000 in
theorem ggX4_total_X4_goOverAll : GoodIn wsX4_total wsX4_goOverAll := goodIn_r _ [33, 3, 4, 24, 23, 25, 34, 35, 36, 8, 37, 38, 39, 40, 41, 42, 51, 52, 53, 54, 55, 56, 57, 58, 59, 60, 61, 62, 63, 64] (by decide +kernel) (by decide +kernel)
set_option maxRecDepth 20000 in
theorem gX4_total_X4_goOverAll : GoodIn wsX4_total (wsV RX4 142 RX4 yX4_goOverAll wsX4_goOverAll) := goodIn_app (goodIn_of _ (by decide +kernel)) ggX4_total_X4_goOverAll
set_option maxRecDepth 20000 in
theorem ggX4_total_X4_goesInto : GoodIn wsX4_total wsX4_goesInto := goodIn_r _ [45] (by decide +kernel) (by decide +kernel)
set_option maxRecDepth 20000 in
theorem gX4_total_X4_goesInto : GoodIn wsX4_total (va_wsS RX4 107 yX4_goesInto wsX4_goesInto) := goodIn_app (goodIn_of _ (by decide +kernel)) ggX4_total_X4_goesInto
set_option maxRecDepth 20000 in
theorem ggX4_total_X4_fails : GoodIn wsX4_total wsX4_fails := goodIn_r _ [49, 50, 51, 52, 53, 54, 55, 56, 57, 58, 59, 60, 61, 62, 63, 64] (by decide +kernel) (by decide +kernel)
set_option maxRecDepth 20000 in
theorem gX4_total_X4_fails : GoodIn wsX4_total (wsV RX4 96 RX4 yX4_fails wsX4_fails) := goodIn_app (goodIn_of _ (by decide +kernel)) ggX4_total_X4_fails
theorem dX4_total_0 : decode cX4_total 0 = .ok (.iload_n 1, 1) := by decide +kernel
theorem dX4_total_1 : decode cX4_total 1 = .ok (.invokestatic 89, 3) := by decide +kernel
theorem dX4_total_4 : decode cX4_total 4 = .ok (.ifCond .eq 12, 3) := by decide +kernel
theorem dX4_total_7 : decode cX4_total 7 = .ok (.iload_n 2, 1) := by decide +kernel
theorem dX4_total_8 : decode cX4_total 8 = .ok (.iconst 0, 1) := by decide +kernel
theorem dX4_total_9 : decode cX4_total 9 = .ok (.iconst 2, 1) := by decide +kernel
theorem dX4_total_10 : decode cX4_total 10 = .ok (.invokestatic 36, 3) := by decide +kernel
theorem dX4_total_13 : decode cX4_total 13 = .ok (.ifCond .ne 5, 3) := by decide +kernel
theorem dX4_total_16 : decode cX4_total 16 = .ok (.iconst (-1), 1) := by decide +kernel
theorem dX4_total_17 : decode cX4_total 17 = .ok (.ireturn, 1) := by decide +kernel
theorem dX4_total_18 : decode cX4_total 18 = .ok (.aload_n 0, 1) := by decide +kernel
theorem dX4_total_19 : decode cX4_total 19 = .ok (.iload_n 1, 1) := by decide +kernel
theorem dX4_total_20 : decode cX4_total 20 = .ok (.iload_n 2, 1) := by decide +kernel
theorem dX4_total_21 : decode cX4_total 21 = .ok (.iload_n 3, 1) := by decide +kernel
theorem dX4_total_22 : decode cX4_total 22 = .ok (.iload 4, 2) := by decide +kernel
theorem dX4_total_24 : decode cX4_total 24 = .ok (.invokevirtual 82, 3) := by decide +kernel
theorem dX4_total_27 : decode cX4_total 27 = .ok (.istore 5, 2) := by decide +kernel
theorem dX4_total_29 : decode cX4_total 29 = .ok (.iload 5, 2) := by decide +kernel
theorem dX4_total_31 : decode cX4_total 31 = .ok (.ifCond .ne 41, 3) := by decide +kernel
theorem dX4_total_34 : decode cX4_total 34 = .ok (.aload_n 0, 1) := by decide +kernel
theorem dX4_total_35 : decode cX4_total 35 = .ok (.aload_n 0, 1) := by decide +kernel
theorem dX4_total_36 : decode cX4_total 36 = .ok (.getfield 68, 3) := by decide +kernel
theorem dX4_total_39 : decode cX4_total 39 = .ok (.invokevirtual 142, 3) := by decide +kernel
theorem dX4_total_42 : decode cX4_total 42 = .ok (.aload_n 0, 1) := by decide +kernel
theorem dX4_total_43 : decode cX4_total 43 = .ok (.getfield 7, 3) := by decide +kernel
theorem dX4_total_46 : decode cX4_total 46 = .ok (.aload_n 0, 1) := by decide +kernel
theorem dX4_total_47 : decode cX4_total 47 = .ok (.getfield 68, 3) := by decide +kernel
theorem dX4_total_50 : decode cX4_total 50 = .ok (.iaload, 1) := by decide +kernel
theorem dX4_total_51 : decode cX4_total 51 = .ok (.iconst 5, 1) := by decide +kernel
theorem dX4_total_52 : decode cX4_total 52 = .ok (.invokestatic 107, 3) := by decide +kernel
theorem dX4_total_55 : decode cX4_total 55 = .ok (.ifCond .ne 14, 3) := by decide +kernel
theorem dX4_total_58 : decode cX4_total 58 = .ok (.aload_n 0, 1) := by decide +kernel
theorem dX4_total_59 : decode cX4_total 59 = .ok (.getfield 129, 3) := by decide +kernel
theorem dX4_total_62 : decode cX4_total 62 = .ok (.ifCond .le 7, 3) := by decide +kernel
theorem dX4_total_65 : decode cX4_total 65 = .ok (.iconst 4, 1) := by decide +kernel
theorem dX4_total_66 : decode cX4_total 66 = .ok (.goto 4, 3) := by decide +kernel
theorem dX4_total_69 : decode cX4_total 69 = .ok (.iconst 0, 1) := by decide +kernel
theorem dX4_total_70 : decode cX4_total 70 = .ok (.istore 5, 2) := by decide +kernel
theorem dX4_total_72 : decode cX4_total 72 = .ok (.iload 5, 2) := by decide +kernel
theorem dX4_total_74 : decode cX4_total 74 = .ok (.ifCond .eq 10, 3) := by decide +kernel
theorem dX4_total_77 : decode cX4_total 77 = .ok (.aload_n 0, 1) := by decide +kernel
theorem dX4_total_78 : decode cX4_total 78 = .ok (.iload 5, 2) := by decide +kernel
theorem dX4_total_80 : decode cX4_total 80 = .ok (.invokevirtual 96, 3) := by decide +kernel
theorem dX4_total_83 : decode cX4_total 83 = .ok (.ireturn, 1) := by decide +kernel
theorem dX4_total_84 : decode cX4_total 84 = .ok (.aload_n 0, 1) := by decide +kernel
theorem dX4_total_85 : decode cX4_total 85 = .ok (.aload_n 0, 1) := by decide +kernel
theorem dX4_total_86 : decode cX4_total 86 = .ok (.getfield 132, 3) := by decide +kernel
theorem dX4_total_89 : decode cX4_total 89 = .ok (.putfield 100, 3) := by decide +kernel
theorem dX4_total_92 : decode cX4_total 92 = .ok (.iconst 1, 1) := by decide +kernel
theorem dX4_total_93 : decode cX4_total 93 = .ok (.ireturn, 1) := by decide +kernel
set_option maxRecDepth 20000 in
theorem ggX4_count_X4_isBox : GoodIn wsX4_count wsX4_isBox := goodIn_r _ [6, 7, 8, 5, 9] (by decide +kernel) (by decide +kernel)
set_option maxRecDepth 20000 in
theorem gX4_count_X4_isBox : GoodIn wsX4_count (va_wsS RX4 89 yX4_isBox wsX4_isBox) := goodIn_app (goodIn_of _ (by decide +kernel)) ggX4_count_X4_isBox
set_option maxRecDepth 20000 in
theorem ggX4_count_X4_in : GoodIn wsX4_count wsX4_in := goodIn_r _ [9] (by decide +kernel) (by decide +kernel)
set_option maxRecDepth 20000 in
theorem gX4_count_X4_in : GoodIn wsX4_count (va_wsS RX4 36 yX4_in wsX4_in) := goodIn_app (goodIn_of _ (by decide +kernel)) ggX4_count_X4_in
set_option maxRecDepth 20000 in
theorem ggX4_count_X4_goToRow : GoodIn wsX4_count wsX4_goToRow := goodIn_r _ [13, 14, 15, 16, 5, 17, 18, 1, 19, 20, 21, 22, 7, 8, 9, 23, 24, 25, 26, 46, 47, 48, 49, 50, 51, 52, 53, 54, 55, 56, 57, 58, 59] (by decide +kernel) (by decide +kernel)
set_option maxRecDepth 20000 in
theorem gX4_count_X4_goToRow : GoodIn wsX4_count (wsV RX4 82 RX4 yX4_goToRow wsX4_goToRow) := goodIn_app (goodIn_of _ (by decide +kernel)) ggX4_count_X4_goToRow
set_option maxRecDepth 20000 in
theorem ggX4_count_X4_fails : GoodIn wsX4_count wsX4_fails := goodIn_r _ [30, 31, 46, 47, 48, 49, 50, 51, 52, 53, 54, 55, 56, 57, 58, 59] (by decide +kernel) (by decide +kernel)
set_option maxRecDepth 20000 in
theorem gX4_count_X4_fails : GoodIn wsX4_count (wsV RX4 96 RX4 yX4_fails wsX4_fails) := goodIn_app (goodIn_of _ (by decide +kernel)) ggX4_count_X4_fails
set_option maxRecDepth 20000 in
theorem ggX4_count_X4_goOverAll : GoodIn wsX4_count wsX4_goOverAll := goodIn_r _ [35, 2, 36, 21, 20, 22, 37, 38, 39, 5, 40, 41, 42, 43, 44, 45, 46, 47, 48, 49, 50, 51, 52, 53, 54, 55, 56, 57, 58, 59] (by decide +kernel) (by decide +kernel)
set_option maxRecDepth 20000 in
theorem gX4_count_X4_goOverAll : GoodIn wsX4_count (wsV RX4 142 RX4 yX4_goOverAll wsX4_goOverAll) := goodIn_app (goodIn_of _ (by decide +kernel)) ggX4_count_X4_goOverAll
theorem dX4_count_0 : decode cX4_count 0 = .ok (.iload_n 1, 1) := by decide +kernel
theorem dX4_count_1 : decode cX4_count 1 = .ok (.invokestatic 89, 3) := by decide +kernel
theorem dX4_count_4 : decode cX4_count 4 = .ok (.ifCond .eq 12, 3) := by decide +kernel
theorem dX4_count_7 : decode cX4_count 7 = .ok (.iload_n 2, 1) := by decide +kernel
theorem dX4_count_8 : decode cX4_count 8 = .ok (.iconst 0, 1) := by decide +kernel
theorem dX4_count_9 : decode cX4_count 9 = .ok (.iconst 2, 1) := by decide +kernel
theorem dX4_count_10 : decode cX4_count 10 = .ok (.invokestatic 36, 3) := by decide +kernel
theorem dX4_count_13 : decode cX4_count 13 = .ok (.ifCond .ne 5, 3) := by decide +kernel
theorem dX4_count_16 : decode cX4_count 16 = .ok (.iconst (-1), 1) := by decide +kernel
theorem dX4_count_17 : decode cX4_count 17 = .ok (.ireturn, 1) := by decide +kernel
theorem dX4_count_18 : decode cX4_count 18 = .ok (.aload_n 0, 1) := by decide +kernel
theorem dX4_count_19 : decode cX4_count 19 = .ok (.iload_n 1, 1) := by decide +kernel
theorem dX4_count_20 : decode cX4_count 20 = .ok (.iload_n 2, 1) := by decide +kernel
theorem dX4_count_21 : decode cX4_count 21 = .ok (.iload_n 3, 1) := by decide +kernel
theorem dX4_count_22 : decode cX4_count 22 = .ok (.iload 4, 2) := by decide +kernel
theorem dX4_count_24 : decode cX4_count 24 = .ok (.invokevirtual 82, 3) := by decide +kernel
theorem dX4_count_27 : decode cX4_count 27 = .ok (.istore 5, 2) := by decide +kernel
theorem dX4_count_29 : decode cX4_count 29 = .ok (.iload 5, 2) := by decide +kernel
theorem dX4_count_31 : decode cX4_count 31 = .ok (.ifCond .eq 10, 3) := by decide +kernel
theorem dX4_count_34 : decode cX4_count 34 = .ok (.aload_n 0, 1) := by decide +kernel
theorem dX4_count_35 : decode cX4_count 35 = .ok (.iload 5, 2) := by decide +kernel
theorem dX4_count_37 : decode cX4_count 37 = .ok (.invokevirtual 96, 3) := by decide +kernel
theorem dX4_count_40 : decode cX4_count 40 = .ok (.ireturn, 1) := by decide +kernel
theorem dX4_count_41 : decode cX4_count 41 = .ok (.aload_n 0, 1) := by decide +kernel
theorem dX4_count_42 : decode cX4_count 42 = .ok (.aload_n 0, 1) := by decide +kernel
theorem dX4_count_43 : decode cX4_count 43 = .ok (.getfield 68, 3) := by decide +kernel
theorem dX4_count_46 : decode cX4_count 46 = .ok (.invokevirtual 142, 3) := by decide +kernel
theorem dX4_count_49 : decode cX4_count 49 = .ok (.aload_n 0, 1) := by decide +kernel
theorem dX4_count_50 : decode cX4_count 50 = .ok (.getfield 129, 3) := by decide +kernel
theorem dX4_count_53 : decode cX4_count 53 = .ok (.ireturn, 1) := by decide +kernel
theorem dX4_seen_0 : decode cX4_seen 0 = .ok (.aload_n 0, 1) := by decide +kernel
theorem dX4_seen_1 : decode cX4_seen 1 = .ok (.getfield 100, 3) := by decide +kernel
theorem dX4_seen_4 : decode cX4_seen 4 = .ok (.lreturn, 1) := by decide +kernel
set_option maxRecDepth 20000 in
theorem ggX4_about_X4_in : GoodIn wsX4_about wsX4_in := goodIn_r _ [7] (by decide +kernel) (by decide +kernel)
set_option maxRecDepth 20000 in
theorem gX4_about_X4_in : GoodIn wsX4_about (va_wsS RX4 36 yX4_in wsX4_in) := goodIn_app (goodIn_of _ (by decide +kernel)) ggX4_about_X4_in
theorem dX4_about_0 : decode cX4_about 0 = .ok (.iload_n 1, 1) := by decide +kernel
theorem dX4_about_1 : decode cX4_about 1 = .ok (.bipush 6, 2) := by decide +kernel
theorem dX4_about_3 : decode cX4_about 3 = .ok (.if_icmp .ne 39, 3) := by decide +kernel
theorem dX4_about_6 : decode cX4_about 6 = .ok (.iconst 0, 1) := by decide +kernel
theorem dX4_about_7 : decode cX4_about 7 = .ok (.istore_n 2, 1) := by decide +kernel
theorem dX4_about_8 : decode cX4_about 8 = .ok (.iconst 0, 1) := by decide +kernel
theorem dX4_about_9 : decode cX4_about 9 = .ok (.istore_n 3, 1) := by decide +kernel
theorem dX4_about_10 : decode cX4_about 10 = .ok (.iload_n 3, 1) := by decide +kernel
theorem dX4_about_11 : decode cX4_about 11 = .ok (.bipush 10, 2) := by decide +kernel
theorem dX4_about_13 : decode cX4_about 13 = .ok (.if_icmp .ge 27, 3) := by decide +kernel
theorem dX4_about_16 : decode cX4_about 16 = .ok (.iload_n 2, 1) := by decide +kernel
theorem dX4_about_17 : decode cX4_about 17 = .ok (.aload_n 0, 1) := by decide +kernel
theorem dX4_about_18 : decode cX4_about 18 = .ok (.getfield 26, 3) := by decide +kernel
theorem dX4_about_21 : decode cX4_about 21 = .ok (.iload_n 3, 1) := by decide +kernel
theorem dX4_about_22 : decode cX4_about 22 = .ok (.iaload, 1) := by decide +kernel
theorem dX4_about_23 : decode cX4_about 23 = .ok (.iconst (-1), 1) := by decide +kernel
theorem dX4_about_24 : decode cX4_about 24 = .ok (.if_icmp .ne 7, 3) := by decide +kernel
theorem dX4_about_27 : decode cX4_about 27 = .ok (.iconst 0, 1) := by decide +kernel
theorem dX4_about_28 : decode cX4_about 28 = .ok (.goto 4, 3) := by decide +kernel
theorem dX4_about_31 : decode cX4_about 31 = .ok (.iconst 1, 1) := by decide +kernel
theorem dX4_about_32 : decode cX4_about 32 = .ok (.iadd, 1) := by decide +kernel
theorem dX4_about_33 : decode cX4_about 33 = .ok (.istore_n 2, 1) := by decide +kernel
theorem dX4_about_34 : decode cX4_about 34 = .ok (.iinc 3 1, 3) := by decide +kernel
theorem dX4_about_37 : decode cX4_about 37 = .ok (.goto (-27), 3) := by decide +kernel
theorem dX4_about_40 : decode cX4_about 40 = .ok (.iload_n 2, 1) := by decide +kernel
theorem dX4_about_41 : decode cX4_about 41 = .ok (.ireturn, 1) := by decide +kernel
theorem dX4_about_42 : decode cX4_about 42 = .ok (.iload_n 1, 1) := by decide +kernel
theorem dX4_about_43 : decode cX4_about 43 = .ok (.ifCond .ne 10, 3) := by decide +kernel
theorem dX4_about_46 : decode cX4_about 46 = .ok (.aload_n 0, 1) := by decide +kernel
theorem dX4_about_47 : decode cX4_about 47 = .ok (.getfield 32, 3) := by decide +kernel
theorem dX4_about_50 : decode cX4_about 50 = .ok (.goto 22, 3) := by decide +kernel
theorem dX4_about_53 : decode cX4_about 53 = .ok (.iload_n 1, 1) := by decide +kernel
theorem dX4_about_54 : decode cX4_about 54 = .ok (.iconst 1, 1) := by decide +kernel
theorem dX4_about_55 : decode cX4_about 55 = .ok (.iconst 5, 1) := by decide +kernel
theorem dX4_about_56 : decode cX4_about 56 = .ok (.invokestatic 36, 3) := by decide +kernel
theorem dX4_about_59 : decode cX4_about 59 = .ok (.ifCond .eq 12, 3) := by decide +kernel
theorem dX4_about_62 : decode cX4_about 62 = .ok (.aload_n 0, 1) := by decide +kernel
theorem dX4_about_63 : decode cX4_about 63 = .ok (.getfield 29, 3) := by decide +kernel
theorem dX4_about_66 : decode cX4_about 66 = .ok (.iload_n 1, 1) := by decide +kernel
theorem dX4_about_67 : decode cX4_about 67 = .ok (.iaload, 1) := by decide +kernel
theorem dX4_about_68 : decode cX4_about 68 = .ok (.goto 4, 3) := by decide +kernel
theorem dX4_about_71 : decode cX4_about 71 = .ok (.iconst (-1), 1) := by decide +kernel
theorem dX4_about_72 : decode cX4_about 72 = .ok (.ireturn, 1) := by decide +kernel
end
section
theorem dJxe99ae_isNaN_b9ae7_0 : decode cJxe99ae_isNaN_b9ae7 0 = .ok (.dload_n 0, 1) := by decide +kernel
theorem dJxe99ae_isNaN_b9ae7_1 : decode cJxe99ae_isNaN_b9ae7 1 = .ok (.dload_n 0, 1) := by decide +kernel
theorem dJxe99ae_isNaN_b9ae7_2 : decode cJxe99ae_isNaN_b9ae7 2 = .ok (.dcmp .l, 1) := by decide +kernel
theorem dJxe99ae_isNaN_b9ae7_3 : decode cJxe99ae_isNaN_b9ae7 3 = .ok (.ifCond .eq 7, 3) := by decide +kernel
theorem dJxe99ae_isNaN_b9ae7_6 : decode cJxe99ae_isNaN_b9ae7 6 = .ok (.iconst 1, 1) := by decide +kernel
theorem dJxe99ae_isNaN_b9ae7_7 : decode cJxe99ae_isNaN_b9ae7 7 = .ok (.goto 4, 3) := by decide +kernel
theorem dJxe99ae_isNaN_b9ae7_10 : decode cJxe99ae_isNaN_b9ae7 10 = .ok (.iconst 0, 1) := by decide +kernel
theorem dJxe99ae_isNaN_b9ae7_11 : decode cJxe99ae_isNaN_b9ae7 11 = .ok (.ireturn, 1) := by decide +kernel
set_option maxRecDepth 20000 in
theorem ggJxe99ae_doubleToLongBits_ccdee_Jxe99ae_isNaN_b9ae7 : GoodIn wsJxe99ae_doubleToLongBits_ccdee wsJxe99ae_isNaN_b9ae7 := goodIn_r _ [9] (by decide +kernel) (by decide +kernel)
set_option maxRecDepth 20000 in
theorem gJxe99ae_doubleToLongBits_ccdee_Jxe99ae_isNaN_b9ae7 : GoodIn wsJxe99ae_doubleToLongBits_ccdee (va_wsS RJxe99ae 122 yJxe99ae_isNaN_b9ae7 wsJxe99ae_isNaN_b9ae7) := goodIn_app (goodIn_of _ (by decide +kernel)) ggJxe99ae_doubleToLongBits_ccdee_Jxe99ae_isNaN_b9ae7
theorem dJxe99ae_doubleToLongBits_ccdee_0 : decode cJxe99ae_doubleToLongBits_ccdee 0 = .ok (.dload_n 0, 1) := by decide +kernel
theorem dJxe99ae_doubleToLongBits_ccdee_1 : decode cJxe99ae_doubleToLongBits_ccdee 1 = .ok (.invokestatic 122, 3) := by decide +kernel
theorem dJxe99ae_doubleToLongBits_ccdee_4 : decode cJxe99ae_doubleToLongBits_ccdee 4 = .ok (.ifCond .ne 8, 3) := by decide +kernel
theorem dJxe99ae_doubleToLongBits_ccdee_7 : decode cJxe99ae_doubleToLongBits_ccdee 7 = .ok (.dload_n 0, 1) := by decide +kernel
theorem dJxe99ae_doubleToLongBits_ccdee_8 : decode cJxe99ae_doubleToLongBits_ccdee 8 = .ok (.invokestatic 134, 3) := by decide +kernel
theorem dJxe99ae_doubleToLongBits_ccdee_11 : decode cJxe99ae_doubleToLongBits_ccdee 11 = .ok (.lreturn, 1) := by decide +kernel
theorem dJxe99ae_doubleToLongBits_ccdee_12 : decode cJxe99ae_doubleToLongBits_ccdee 12 = .ok (.ldc2_w 137, 3) := by decide +kernel
theorem dJxe99ae_doubleToLongBits_ccdee_15 : decode cJxe99ae_doubleToLongBits_ccdee 15 = .ok (.lreturn, 1) := by decide +kernel
theorem dJxf58ca_isNaN_12338_0 : decode cJxf58ca_isNaN_12338 0 = .ok (.fload_n 0, 1) := by decide +kernel
theorem dJxf58ca_isNaN_12338_1 : decode cJxf58ca_isNaN_12338 1 = .ok (.fload_n 0, 1) := by decide +kernel
theorem dJxf58ca_isNaN_12338_2 : decode cJxf58ca_isNaN_12338 2 = .ok (.fcmp .l, 1) := by decide +kernel
theorem dJxf58ca_isNaN_12338_3 : decode cJxf58ca_isNaN_12338 3 = .ok (.ifCond .eq 7, 3) := by decide +kernel
theorem dJxf58ca_isNaN_12338_6 : decode cJxf58ca_isNaN_12338 6 = .ok (.iconst 1, 1) := by decide +kernel
theorem dJxf58ca_isNaN_12338_7 : decode cJxf58ca_isNaN_12338 7 = .ok (.goto 4, 3) := by decide +kernel
theorem dJxf58ca_isNaN_12338_10 : decode cJxf58ca_isNaN_12338 10 = .ok (.iconst 0, 1) := by decide +kernel
theorem dJxf58ca_isNaN_12338_11 : decode cJxf58ca_isNaN_12338 11 = .ok (.ireturn, 1) := by decide +kernel
set_option maxRecDepth 20000 in
theorem ggJxf58ca_floatToIntBits_5c35a_Jxf58ca_isNaN_12338 : GoodIn wsJxf58ca_floatToIntBits_5c35a wsJxf58ca_isNaN_12338 := goodIn_r _ [9] (by decide +kernel) (by decide +kernel)
set_option maxRecDepth 20000 in
theorem gJxf58ca_floatToIntBits_5c35a_Jxf58ca_isNaN_12338 : GoodIn wsJxf58ca_floatToIntBits_5c35a (va_wsS RJxf58ca 59 yJxf58ca_isNaN_12338 wsJxf58ca_isNaN_12338) := goodIn_app (goodIn_of _ (by decide +kernel)) ggJxf58ca_floatToIntBits_5c35a_Jxf58ca_isNaN_12338
theorem dJxf58ca_floatToIntBits_5c35a_0 : decode cJxf58ca_floatToIntBits_5c35a 0 = .ok (.fload_n 0, 1) := by decide +kernel
theorem dJxf58ca_floatToIntBits_5c35a_1 : decode cJxf58ca_floatToIntBits_5c35a 1 = .ok (.invokestatic 59, 3) := by decide +kernel
theorem dJxf58ca_floatToIntBits_5c35a_4 : decode cJxf58ca_floatToIntBits_5c35a 4 = .ok (.ifCond .ne 8, 3) := by decide +kernel
theorem dJxf58ca_floatToIntBits_5c35a_7 : decode cJxf58ca_floatToIntBits_5c35a 7 = .ok (.fload_n 0, 1) := by decide +kernel
theorem dJxf58ca_floatToIntBits_5c35a_8 : decode cJxf58ca_floatToIntBits_5c35a 8 = .ok (.invokestatic 74, 3) := by decide +kernel
theorem dJxf58ca_floatToIntBits_5c35a_11 : decode cJxf58ca_floatToIntBits_5c35a 11 = .ok (.ireturn, 1) := by decide +kernel
theorem dJxf58ca_floatToIntBits_5c35a_12 : decode cJxf58ca_floatToIntBits_5c35a 12 = .ok (.ldc 77, 2) := by decide +kernel
theorem dJxf58ca_floatToIntBits_5c35a_14 : decode cJxf58ca_floatToIntBits_5c35a 14 = .ok (.ireturn, 1) := by decide +kernel
theorem dJ6_numberOfLeadingZeros_0f7a4_0 : decode cJ6_numberOfLeadingZeros_0f7a4 0 = .ok (.iload_n 0, 1) := by decide +kernel
theorem dJ6_numberOfLeadingZeros_0f7a4_1 : decode cJ6_numberOfLeadingZeros_0f7a4 1 = .ok (.ifCond .gt 14, 3) := by decide +kernel
theorem dJ6_numberOfLeadingZeros_0f7a4_4 : decode cJ6_numberOfLeadingZeros_0f7a4 4 = .ok (.iload_n 0, 1) := by decide +kernel
theorem dJ6_numberOfLeadingZeros_0f7a4_5 : decode cJ6_numberOfLeadingZeros_0f7a4 5 = .ok (.ifCond .ne 8, 3) := by decide +kernel
theorem dJ6_numberOfLeadingZeros_0f7a4_8 : decode cJ6_numberOfLeadingZeros_0f7a4 8 = .ok (.bipush 32, 2) := by decide +kernel
theorem dJ6_numberOfLeadingZeros_0f7a4_10 : decode cJ6_numberOfLeadingZeros_0f7a4 10 = .ok (.goto 4, 3) := by decide +kernel
theorem dJ6_numberOfLeadingZeros_0f7a4_13 : decode cJ6_numberOfLeadingZeros_0f7a4 13 = .ok (.iconst 0, 1) := by decide +kernel
theorem dJ6_numberOfLeadingZeros_0f7a4_14 : decode cJ6_numberOfLeadingZeros_0f7a4 14 = .ok (.ireturn, 1) := by decide +kernel
theorem dJ6_numberOfLeadingZeros_0f7a4_15 : decode cJ6_numberOfLeadingZeros_0f7a4 15 = .ok (.bipush 31, 2) := by decide +kernel
theorem dJ6_numberOfLeadingZeros_0f7a4_17 : decode cJ6_numberOfLeadingZeros_0f7a4 17 = .ok (.istore_n 1, 1) := by decide +kernel
theorem dJ6_numberOfLeadingZeros_0f7a4_18 : decode cJ6_numberOfLeadingZeros_0f7a4 18 = .ok (.iload_n 0, 1) := by decide +kernel
theorem dJ6_numberOfLeadingZeros_0f7a4_19 : decode cJ6_numberOfLeadingZeros_0f7a4 19 = .ok (.ldc_w 264, 3) := by decide +kernel
theorem dJ6_numberOfLeadingZeros_0f7a4_22 : decode cJ6_numberOfLeadingZeros_0f7a4 22 = .ok (.if_icmp .lt 11, 3) := by decide +kernel
theorem dJ6_numberOfLeadingZeros_0f7a4_25 : decode cJ6_numberOfLeadingZeros_0f7a4 25 = .ok (.iinc 1 (-16), 3) := by decide +kernel
theorem dJ6_numberOfLeadingZeros_0f7a4_28 : decode cJ6_numberOfLeadingZeros_0f7a4 28 = .ok (.iload_n 0, 1) := by decide +kernel
theorem dJ6_numberOfLeadingZeros_0f7a4_29 : decode cJ6_numberOfLeadingZeros_0f7a4 29 = .ok (.bipush 16, 2) := by decide +kernel
theorem dJ6_numberOfLeadingZeros_0f7a4_31 : decode cJ6_numberOfLeadingZeros_0f7a4 31 = .ok (.iushr, 1) := by decide +kernel
theorem dJ6_numberOfLeadingZeros_0f7a4_32 : decode cJ6_numberOfLeadingZeros_0f7a4 32 = .ok (.istore_n 0, 1) := by decide +kernel
theorem dJ6_numberOfLeadingZeros_0f7a4_33 : decode cJ6_numberOfLeadingZeros_0f7a4 33 = .ok (.iload_n 0, 1) := by decide +kernel
theorem dJ6_numberOfLeadingZeros_0f7a4_34 : decode cJ6_numberOfLeadingZeros_0f7a4 34 = .ok (.sipush 256, 3) := by decide +kernel
theorem dJ6_numberOfLeadingZeros_0f7a4_37 : decode cJ6_numberOfLeadingZeros_0f7a4 37 = .ok (.if_icmp .lt 11, 3) := by decide +kernel
theorem dJ6_numberOfLeadingZeros_0f7a4_40 : decode cJ6_numberOfLeadingZeros_0f7a4 40 = .ok (.iinc 1 (-8), 3) := by decide +kernel
theorem dJ6_numberOfLeadingZeros_0f7a4_43 : decode cJ6_numberOfLeadingZeros_0f7a4 43 = .ok (.iload_n 0, 1) := by decide +kernel
theorem dJ6_numberOfLeadingZeros_0f7a4_44 : decode cJ6_numberOfLeadingZeros_0f7a4 44 = .ok (.bipush 8, 2) := by decide +kernel
theorem dJ6_numberOfLeadingZeros_0f7a4_46 : decode cJ6_numberOfLeadingZeros_0f7a4 46 = .ok (.iushr, 1) := by decide +kernel
theorem dJ6_numberOfLeadingZeros_0f7a4_47 : decode cJ6_numberOfLeadingZeros_0f7a4 47 = .ok (.istore_n 0, 1) := by decide +kernel
theorem dJ6_numberOfLeadingZeros_0f7a4_48 : decode cJ6_numberOfLeadingZeros_0f7a4 48 = .ok (.iload_n 0, 1) := by decide +kernel
theorem dJ6_numberOfLeadingZeros_0f7a4_49 : decode cJ6_numberOfLeadingZeros_0f7a4 49 = .ok (.bipush 16, 2) := by decide +kernel
theorem dJ6_numberOfLeadingZeros_0f7a4_51 : decode cJ6_numberOfLeadingZeros_0f7a4 51 = .ok (.if_icmp .lt 10, 3) := by decide +kernel
theorem dJ6_numberOfLeadingZeros_0f7a4_54 : decode cJ6_numberOfLeadingZeros_0f7a4 54 = .ok (.iinc 1 (-4), 3) := by decide +kernel
theorem dJ6_numberOfLeadingZeros_0f7a4_57 : decode cJ6_numberOfLeadingZeros_0f7a4 57 = .ok (.iload_n 0, 1) := by decide +kernel
theorem dJ6_numberOfLeadingZeros_0f7a4_58 : decode cJ6_numberOfLeadingZeros_0f7a4 58 = .ok (.iconst 4, 1) := by decide +kernel
theorem dJ6_numberOfLeadingZeros_0f7a4_59 : decode cJ6_numberOfLeadingZeros_0f7a4 59 = .ok (.iushr, 1) := by decide +kernel
theorem dJ6_numberOfLeadingZeros_0f7a4_60 : decode cJ6_numberOfLeadingZeros_0f7a4 60 = .ok (.istore_n 0, 1) := by decide +kernel
theorem dJ6_numberOfLeadingZeros_0f7a4_61 : decode cJ6_numberOfLeadingZeros_0f7a4 61 = .ok (.iload_n 0, 1) := by decide +kernel
theorem dJ6_numberOfLeadingZeros_0f7a4_62 : decode cJ6_numberOfLeadingZeros_0f7a4 62 = .ok (.iconst 4, 1) := by decide +kernel
theorem dJ6_numberOfLeadingZeros_0f7a4_63 : decode cJ6_numberOfLeadingZeros_0f7a4 63 = .ok (.if_icmp .lt 10, 3) := by decide +kernel
theorem dJ6_numberOfLeadingZeros_0f7a4_66 : decode cJ6_numberOfLeadingZeros_0f7a4 66 = .ok (.iinc 1 (-2), 3) := by decide +kernel
theorem dJ6_numberOfLeadingZeros_0f7a4_69 : decode cJ6_numberOfLeadingZeros_0f7a4 69 = .ok (.iload_n 0, 1) := by decide +kernel
theorem dJ6_numberOfLeadingZeros_0f7a4_70 : decode cJ6_numberOfLeadingZeros_0f7a4 70 = .ok (.iconst 2, 1) := by decide +kernel
theorem dJ6_numberOfLeadingZeros_0f7a4_71 : decode cJ6_numberOfLeadingZeros_0f7a4 71 = .ok (.iushr, 1) := by decide +kernel
theorem dJ6_numberOfLeadingZeros_0f7a4_72 : decode cJ6_numberOfLeadingZeros_0f7a4 72 = .ok (.istore_n 0, 1) := by decide +kernel
theorem dJ6_numberOfLeadingZeros_0f7a4_73 : decode cJ6_numberOfLeadingZeros_0f7a4 73 = .ok (.iload_n 1, 1) := by decide +kernel
theorem dJ6_numberOfLeadingZeros_0f7a4_74 : decode cJ6_numberOfLeadingZeros_0f7a4 74 = .ok (.iload_n 0, 1) := by decide +kernel
theorem dJ6_numberOfLeadingZeros_0f7a4_75 : decode cJ6_numberOfLeadingZeros_0f7a4 75 = .ok (.iconst 1, 1) := by decide +kernel
theorem dJ6_numberOfLeadingZeros_0f7a4_76 : decode cJ6_numberOfLeadingZeros_0f7a4 76 = .ok (.iushr, 1) := by decide +kernel
theorem dJ6_numberOfLeadingZeros_0f7a4_77 : decode cJ6_numberOfLeadingZeros_0f7a4 77 = .ok (.isub, 1) := by decide +kernel
theorem dJ6_numberOfLeadingZeros_0f7a4_78 : decode cJ6_numberOfLeadingZeros_0f7a4 78 = .ok (.ireturn, 1) := by decide +kernel
set_option maxRecDepth 20000 in
theorem ggJ13_numberOfLeadingZeros_95d88_J6_numberOfLeadingZeros_0f7a4 : GoodIn wsJ13_numberOfLeadingZeros_95d88 wsJ6_numberOfLeadingZeros_0f7a4 := goodIn_r _ [4, 5] (by decide +kernel) (by decide +kernel)
set_option maxRecDepth 20000 in
theorem gJ13_numberOfLeadingZeros_95d88_J6_numberOfLeadingZeros_0f7a4 : GoodIn wsJ13_numberOfLeadingZeros_95d88 (va_wsS RJ13 308 yJ6_numberOfLeadingZeros_0f7a4 wsJ6_numberOfLeadingZeros_0f7a4) := goodIn_app (goodIn_of _ (by decide +kernel)) ggJ13_numberOfLeadingZeros_95d88_J6_numberOfLeadingZeros_0f7a4
theorem dJ13_numberOfLeadingZeros_95d88_0 : decode cJ13_numberOfLeadingZeros_95d88 0 = .ok (.lload_n 0, 1) := by decide +kernel
theorem dJ13_numberOfLeadingZeros_95d88_1 : decode cJ13_numberOfLeadingZeros_95d88 1 = .ok (.bipush 32, 2) := by decide +kernel
theorem dJ13_numberOfLeadingZeros_95d88_3 : decode cJ13_numberOfLeadingZeros_95d88 3 = .ok (.lushr, 1) := by decide +kernel
theorem dJ13_numberOfLeadingZeros_95d88_4 : decode cJ13_numberOfLeadingZeros_95d88 4 = .ok (.l2i, 1) := by decide +kernel
theorem dJ13_numberOfLeadingZeros_95d88_5 : decode cJ13_numberOfLeadingZeros_95d88 5 = .ok (.istore_n 2, 1) := by decide +kernel
theorem dJ13_numberOfLeadingZeros_95d88_6 : decode cJ13_numberOfLeadingZeros_95d88 6 = .ok (.iload_n 2, 1) := by decide +kernel
theorem dJ13_numberOfLeadingZeros_95d88_7 : decode cJ13_numberOfLeadingZeros_95d88 7 = .ok (.ifCond .ne 14, 3) := by decide +kernel
theorem dJ13_numberOfLeadingZeros_95d88_10 : decode cJ13_numberOfLeadingZeros_95d88 10 = .ok (.bipush 32, 2) := by decide +kernel
theorem dJ13_numberOfLeadingZeros_95d88_12 : decode cJ13_numberOfLeadingZeros_95d88 12 = .ok (.lload_n 0, 1) := by decide +kernel
theorem dJ13_numberOfLeadingZeros_95d88_13 : decode cJ13_numberOfLeadingZeros_95d88 13 = .ok (.l2i, 1) := by decide +kernel
theorem dJ13_numberOfLeadingZeros_95d88_14 : decode cJ13_numberOfLeadingZeros_95d88 14 = .ok (.invokestatic 308, 3) := by decide +kernel
theorem dJ13_numberOfLeadingZeros_95d88_17 : decode cJ13_numberOfLeadingZeros_95d88 17 = .ok (.iadd, 1) := by decide +kernel
theorem dJ13_numberOfLeadingZeros_95d88_18 : decode cJ13_numberOfLeadingZeros_95d88 18 = .ok (.goto 7, 3) := by decide +kernel
theorem dJ13_numberOfLeadingZeros_95d88_21 : decode cJ13_numberOfLeadingZeros_95d88 21 = .ok (.iload_n 2, 1) := by decide +kernel
theorem dJ13_numberOfLeadingZeros_95d88_22 : decode cJ13_numberOfLeadingZeros_95d88 22 = .ok (.invokestatic 308, 3) := by decide +kernel
theorem dJ13_numberOfLeadingZeros_95d88_25 : decode cJ13_numberOfLeadingZeros_95d88 25 = .ok (.ireturn, 1) := by decide +kernel
end
section
set_option maxRecDepth 20000 in
theorem ggL_law_X3_init : GoodIn wsL_law wsX3_init := goodIn_r _ [9, 10, 11, 12, 13, 14, 15, 16, 17, 18, 19, 20, 21, 22, 23, 24, 25, 26, 454, 455, 456, 457, 458, 459, 474, 475, 476, 477, 478] (by decide +kernel) (by decide +kernel)
set_option maxRecDepth 20000 in
theorem gL_law_X3_init : GoodIn wsL_law (wsX3_init) := ggL_law_X3_init
set_option maxRecDepth 20000 in
theorem ggL_law_X4_init : GoodIn wsL_law wsX4_init := goodIn_r _ [29, 30, 11, 12, 15, 31, 32, 33, 34, 35, 36, 37, 38, 39, 460, 461, 462, 463, 464, 465, 466, 467, 468, 469, 470, 471, 472, 473] (by decide +kernel) (by decide +kernel)
set_option maxRecDepth 20000 in
theorem gL_law_X4_init : GoodIn wsL_law (wsX4_init) := ggL_law_X4_init
set_option maxRecDepth 20000 in
theorem ggL_law_X3_make : GoodIn wsL_law wsX3_make := goodIn_r _ [43, 21, 14, 13, 44, 45, 46, 47, 2, 48, 49, 50, 51, 52, 53, 54, 55, 16, 56, 57, 58, 59, 11, 12, 60, 61, 62, 34, 63, 64, 65, 454, 455, 456, 457, 458, 459, 479, 480, 481, 482, 483] (by decide +kernel) (by decide +kernel)
set_option maxRecDepth 20000 in
theorem gL_law_X3_make : GoodIn wsL_law (wsV RL 13 RX3 yX3_make wsX3_make) := goodIn_app (goodIn_of _ (by decide +kernel)) ggL_law_X3_make
set_option maxRecDepth 20000 in
theorem ggL_law_X4_make : GoodIn wsL_law wsX4_make := goodIn_r _ [69, 39, 31, 32, 33, 36, 37, 70, 71, 5, 72, 73, 74, 75, 76, 77, 78, 79, 80, 81, 82, 38, 460, 461, 462, 463, 464, 465, 466, 467, 468, 469, 470, 471, 472, 473] (by decide +kernel) (by decide +kernel)
set_option maxRecDepth 20000 in
theorem gL_law_X4_make : GoodIn wsL_law (wsV RL 17 RX4 yX4_make wsX4_make) := goodIn_app (goodIn_of _ (by decide +kernel)) ggL_law_X4_make
set_option maxRecDepth 20000 in
theorem ggL_law_X3_take : GoodIn wsL_law wsX3_take := goodIn_r _ [86, 14, 46, 47, 2, 48, 454, 455, 456, 457, 458, 459] (by decide +kernel) (by decide +kernel)
set_option maxRecDepth 20000 in
theorem gL_law_X3_take : GoodIn wsL_law (wsV RL 18 RX3 yX3_take wsX3_take) := goodIn_app (goodIn_of _ (by decide +kernel)) ggL_law_X3_take
set_option maxRecDepth 20000 in
theorem ggL_law_X4_take : GoodIn wsL_law wsX4_take := goodIn_r _ [90, 37, 70, 71, 5, 72, 73, 74, 75, 460, 461, 462, 463, 464, 465, 466, 467, 468, 469, 470, 471, 472, 473] (by decide +kernel) (by decide +kernel)
set_option maxRecDepth 20000 in
theorem gL_law_X4_take : GoodIn wsL_law (wsV RL 22 RX4 yX4_take wsX4_take) := goodIn_app (goodIn_of _ (by decide +kernel)) ggL_law_X4_take
set_option maxRecDepth 20000 in
theorem ggL_law_X3_empty : GoodIn wsL_law wsX3_empty := goodIn_r _ [94, 14, 46, 47, 2, 48, 454, 455, 456, 457, 458, 459] (by decide +kernel) (by decide +kernel)
set_option maxRecDepth 20000 in
theorem gL_law_X3_empty : GoodIn wsL_law (wsV RL 23 RX3 yX3_empty wsX3_empty) := goodIn_app (goodIn_of _ (by decide +kernel)) ggL_law_X3_empty
set_option maxRecDepth 20000 in
theorem ggL_law_X4_empty : GoodIn wsL_law wsX4_empty := goodIn_r _ [98, 37, 70, 71, 5, 72, 73, 74, 75, 460, 461, 462, 463, 464, 465, 466, 467, 468, 469, 470, 471, 472, 473] (by decide +kernel) (by decide +kernel)
set_option maxRecDepth 20000 in
theorem gL_law_X4_empty : GoodIn wsL_law (wsV RL 27 RX4 yX4_empty wsX4_empty) := goodIn_app (goodIn_of _ (by decide +kernel)) ggL_law_X4_empty
set_option maxRecDepth 20000 in
theorem ggL_law_X3_same : GoodIn wsL_law wsX3_same := goodIn_r _ [102, 14, 46, 47, 2, 48, 454, 455, 456, 457, 458, 459] (by decide +kernel) (by decide +kernel)
set_option maxRecDepth 20000 in
theorem gL_law_X3_same : GoodIn wsL_law (wsV RL 28 RX3 yX3_same wsX3_same) := goodIn_app (goodIn_of _ (by decide +kernel)) ggL_law_X3_same
set_option maxRecDepth 20000 in
theorem ggL_law_X4_same : GoodIn wsL_law wsX4_same := goodIn_r _ [106, 37, 70, 71, 5, 72, 73, 74, 75, 460, 461, 462, 463, 464, 465, 466, 467, 468, 469, 470, 471, 472, 473] (by decide +kernel) (by decide +kernel)
set_option maxRecDepth 20000 in
theorem gL_law_X4_same : GoodIn wsL_law (wsV RL 31 RX4 yX4_same wsX4_same) := goodIn_app (goodIn_of _ (by decide +kernel)) ggL_law_X4_same
set_option maxRecDepth 20000 in
theorem ggL_law_X3_look : GoodIn wsL_law wsX3_look := goodIn_r _ [110, 20, 111, 112, 23, 113, 114, 115, 116, 46, 47, 2, 48, 117, 118, 119, 120, 121, 122, 123, 14, 124, 125, 126, 127, 19, 128, 129, 130, 131, 132, 133, 134, 135, 136, 137, 138, 139, 140, 141, 142, 143, 144, 145, 146, 147, 148, 149, 150, 45, 151, 62, 152, 153, 154, 155, 61, 52, 53, 54, 55, 16, 454, 455, 456, 457, 458, 459, 474, 475, 476, 477, 478, 479, 480, 481, 482, 483] (by decide +kernel) (by decide +kernel)
set_option maxRecDepth 20000 in
theorem gL_law_X3_look : GoodIn wsL_law (wsV RL 32 RX3 yX3_look wsX3_look) := goodIn_app (goodIn_of _ (by decide +kernel)) ggL_law_X3_look
set_option maxRecDepth 20000 in
theorem ggL_law_X4_look : GoodIn wsL_law wsX4_look := goodIn_r _ [159, 160, 35, 161, 31, 162, 32, 70, 71, 5, 72, 73, 74, 75, 163, 164, 165, 166, 37, 33, 36, 79, 80, 81, 82, 38, 460, 461, 462, 463, 464, 465, 466, 467, 468, 469, 470, 471, 472, 473] (by decide +kernel) (by decide +kernel)
set_option maxRecDepth 20000 in
theorem gL_law_X4_look : GoodIn wsL_law (wsV RL 36 RX4 yX4_look wsX4_look) := goodIn_app (goodIn_of _ (by decide +kernel)) ggL_law_X4_look
set_option maxRecDepth 20000 in
theorem ggL_law_X3_length : GoodIn wsL_law wsX3_length := goodIn_r _ [170, 20, 124, 171, 46, 47, 2, 48, 117, 118, 119, 172, 173, 174, 175, 114, 120, 121, 122, 123, 14, 125, 126, 127, 19, 128, 129, 130, 131, 132, 133, 134, 135, 136, 137, 138, 139, 140, 141, 142, 143, 144, 145, 146, 147, 148, 149, 150, 45, 151, 62, 152, 153, 154, 155, 61, 176, 52, 53, 54, 55, 16, 454, 455, 456, 457, 458, 459, 474, 475, 476, 477, 478, 479, 480, 481, 482, 483] (by decide +kernel) (by decide +kernel)
set_option maxRecDepth 20000 in
theorem gL_law_X3_length : GoodIn wsL_law (wsV RL 37 RX3 yX3_length wsX3_length) := goodIn_app (goodIn_of _ (by decide +kernel)) ggL_law_X3_length
set_option maxRecDepth 20000 in
theorem ggL_law_X4_length : GoodIn wsL_law wsX4_length := goodIn_r _ [180, 33, 162, 70, 71, 5, 72, 73, 74, 75, 163, 164, 165, 166, 37, 160, 32, 36, 181, 182, 183, 184, 79, 80, 81, 82, 38, 460, 461, 462, 463, 464, 465, 466, 467, 468, 469, 470, 471, 472, 473] (by decide +kernel) (by decide +kernel)
set_option maxRecDepth 20000 in
theorem gL_law_X4_length : GoodIn wsL_law (wsV RL 40 RX4 yX4_length wsX4_length) := goodIn_app (goodIn_of _ (by decide +kernel)) ggL_law_X4_length
set_option maxRecDepth 20000 in
theorem ggL_law_X3_read : GoodIn wsL_law wsX3_read := goodIn_r _ [188, 20, 124, 189, 115, 23, 46, 47, 2, 48, 117, 118, 119, 49, 50, 51, 172, 173, 174, 175, 114, 120, 121, 122, 123, 14, 125, 126, 127, 19, 128, 129, 130, 131, 132, 133, 134, 135, 136, 137, 138, 139, 140, 141, 142, 143, 144, 145, 146, 147, 148, 149, 150, 45, 151, 62, 152, 153, 154, 155, 61, 176, 52, 53, 54, 55, 16, 190, 191, 192, 193, 60, 194, 195, 196, 197, 198, 199, 200, 201, 202, 203, 204, 205, 206, 207, 208, 209, 210, 211, 212, 213, 214, 215, 216, 217, 218, 219, 220, 221, 222, 223, 224, 225, 226, 227, 228, 229, 230, 231, 232, 233, 234, 235, 236, 237, 238, 239, 240, 241, 242, 243, 244, 245, 454, 455, 456, 457, 458, 459, 474, 475, 476, 477, 478, 479, 480, 481, 482, 483] (by decide +kernel) (by decide +kernel)
set_option maxRecDepth 20000 in
theorem gL_law_X3_read : GoodIn wsL_law (wsV RL 41 RX3 yX3_read wsX3_read) := goodIn_app (goodIn_of _ (by decide +kernel)) ggL_law_X3_read
set_option maxRecDepth 20000 in
theorem ggL_law_X4_read : GoodIn wsL_law wsX4_read := goodIn_r _ [249, 31, 162, 35, 161, 70, 71, 5, 72, 73, 74, 75, 76, 77, 78, 250, 251, 252, 253, 32, 33, 254, 255, 256, 257, 163, 164, 165, 166, 37, 160, 36, 181, 182, 183, 184, 258, 259, 260, 261, 262, 263, 79, 80, 81, 82, 38, 264, 265, 266, 267, 268, 269, 270, 271, 272, 273, 274, 275, 276, 277, 278, 279, 280, 281, 282, 283, 284, 285, 286, 287, 288, 289, 290, 291, 292, 293, 294, 295, 460, 461, 462, 463, 464, 465, 466, 467, 468, 469, 470, 471, 472, 473] (by decide +kernel) (by decide +kernel)
set_option maxRecDepth 20000 in
theorem gL_law_X4_read : GoodIn wsL_law (wsV RL 45 RX4 yX4_read wsX4_read) := goodIn_app (goodIn_of _ (by decide +kernel)) ggL_law_X4_read
set_option maxRecDepth 20000 in
theorem ggL_law_X3_write : GoodIn wsL_law wsX3_write := goodIn_r _ [299, 20, 124, 189, 115, 46, 47, 2, 48, 117, 118, 119, 49, 50, 51, 172, 173, 174, 175, 114, 120, 121, 122, 123, 14, 125, 126, 127, 19, 128, 129, 130, 131, 132, 133, 134, 135, 136, 137, 138, 139, 140, 141, 142, 143, 144, 145, 146, 147, 148, 149, 150, 45, 151, 62, 152, 153, 154, 155, 61, 176, 52, 53, 54, 55, 16, 300, 301, 302, 303, 60, 194, 195, 196, 197, 198, 199, 200, 201, 202, 203, 304, 305, 306, 210, 307, 212, 211, 215, 216, 217, 204, 205, 206, 207, 208, 209, 213, 214, 218, 219, 220, 221, 222, 223, 224, 225, 226, 227, 228, 229, 230, 231, 232, 233, 234, 235, 236, 237, 238, 239, 240, 241, 242, 243, 244, 245, 454, 455, 456, 457, 458, 459, 474, 475, 476, 477, 478, 479, 480, 481, 482, 483] (by decide +kernel) (by decide +kernel)
set_option maxRecDepth 20000 in
theorem gL_law_X3_write : GoodIn wsL_law (wsV RL 48 RX3 yX3_write wsX3_write) := goodIn_app (goodIn_of _ (by decide +kernel)) ggL_law_X3_write
set_option maxRecDepth 20000 in
theorem ggL_law_X4_write : GoodIn wsL_law wsX4_write := goodIn_r _ [311, 31, 162, 35, 70, 71, 5, 72, 73, 74, 75, 76, 77, 78, 250, 251, 252, 253, 32, 33, 254, 255, 256, 257, 163, 164, 165, 166, 37, 160, 36, 181, 182, 183, 184, 258, 259, 260, 261, 262, 263, 79, 80, 81, 82, 38, 312, 313, 314, 315, 316, 317, 271, 318, 319, 272, 264, 265, 266, 267, 268, 269, 270, 273, 274, 275, 276, 277, 278, 279, 280, 281, 282, 283, 284, 285, 286, 287, 288, 289, 290, 291, 292, 293, 294, 295, 460, 461, 462, 463, 464, 465, 466, 467, 468, 469, 470, 471, 472, 473] (by decide +kernel) (by decide +kernel)
set_option maxRecDepth 20000 in
theorem gL_law_X4_write : GoodIn wsL_law (wsV RL 52 RX4 yX4_write wsX4_write) := goodIn_app (goodIn_of _ (by decide +kernel)) ggL_law_X4_write
set_option maxRecDepth 20000 in
theorem ggL_law_X3_hang : GoodIn wsL_law wsX3_hang := goodIn_r _ [323, 20, 124, 14, 324, 46, 47, 2, 48, 117, 118, 119, 172, 173, 174, 175, 114, 120, 121, 122, 123, 125, 126, 127, 19, 128, 129, 130, 131, 132, 133, 134, 135, 136, 137, 138, 139, 140, 141, 142, 143, 144, 145, 146, 147, 148, 149, 150, 45, 151, 62, 152, 153, 154, 155, 61, 176, 52, 53, 54, 55, 16, 325, 326, 327, 328, 60, 198, 199, 454, 455, 456, 457, 458, 459, 474, 475, 476, 477, 478, 479, 480, 481, 482, 483] (by decide +kernel) (by decide +kernel)
set_option maxRecDepth 20000 in
theorem gL_law_X3_hang : GoodIn wsL_law (wsV RL 53 RX3 yX3_hang wsX3_hang) := goodIn_app (goodIn_of _ (by decide +kernel)) ggL_law_X3_hang
set_option maxRecDepth 20000 in
theorem ggL_law_X4_hang : GoodIn wsL_law wsX4_hang := goodIn_r _ [332, 37, 32, 162, 33, 36, 70, 71, 5, 72, 73, 74, 75, 254, 255, 256, 257, 163, 164, 165, 166, 160, 181, 182, 183, 184, 79, 80, 81, 82, 38, 258, 259, 260, 333, 334, 335, 336, 31, 460, 461, 462, 463, 464, 465, 466, 467, 468, 469, 470, 471, 472, 473] (by decide +kernel) (by decide +kernel)
set_option maxRecDepth 20000 in
theorem gL_law_X4_hang : GoodIn wsL_law (wsV RL 56 RX4 yX4_hang wsX4_hang) := goodIn_app (goodIn_of _ (by decide +kernel)) ggL_law_X4_hang
set_option maxRecDepth 20000 in
theorem ggL_law_X3_lift : GoodIn wsL_law wsX3_lift := goodIn_r _ [340, 20, 111, 14, 114, 46, 47, 2, 48, 117, 118, 119, 120, 121, 122, 123, 124, 125, 126, 127, 19, 128, 129, 130, 131, 132, 133, 134, 135, 136, 137, 138, 139, 140, 141, 142, 143, 144, 145, 146, 147, 148, 149, 150, 45, 151, 62, 152, 153, 154, 155, 61, 52, 53, 54, 55, 16, 454, 455, 456, 457, 458, 459, 474, 475, 476, 477, 478, 479, 480, 481, 482, 483] (by decide +kernel) (by decide +kernel)
set_option maxRecDepth 20000 in
theorem gL_law_X3_lift : GoodIn wsL_law (wsV RL 57 RX3 yX3_lift wsX3_lift) := goodIn_app (goodIn_of _ (by decide +kernel)) ggL_law_X3_lift
set_option maxRecDepth 20000 in
theorem ggL_law_X4_lift : GoodIn wsL_law wsX4_lift := goodIn_r _ [344, 160, 37, 162, 70, 71, 5, 72, 73, 74, 75, 163, 164, 165, 166, 33, 32, 36, 79, 80, 81, 82, 38, 460, 461, 462, 463, 464, 465, 466, 467, 468, 469, 470, 471, 472, 473] (by decide +kernel) (by decide +kernel)
set_option maxRecDepth 20000 in
theorem gL_law_X4_lift : GoodIn wsL_law (wsV RL 60 RX4 yX4_lift wsX4_lift) := goodIn_app (goodIn_of _ (by decide +kernel)) ggL_law_X4_lift
set_option maxRecDepth 20000 in
theorem ggL_law_X3_turn : GoodIn wsL_law wsX3_turn := goodIn_r _ [348, 20, 124, 46, 47, 2, 48, 117, 118, 119, 172, 173, 174, 175, 114, 120, 121, 122, 123, 14, 125, 126, 127, 19, 128, 129, 130, 131, 132, 133, 134, 135, 136, 137, 138, 139, 140, 141, 142, 143, 144, 145, 146, 147, 148, 149, 150, 45, 151, 62, 152, 153, 154, 155, 61, 176, 52, 53, 54, 55, 16, 349, 350, 351, 352, 353, 63, 65, 198, 454, 455, 456, 457, 458, 459, 474, 475, 476, 477, 478, 479, 480, 481, 482, 483] (by decide +kernel) (by decide +kernel)
set_option maxRecDepth 20000 in
theorem gL_law_X3_turn : GoodIn wsL_law (wsV RL 61 RX3 yX3_turn wsX3_turn) := goodIn_app (goodIn_of _ (by decide +kernel)) ggL_law_X3_turn
set_option maxRecDepth 20000 in
theorem ggL_law_X4_turn : GoodIn wsL_law wsX4_turn := goodIn_r _ [357, 33, 162, 35, 36, 70, 71, 5, 72, 73, 74, 75, 254, 255, 256, 257, 163, 164, 165, 166, 37, 160, 32, 181, 182, 183, 184, 79, 80, 81, 82, 38, 460, 461, 462, 463, 464, 465, 466, 467, 468, 469, 470, 471, 472, 473] (by decide +kernel) (by decide +kernel)
set_option maxRecDepth 20000 in
theorem gL_law_X4_turn : GoodIn wsL_law (wsV RL 64 RX4 yX4_turn wsX4_turn) := goodIn_app (goodIn_of _ (by decide +kernel)) ggL_law_X4_turn
set_option maxRecDepth 20000 in
theorem ggL_law_X3_fill : GoodIn wsL_law wsX3_fill := goodIn_r _ [361, 20, 124, 171, 115, 189, 46, 47, 2, 48, 117, 118, 119, 49, 50, 51, 172, 173, 174, 175, 114, 120, 121, 122, 123, 14, 125, 126, 127, 19, 128, 129, 130, 131, 132, 133, 134, 135, 136, 137, 138, 139, 140, 141, 142, 143, 144, 145, 146, 147, 148, 149, 150, 45, 151, 62, 152, 153, 154, 155, 61, 176, 52, 53, 54, 55, 16, 300, 301, 302, 303, 60, 194, 195, 196, 197, 198, 199, 200, 201, 202, 203, 304, 305, 306, 210, 307, 212, 211, 215, 216, 217, 204, 205, 206, 207, 208, 209, 213, 214, 218, 219, 220, 221, 222, 223, 224, 225, 226, 227, 228, 229, 230, 231, 232, 233, 234, 235, 236, 237, 238, 239, 240, 241, 242, 243, 244, 245, 454, 455, 456, 457, 458, 459, 474, 475, 476, 477, 478, 479, 480, 481, 482, 483] (by decide +kernel) (by decide +kernel)
set_option maxRecDepth 20000 in
theorem gL_law_X3_fill : GoodIn wsL_law (wsV RL 65 RX3 yX3_fill wsX3_fill) := goodIn_app (goodIn_of _ (by decide +kernel)) ggL_law_X3_fill
set_option maxRecDepth 20000 in
theorem ggL_law_X4_fill : GoodIn wsL_law wsX4_fill := goodIn_r _ [365, 33, 162, 32, 31, 35, 70, 71, 5, 72, 73, 74, 75, 76, 77, 78, 254, 255, 256, 257, 163, 164, 165, 166, 37, 160, 36, 181, 182, 183, 184, 261, 262, 263, 79, 80, 81, 82, 38, 312, 313, 314, 315, 316, 317, 271, 318, 319, 272, 264, 265, 266, 267, 268, 269, 270, 273, 274, 275, 276, 277, 278, 279, 280, 281, 282, 283, 284, 285, 286, 287, 288, 289, 290, 291, 292, 293, 294, 295, 460, 461, 462, 463, 464, 465, 466, 467, 468, 469, 470, 471, 472, 473] (by decide +kernel) (by decide +kernel)
set_option maxRecDepth 20000 in
theorem gL_law_X4_fill : GoodIn wsL_law (wsV RL 69 RX4 yX4_fill wsX4_fill) := goodIn_app (goodIn_of _ (by decide +kernel)) ggL_law_X4_fill
set_option maxRecDepth 20000 in
theorem ggL_law_X3_pour : GoodIn wsL_law wsX3_pour := goodIn_r _ [369, 22, 14, 171, 46, 47, 2, 48, 52, 53, 54, 55, 16, 370, 371, 372, 45, 373, 65, 60, 198, 153, 154, 155, 61, 374, 326, 327, 328, 199, 149, 150, 151, 62, 200, 201, 202, 203, 375, 376, 377, 378, 63, 379, 205, 206, 207, 208, 209, 210, 211, 212, 213, 214, 215, 216, 217, 218, 219, 220, 221, 222, 223, 224, 225, 226, 227, 228, 229, 230, 231, 232, 233, 234, 235, 236, 237, 238, 239, 240, 241, 242, 243, 244, 245, 454, 455, 456, 457, 458, 459, 479, 480, 481, 482, 483] (by decide +kernel) (by decide +kernel)
set_option maxRecDepth 20000 in
theorem gL_law_X3_pour : GoodIn wsL_law (wsV RL 70 RX3 yX3_pour wsX3_pour) := goodIn_app (goodIn_of _ (by decide +kernel)) ggL_law_X3_pour
set_option maxRecDepth 20000 in
theorem ggL_law_X4_pour : GoodIn wsL_law wsX4_pour := goodIn_r _ [383, 384, 37, 33, 70, 71, 5, 72, 73, 74, 75, 79, 80, 81, 82, 38, 385, 386, 387, 388, 32, 36, 31, 35, 261, 262, 263, 264, 265, 266, 267, 268, 269, 270, 271, 272, 273, 274, 275, 276, 277, 278, 279, 280, 281, 282, 283, 284, 285, 286, 287, 288, 289, 290, 291, 292, 293, 294, 295, 333, 334, 335, 336, 460, 461, 462, 463, 464, 465, 466, 467, 468, 469, 470, 471, 472, 473] (by decide +kernel) (by decide +kernel)
set_option maxRecDepth 20000 in
theorem gL_law_X4_pour : GoodIn wsL_law (wsV RL 73 RX4 yX4_pour wsX4_pour) := goodIn_app (goodIn_of _ (by decide +kernel)) ggL_law_X4_pour
set_option maxRecDepth 20000 in
theorem ggL_law_X3_moved : GoodIn wsL_law wsX3_moved := goodIn_r _ [392, 22, 454, 455, 456, 457, 458, 459] (by decide +kernel) (by decide +kernel)
set_option maxRecDepth 20000 in
theorem gL_law_X3_moved : GoodIn wsL_law (wsV RL 74 RX3 yX3_moved wsX3_moved) := goodIn_app (goodIn_of _ (by decide +kernel)) ggL_law_X3_moved
set_option maxRecDepth 20000 in
theorem ggL_law_X4_moved : GoodIn wsL_law wsX4_moved := goodIn_r _ [396, 384, 460, 461, 462, 463, 464, 465, 466, 467, 468, 469, 470, 471, 472, 473] (by decide +kernel) (by decide +kernel)
set_option maxRecDepth 20000 in
theorem gL_law_X4_moved : GoodIn wsL_law (wsV RL 78 RX4 yX4_moved wsX4_moved) := goodIn_app (goodIn_of _ (by decide +kernel)) ggL_law_X4_moved
set_option maxRecDepth 20000 in
theorem ggL_law_X3_total : GoodIn wsL_law wsX3_total := goodIn_r _ [400, 20, 124, 115, 23, 46, 47, 2, 48, 117, 118, 119, 172, 173, 174, 175, 114, 120, 121, 122, 123, 14, 125, 126, 127, 19, 128, 129, 130, 131, 132, 133, 134, 135, 136, 137, 138, 139, 140, 141, 142, 143, 144, 145, 146, 147, 148, 149, 150, 45, 151, 62, 152, 153, 154, 155, 61, 176, 52, 53, 54, 55, 16, 401, 201, 202, 203, 402, 403, 404, 189, 324, 405, 406, 407, 454, 455, 456, 457, 458, 459, 474, 475, 476, 477, 478, 479, 480, 481, 482, 483] (by decide +kernel) (by decide +kernel)
set_option maxRecDepth 20000 in
theorem gL_law_X3_total : GoodIn wsL_law (wsV RL 79 RX3 yX3_total wsX3_total) := goodIn_app (goodIn_of _ (by decide +kernel)) ggL_law_X3_total
set_option maxRecDepth 20000 in
theorem ggL_law_X4_total : GoodIn wsL_law wsX4_total := goodIn_r _ [411, 162, 31, 412, 413, 161, 70, 71, 5, 72, 73, 74, 75, 254, 255, 256, 257, 163, 164, 165, 166, 37, 160, 33, 32, 36, 181, 182, 183, 184, 414, 415, 416, 417, 418, 419, 420, 421, 35, 422, 423, 424, 425, 261, 262, 263, 79, 80, 81, 82, 38, 460, 461, 462, 463, 464, 465, 466, 467, 468, 469, 470, 471, 472, 473] (by decide +kernel) (by decide +kernel)
set_option maxRecDepth 20000 in
theorem gL_law_X4_total : GoodIn wsL_law (wsV RL 82 RX4 yX4_total wsX4_total) := goodIn_app (goodIn_of _ (by decide +kernel)) ggL_law_X4_total
set_option maxRecDepth 20000 in
theorem ggL_law_X3_count : GoodIn wsL_law wsX3_count := goodIn_r _ [429, 20, 124, 46, 47, 2, 48, 117, 118, 119, 172, 173, 174, 175, 114, 120, 121, 122, 123, 14, 125, 126, 127, 19, 128, 129, 130, 131, 132, 133, 134, 135, 136, 137, 138, 139, 140, 141, 142, 143, 144, 145, 146, 147, 148, 149, 150, 45, 151, 62, 152, 153, 154, 155, 61, 176, 52, 53, 54, 55, 16, 402, 403, 404, 189, 324, 454, 455, 456, 457, 458, 459, 474, 475, 476, 477, 478, 479, 480, 481, 482, 483] (by decide +kernel) (by decide +kernel)
set_option maxRecDepth 20000 in
theorem gL_law_X3_count : GoodIn wsL_law (wsV RL 83 RX3 yX3_count wsX3_count) := goodIn_app (goodIn_of _ (by decide +kernel)) ggL_law_X3_count
set_option maxRecDepth 20000 in
theorem ggL_law_X4_count : GoodIn wsL_law wsX4_count := goodIn_r _ [433, 162, 412, 70, 71, 5, 72, 73, 74, 75, 254, 255, 256, 257, 163, 164, 165, 166, 37, 160, 33, 32, 36, 181, 182, 183, 184, 79, 80, 81, 82, 38, 414, 415, 416, 417, 413, 418, 419, 420, 421, 35, 422, 423, 424, 425, 460, 461, 462, 463, 464, 465, 466, 467, 468, 469, 470, 471, 472, 473] (by decide +kernel) (by decide +kernel)
set_option maxRecDepth 20000 in
theorem gL_law_X4_count : GoodIn wsL_law (wsV RL 86 RX4 yX4_count wsX4_count) := goodIn_app (goodIn_of _ (by decide +kernel)) ggL_law_X4_count
set_option maxRecDepth 20000 in
theorem ggL_law_X3_seen : GoodIn wsL_law wsX3_seen := goodIn_r _ [437, 23, 454, 455, 456, 457, 458, 459] (by decide +kernel) (by decide +kernel)
set_option maxRecDepth 20000 in
theorem gL_law_X3_seen : GoodIn wsL_law (wsV RL 87 RX3 yX3_seen wsX3_seen) := goodIn_app (goodIn_of _ (by decide +kernel)) ggL_law_X3_seen
set_option maxRecDepth 20000 in
theorem ggL_law_X4_seen : GoodIn wsL_law wsX4_seen := goodIn_r _ [441, 161, 460, 461, 462, 463, 464, 465, 466, 467, 468, 469, 470, 471, 472, 473] (by decide +kernel) (by decide +kernel)
set_option maxRecDepth 20000 in
theorem gL_law_X4_seen : GoodIn wsL_law (wsV RL 91 RX4 yX4_seen wsX4_seen) := goodIn_app (goodIn_of _ (by decide +kernel)) ggL_law_X4_seen
set_option maxRecDepth 20000 in
theorem ggL_law_X3_about : GoodIn wsL_law wsX3_about := goodIn_r _ [445, 21, 16, 446, 447, 448, 2, 449, 14, 454, 455, 456, 457, 458, 459] (by decide +kernel) (by decide +kernel)
set_option maxRecDepth 20000 in
theorem gL_law_X3_about : GoodIn wsL_law (wsV RL 92 RX3 yX3_about wsX3_about) := goodIn_app (goodIn_of _ (by decide +kernel)) ggL_law_X3_about
set_option maxRecDepth 20000 in
theorem ggL_law_X4_about : GoodIn wsL_law wsX4_about := goodIn_r _ [453, 37, 39, 38, 73, 74, 5, 75, 460, 461, 462, 463, 464, 465, 466, 467, 468, 469, 470, 471, 472, 473] (by decide +kernel) (by decide +kernel)
set_option maxRecDepth 20000 in
theorem gL_law_X4_about : GoodIn wsL_law (wsV RL 95 RX4 yX4_about wsX4_about) := goodIn_app (goodIn_of _ (by decide +kernel)) ggL_law_X4_about
theorem dL_law_0 : decode cL_law 0 = .ok (.new 7, 3) := by decide +kernel
theorem dL_law_3 : decode cL_law 3 = .ok (.dup, 1) := by decide +kernel
theorem dL_law_4 : decode cL_law 4 = .ok (.invokespecial 9, 3) := by decide +kernel
theorem dL_law_7 : decode cL_law 7 = .ok (.astore_n 1, 1) := by decide +kernel
theorem dL_law_8 : decode cL_law 8 = .ok (.new 10, 3) := by decide +kernel
theorem dL_law_11 : decode cL_law 11 = .ok (.dup, 1) := by decide +kernel
theorem dL_law_12 : decode cL_law 12 = .ok (.invokespecial 12, 3) := by decide +kernel
theorem dL_law_15 : decode cL_law 15 = .ok (.astore_n 2, 1) := by decide +kernel
theorem dL_law_16 : decode cL_law 16 = .ok (.iconst 0, 1) := by decide +kernel
theorem dL_law_17 : decode cL_law 17 = .ok (.istore_n 3, 1) := by decide +kernel
theorem dL_law_18 : decode cL_law 18 = .ok (.iload_n 3, 1) := by decide +kernel
theorem dL_law_19 : decode cL_law 19 = .ok (.aload_n 0, 1) := by decide +kernel
theorem dL_law_20 : decode cL_law 20 = .ok (.arraylength, 1) := by decide +kernel
theorem dL_law_21 : decode cL_law 21 = .ok (.bipush 9, 2) := by decide +kernel
theorem dL_law_23 : decode cL_law 23 = .ok (.isub, 1) := by decide +kernel
theorem dL_law_24 : decode cL_law 24 = .ok (.if_icmp .gt 1085, 3) := by decide +kernel
theorem dL_law_27 : decode cL_law 27 = .ok (.aload_n 0, 1) := by decide +kernel
theorem dL_law_28 : decode cL_law 28 = .ok (.iload_n 3, 1) := by decide +kernel
theorem dL_law_29 : decode cL_law 29 = .ok (.iaload, 1) := by decide +kernel
theorem dL_law_30 : decode cL_law 30 = .ok (.bipush 31, 2) := by decide +kernel
theorem dL_law_32 : decode cL_law 32 = .ok (.iand, 1) := by decide +kernel
theorem dL_law_33 : decode cL_law 33 = .ok (.tableswitch 1070 0 17 #[87, 140, 173, 196, 229, 292, 355, 430, 549, 624, 699, 774, 881, 914, 927, 980, 1033, 1047], 87) := by decide +kernel
theorem dL_law_120 : decode cL_law 120 = .ok (.aload_n 1, 1) := by decide +kernel
theorem dL_law_121 : decode cL_law 121 = .ok (.aload_n 0, 1) := by decide +kernel
theorem dL_law_122 : decode cL_law 122 = .ok (.iload_n 3, 1) := by decide +kernel
theorem dL_law_123 : decode cL_law 123 = .ok (.iconst 1, 1) := by decide +kernel
theorem dL_law_124 : decode cL_law 124 = .ok (.iadd, 1) := by decide +kernel
theorem dL_law_125 : decode cL_law 125 = .ok (.iaload, 1) := by decide +kernel
theorem dL_law_126 : decode cL_law 126 = .ok (.aload_n 0, 1) := by decide +kernel
theorem dL_law_127 : decode cL_law 127 = .ok (.iload_n 3, 1) := by decide +kernel
theorem dL_law_128 : decode cL_law 128 = .ok (.iconst 2, 1) := by decide +kernel
theorem dL_law_129 : decode cL_law 129 = .ok (.iadd, 1) := by decide +kernel
theorem dL_law_130 : decode cL_law 130 = .ok (.iaload, 1) := by decide +kernel
theorem dL_law_131 : decode cL_law 131 = .ok (.aload_n 0, 1) := by decide +kernel
theorem dL_law_132 : decode cL_law 132 = .ok (.iload_n 3, 1) := by decide +kernel
theorem dL_law_133 : decode cL_law 133 = .ok (.iconst 3, 1) := by decide +kernel
theorem dL_law_134 : decode cL_law 134 = .ok (.iadd, 1) := by decide +kernel
theorem dL_law_135 : decode cL_law 135 = .ok (.iaload, 1) := by decide +kernel
theorem dL_law_136 : decode cL_law 136 = .ok (.aload_n 0, 1) := by decide +kernel
theorem dL_law_137 : decode cL_law 137 = .ok (.iload_n 3, 1) := by decide +kernel
theorem dL_law_138 : decode cL_law 138 = .ok (.iconst 4, 1) := by decide +kernel
theorem dL_law_139 : decode cL_law 139 = .ok (.iadd, 1) := by decide +kernel
theorem dL_law_140 : decode cL_law 140 = .ok (.iaload, 1) := by decide +kernel
theorem dL_law_141 : decode cL_law 141 = .ok (.invokevirtual 13, 3) := by decide +kernel
theorem dL_law_144 : decode cL_law 144 = .ok (.aload_n 2, 1) := by decide +kernel
theorem dL_law_145 : decode cL_law 145 = .ok (.aload_n 0, 1) := by decide +kernel
theorem dL_law_146 : decode cL_law 146 = .ok (.iload_n 3, 1) := by decide +kernel
theorem dL_law_147 : decode cL_law 147 = .ok (.iconst 1, 1) := by decide +kernel
theorem dL_law_148 : decode cL_law 148 = .ok (.iadd, 1) := by decide +kernel
theorem dL_law_149 : decode cL_law 149 = .ok (.iaload, 1) := by decide +kernel
theorem dL_law_150 : decode cL_law 150 = .ok (.aload_n 0, 1) := by decide +kernel
theorem dL_law_151 : decode cL_law 151 = .ok (.iload_n 3, 1) := by decide +kernel
theorem dL_law_152 : decode cL_law 152 = .ok (.iconst 2, 1) := by decide +kernel
theorem dL_law_153 : decode cL_law 153 = .ok (.iadd, 1) := by decide +kernel
theorem dL_law_154 : decode cL_law 154 = .ok (.iaload, 1) := by decide +kernel
theorem dL_law_155 : decode cL_law 155 = .ok (.aload_n 0, 1) := by decide +kernel
theorem dL_law_156 : decode cL_law 156 = .ok (.iload_n 3, 1) := by decide +kernel
theorem dL_law_157 : decode cL_law 157 = .ok (.iconst 3, 1) := by decide +kernel
theorem dL_law_158 : decode cL_law 158 = .ok (.iadd, 1) := by decide +kernel
theorem dL_law_159 : decode cL_law 159 = .ok (.iaload, 1) := by decide +kernel
theorem dL_law_160 : decode cL_law 160 = .ok (.aload_n 0, 1) := by decide +kernel
theorem dL_law_161 : decode cL_law 161 = .ok (.iload_n 3, 1) := by decide +kernel
theorem dL_law_162 : decode cL_law 162 = .ok (.iconst 4, 1) := by decide +kernel
theorem dL_law_163 : decode cL_law 163 = .ok (.iadd, 1) := by decide +kernel
theorem dL_law_164 : decode cL_law 164 = .ok (.iaload, 1) := by decide +kernel
theorem dL_law_165 : decode cL_law 165 = .ok (.invokevirtual 17, 3) := by decide +kernel
theorem dL_law_168 : decode cL_law 168 = .ok (.if_icmp .eq 935, 3) := by decide +kernel
theorem dL_law_171 : decode cL_law 171 = .ok (.iconst 0, 1) := by decide +kernel
theorem dL_law_172 : decode cL_law 172 = .ok (.ireturn, 1) := by decide +kernel
theorem dL_law_173 : decode cL_law 173 = .ok (.aload_n 1, 1) := by decide +kernel
theorem dL_law_174 : decode cL_law 174 = .ok (.aload_n 0, 1) := by decide +kernel
theorem dL_law_175 : decode cL_law 175 = .ok (.iload_n 3, 1) := by decide +kernel
theorem dL_law_176 : decode cL_law 176 = .ok (.iconst 1, 1) := by decide +kernel
theorem dL_law_177 : decode cL_law 177 = .ok (.iadd, 1) := by decide +kernel
theorem dL_law_178 : decode cL_law 178 = .ok (.iaload, 1) := by decide +kernel
theorem dL_law_179 : decode cL_law 179 = .ok (.aload_n 0, 1) := by decide +kernel
theorem dL_law_180 : decode cL_law 180 = .ok (.iload_n 3, 1) := by decide +kernel
theorem dL_law_181 : decode cL_law 181 = .ok (.iconst 2, 1) := by decide +kernel
theorem dL_law_182 : decode cL_law 182 = .ok (.iadd, 1) := by decide +kernel
theorem dL_law_183 : decode cL_law 183 = .ok (.iaload, 1) := by decide +kernel
theorem dL_law_184 : decode cL_law 184 = .ok (.invokevirtual 18, 3) := by decide +kernel
theorem dL_law_187 : decode cL_law 187 = .ok (.aload_n 2, 1) := by decide +kernel
theorem dL_law_188 : decode cL_law 188 = .ok (.aload_n 0, 1) := by decide +kernel
theorem dL_law_189 : decode cL_law 189 = .ok (.iload_n 3, 1) := by decide +kernel
theorem dL_law_190 : decode cL_law 190 = .ok (.iconst 1, 1) := by decide +kernel
theorem dL_law_191 : decode cL_law 191 = .ok (.iadd, 1) := by decide +kernel
theorem dL_law_192 : decode cL_law 192 = .ok (.iaload, 1) := by decide +kernel
theorem dL_law_193 : decode cL_law 193 = .ok (.aload_n 0, 1) := by decide +kernel
theorem dL_law_194 : decode cL_law 194 = .ok (.iload_n 3, 1) := by decide +kernel
theorem dL_law_195 : decode cL_law 195 = .ok (.iconst 2, 1) := by decide +kernel
theorem dL_law_196 : decode cL_law 196 = .ok (.iadd, 1) := by decide +kernel
theorem dL_law_197 : decode cL_law 197 = .ok (.iaload, 1) := by decide +kernel
theorem dL_law_198 : decode cL_law 198 = .ok (.invokevirtual 22, 3) := by decide +kernel
theorem dL_law_201 : decode cL_law 201 = .ok (.if_icmp .eq 902, 3) := by decide +kernel
theorem dL_law_204 : decode cL_law 204 = .ok (.iconst 0, 1) := by decide +kernel
theorem dL_law_205 : decode cL_law 205 = .ok (.ireturn, 1) := by decide +kernel
theorem dL_law_206 : decode cL_law 206 = .ok (.aload_n 1, 1) := by decide +kernel
theorem dL_law_207 : decode cL_law 207 = .ok (.aload_n 0, 1) := by decide +kernel
theorem dL_law_208 : decode cL_law 208 = .ok (.iload_n 3, 1) := by decide +kernel
theorem dL_law_209 : decode cL_law 209 = .ok (.iconst 1, 1) := by decide +kernel
theorem dL_law_210 : decode cL_law 210 = .ok (.iadd, 1) := by decide +kernel
theorem dL_law_211 : decode cL_law 211 = .ok (.iaload, 1) := by decide +kernel
theorem dL_law_212 : decode cL_law 212 = .ok (.invokevirtual 23, 3) := by decide +kernel
theorem dL_law_215 : decode cL_law 215 = .ok (.aload_n 2, 1) := by decide +kernel
theorem dL_law_216 : decode cL_law 216 = .ok (.aload_n 0, 1) := by decide +kernel
theorem dL_law_217 : decode cL_law 217 = .ok (.iload_n 3, 1) := by decide +kernel
theorem dL_law_218 : decode cL_law 218 = .ok (.iconst 1, 1) := by decide +kernel
theorem dL_law_219 : decode cL_law 219 = .ok (.iadd, 1) := by decide +kernel
theorem dL_law_220 : decode cL_law 220 = .ok (.iaload, 1) := by decide +kernel
theorem dL_law_221 : decode cL_law 221 = .ok (.invokevirtual 27, 3) := by decide +kernel
theorem dL_law_224 : decode cL_law 224 = .ok (.if_icmp .eq 879, 3) := by decide +kernel
theorem dL_law_227 : decode cL_law 227 = .ok (.iconst 0, 1) := by decide +kernel
theorem dL_law_228 : decode cL_law 228 = .ok (.ireturn, 1) := by decide +kernel
theorem dL_law_229 : decode cL_law 229 = .ok (.aload_n 1, 1) := by decide +kernel
theorem dL_law_230 : decode cL_law 230 = .ok (.aload_n 0, 1) := by decide +kernel
theorem dL_law_231 : decode cL_law 231 = .ok (.iload_n 3, 1) := by decide +kernel
theorem dL_law_232 : decode cL_law 232 = .ok (.iconst 1, 1) := by decide +kernel
theorem dL_law_233 : decode cL_law 233 = .ok (.iadd, 1) := by decide +kernel
theorem dL_law_234 : decode cL_law 234 = .ok (.iaload, 1) := by decide +kernel
theorem dL_law_235 : decode cL_law 235 = .ok (.aload_n 0, 1) := by decide +kernel
theorem dL_law_236 : decode cL_law 236 = .ok (.iload_n 3, 1) := by decide +kernel
theorem dL_law_237 : decode cL_law 237 = .ok (.iconst 2, 1) := by decide +kernel
theorem dL_law_238 : decode cL_law 238 = .ok (.iadd, 1) := by decide +kernel
theorem dL_law_239 : decode cL_law 239 = .ok (.iaload, 1) := by decide +kernel
theorem dL_law_240 : decode cL_law 240 = .ok (.invokevirtual 28, 3) := by decide +kernel
theorem dL_law_243 : decode cL_law 243 = .ok (.aload_n 2, 1) := by decide +kernel
theorem dL_law_244 : decode cL_law 244 = .ok (.aload_n 0, 1) := by decide +kernel
theorem dL_law_245 : decode cL_law 245 = .ok (.iload_n 3, 1) := by decide +kernel
theorem dL_law_246 : decode cL_law 246 = .ok (.iconst 1, 1) := by decide +kernel
theorem dL_law_247 : decode cL_law 247 = .ok (.iadd, 1) := by decide +kernel
theorem dL_law_248 : decode cL_law 248 = .ok (.iaload, 1) := by decide +kernel
theorem dL_law_249 : decode cL_law 249 = .ok (.aload_n 0, 1) := by decide +kernel
theorem dL_law_250 : decode cL_law 250 = .ok (.iload_n 3, 1) := by decide +kernel
theorem dL_law_251 : decode cL_law 251 = .ok (.iconst 2, 1) := by decide +kernel
theorem dL_law_252 : decode cL_law 252 = .ok (.iadd, 1) := by decide +kernel
theorem dL_law_253 : decode cL_law 253 = .ok (.iaload, 1) := by decide +kernel
theorem dL_law_254 : decode cL_law 254 = .ok (.invokevirtual 31, 3) := by decide +kernel
theorem dL_law_257 : decode cL_law 257 = .ok (.if_icmp .eq 846, 3) := by decide +kernel
theorem dL_law_260 : decode cL_law 260 = .ok (.iconst 0, 1) := by decide +kernel
theorem dL_law_261 : decode cL_law 261 = .ok (.ireturn, 1) := by decide +kernel
theorem dL_law_262 : decode cL_law 262 = .ok (.aload_n 1, 1) := by decide +kernel
theorem dL_law_263 : decode cL_law 263 = .ok (.aload_n 0, 1) := by decide +kernel
theorem dL_law_264 : decode cL_law 264 = .ok (.iload_n 3, 1) := by decide +kernel
theorem dL_law_265 : decode cL_law 265 = .ok (.iconst 1, 1) := by decide +kernel
theorem dL_law_266 : decode cL_law 266 = .ok (.iadd, 1) := by decide +kernel
theorem dL_law_267 : decode cL_law 267 = .ok (.iaload, 1) := by decide +kernel
theorem dL_law_268 : decode cL_law 268 = .ok (.aload_n 0, 1) := by decide +kernel
theorem dL_law_269 : decode cL_law 269 = .ok (.iload_n 3, 1) := by decide +kernel
theorem dL_law_270 : decode cL_law 270 = .ok (.iconst 2, 1) := by decide +kernel
theorem dL_law_271 : decode cL_law 271 = .ok (.iadd, 1) := by decide +kernel
theorem dL_law_272 : decode cL_law 272 = .ok (.iaload, 1) := by decide +kernel
theorem dL_law_273 : decode cL_law 273 = .ok (.aload_n 0, 1) := by decide +kernel
theorem dL_law_274 : decode cL_law 274 = .ok (.iload_n 3, 1) := by decide +kernel
theorem dL_law_275 : decode cL_law 275 = .ok (.iconst 3, 1) := by decide +kernel
theorem dL_law_276 : decode cL_law 276 = .ok (.iadd, 1) := by decide +kernel
theorem dL_law_277 : decode cL_law 277 = .ok (.iaload, 1) := by decide +kernel
theorem dL_law_278 : decode cL_law 278 = .ok (.aload_n 0, 1) := by decide +kernel
theorem dL_law_279 : decode cL_law 279 = .ok (.iload_n 3, 1) := by decide +kernel
theorem dL_law_280 : decode cL_law 280 = .ok (.iconst 4, 1) := by decide +kernel
theorem dL_law_281 : decode cL_law 281 = .ok (.iadd, 1) := by decide +kernel
theorem dL_law_282 : decode cL_law 282 = .ok (.iaload, 1) := by decide +kernel
theorem dL_law_283 : decode cL_law 283 = .ok (.aload_n 0, 1) := by decide +kernel
theorem dL_law_284 : decode cL_law 284 = .ok (.iload_n 3, 1) := by decide +kernel
theorem dL_law_285 : decode cL_law 285 = .ok (.iconst 5, 1) := by decide +kernel
theorem dL_law_286 : decode cL_law 286 = .ok (.iadd, 1) := by decide +kernel
theorem dL_law_287 : decode cL_law 287 = .ok (.iaload, 1) := by decide +kernel
theorem dL_law_288 : decode cL_law 288 = .ok (.invokevirtual 32, 3) := by decide +kernel
theorem dL_law_291 : decode cL_law 291 = .ok (.aload_n 2, 1) := by decide +kernel
theorem dL_law_292 : decode cL_law 292 = .ok (.aload_n 0, 1) := by decide +kernel
theorem dL_law_293 : decode cL_law 293 = .ok (.iload_n 3, 1) := by decide +kernel
theorem dL_law_294 : decode cL_law 294 = .ok (.iconst 1, 1) := by decide +kernel
theorem dL_law_295 : decode cL_law 295 = .ok (.iadd, 1) := by decide +kernel
theorem dL_law_296 : decode cL_law 296 = .ok (.iaload, 1) := by decide +kernel
theorem dL_law_297 : decode cL_law 297 = .ok (.aload_n 0, 1) := by decide +kernel
theorem dL_law_298 : decode cL_law 298 = .ok (.iload_n 3, 1) := by decide +kernel
theorem dL_law_299 : decode cL_law 299 = .ok (.iconst 2, 1) := by decide +kernel
theorem dL_law_300 : decode cL_law 300 = .ok (.iadd, 1) := by decide +kernel
theorem dL_law_301 : decode cL_law 301 = .ok (.iaload, 1) := by decide +kernel
theorem dL_law_302 : decode cL_law 302 = .ok (.aload_n 0, 1) := by decide +kernel
theorem dL_law_303 : decode cL_law 303 = .ok (.iload_n 3, 1) := by decide +kernel
theorem dL_law_304 : decode cL_law 304 = .ok (.iconst 3, 1) := by decide +kernel
theorem dL_law_305 : decode cL_law 305 = .ok (.iadd, 1) := by decide +kernel
theorem dL_law_306 : decode cL_law 306 = .ok (.iaload, 1) := by decide +kernel
theorem dL_law_307 : decode cL_law 307 = .ok (.aload_n 0, 1) := by decide +kernel
theorem dL_law_308 : decode cL_law 308 = .ok (.iload_n 3, 1) := by decide +kernel
theorem dL_law_309 : decode cL_law 309 = .ok (.iconst 4, 1) := by decide +kernel
theorem dL_law_310 : decode cL_law 310 = .ok (.iadd, 1) := by decide +kernel
theorem dL_law_311 : decode cL_law 311 = .ok (.iaload, 1) := by decide +kernel
theorem dL_law_312 : decode cL_law 312 = .ok (.aload_n 0, 1) := by decide +kernel
theorem dL_law_313 : decode cL_law 313 = .ok (.iload_n 3, 1) := by decide +kernel
theorem dL_law_314 : decode cL_law 314 = .ok (.iconst 5, 1) := by decide +kernel
theorem dL_law_315 : decode cL_law 315 = .ok (.iadd, 1) := by decide +kernel
theorem dL_law_316 : decode cL_law 316 = .ok (.iaload, 1) := by decide +kernel
theorem dL_law_317 : decode cL_law 317 = .ok (.invokevirtual 36, 3) := by decide +kernel
theorem dL_law_320 : decode cL_law 320 = .ok (.if_icmp .eq 783, 3) := by decide +kernel
theorem dL_law_323 : decode cL_law 323 = .ok (.iconst 0, 1) := by decide +kernel
theorem dL_law_324 : decode cL_law 324 = .ok (.ireturn, 1) := by decide +kernel
theorem dL_law_325 : decode cL_law 325 = .ok (.aload_n 1, 1) := by decide +kernel
theorem dL_law_326 : decode cL_law 326 = .ok (.aload_n 0, 1) := by decide +kernel
theorem dL_law_327 : decode cL_law 327 = .ok (.iload_n 3, 1) := by decide +kernel
theorem dL_law_328 : decode cL_law 328 = .ok (.iconst 1, 1) := by decide +kernel
theorem dL_law_329 : decode cL_law 329 = .ok (.iadd, 1) := by decide +kernel
theorem dL_law_330 : decode cL_law 330 = .ok (.iaload, 1) := by decide +kernel
theorem dL_law_331 : decode cL_law 331 = .ok (.aload_n 0, 1) := by decide +kernel
theorem dL_law_332 : decode cL_law 332 = .ok (.iload_n 3, 1) := by decide +kernel
theorem dL_law_333 : decode cL_law 333 = .ok (.iconst 2, 1) := by decide +kernel
theorem dL_law_334 : decode cL_law 334 = .ok (.iadd, 1) := by decide +kernel
theorem dL_law_335 : decode cL_law 335 = .ok (.iaload, 1) := by decide +kernel
theorem dL_law_336 : decode cL_law 336 = .ok (.aload_n 0, 1) := by decide +kernel
theorem dL_law_337 : decode cL_law 337 = .ok (.iload_n 3, 1) := by decide +kernel
theorem dL_law_338 : decode cL_law 338 = .ok (.iconst 3, 1) := by decide +kernel
theorem dL_law_339 : decode cL_law 339 = .ok (.iadd, 1) := by decide +kernel
theorem dL_law_340 : decode cL_law 340 = .ok (.iaload, 1) := by decide +kernel
theorem dL_law_341 : decode cL_law 341 = .ok (.aload_n 0, 1) := by decide +kernel
theorem dL_law_342 : decode cL_law 342 = .ok (.iload_n 3, 1) := by decide +kernel
theorem dL_law_343 : decode cL_law 343 = .ok (.iconst 4, 1) := by decide +kernel
theorem dL_law_344 : decode cL_law 344 = .ok (.iadd, 1) := by decide +kernel
theorem dL_law_345 : decode cL_law 345 = .ok (.iaload, 1) := by decide +kernel
theorem dL_law_346 : decode cL_law 346 = .ok (.aload_n 0, 1) := by decide +kernel
theorem dL_law_347 : decode cL_law 347 = .ok (.iload_n 3, 1) := by decide +kernel
theorem dL_law_348 : decode cL_law 348 = .ok (.iconst 5, 1) := by decide +kernel
theorem dL_law_349 : decode cL_law 349 = .ok (.iadd, 1) := by decide +kernel
theorem dL_law_350 : decode cL_law 350 = .ok (.iaload, 1) := by decide +kernel
theorem dL_law_351 : decode cL_law 351 = .ok (.invokevirtual 37, 3) := by decide +kernel
theorem dL_law_354 : decode cL_law 354 = .ok (.aload_n 2, 1) := by decide +kernel
theorem dL_law_355 : decode cL_law 355 = .ok (.aload_n 0, 1) := by decide +kernel
theorem dL_law_356 : decode cL_law 356 = .ok (.iload_n 3, 1) := by decide +kernel
theorem dL_law_357 : decode cL_law 357 = .ok (.iconst 1, 1) := by decide +kernel
theorem dL_law_358 : decode cL_law 358 = .ok (.iadd, 1) := by decide +kernel
theorem dL_law_359 : decode cL_law 359 = .ok (.iaload, 1) := by decide +kernel
theorem dL_law_360 : decode cL_law 360 = .ok (.aload_n 0, 1) := by decide +kernel
theorem dL_law_361 : decode cL_law 361 = .ok (.iload_n 3, 1) := by decide +kernel
theorem dL_law_362 : decode cL_law 362 = .ok (.iconst 2, 1) := by decide +kernel
theorem dL_law_363 : decode cL_law 363 = .ok (.iadd, 1) := by decide +kernel
theorem dL_law_364 : decode cL_law 364 = .ok (.iaload, 1) := by decide +kernel
theorem dL_law_365 : decode cL_law 365 = .ok (.aload_n 0, 1) := by decide +kernel
theorem dL_law_366 : decode cL_law 366 = .ok (.iload_n 3, 1) := by decide +kernel
theorem dL_law_367 : decode cL_law 367 = .ok (.iconst 3, 1) := by decide +kernel
theorem dL_law_368 : decode cL_law 368 = .ok (.iadd, 1) := by decide +kernel
theorem dL_law_369 : decode cL_law 369 = .ok (.iaload, 1) := by decide +kernel
theorem dL_law_370 : decode cL_law 370 = .ok (.aload_n 0, 1) := by decide +kernel
theorem dL_law_371 : decode cL_law 371 = .ok (.iload_n 3, 1) := by decide +kernel
theorem dL_law_372 : decode cL_law 372 = .ok (.iconst 4, 1) := by decide +kernel
theorem dL_law_373 : decode cL_law 373 = .ok (.iadd, 1) := by decide +kernel
theorem dL_law_374 : decode cL_law 374 = .ok (.iaload, 1) := by decide +kernel
theorem dL_law_375 : decode cL_law 375 = .ok (.aload_n 0, 1) := by decide +kernel
theorem dL_law_376 : decode cL_law 376 = .ok (.iload_n 3, 1) := by decide +kernel
theorem dL_law_377 : decode cL_law 377 = .ok (.iconst 5, 1) := by decide +kernel
theorem dL_law_378 : decode cL_law 378 = .ok (.iadd, 1) := by decide +kernel
theorem dL_law_379 : decode cL_law 379 = .ok (.iaload, 1) := by decide +kernel
theorem dL_law_380 : decode cL_law 380 = .ok (.invokevirtual 40, 3) := by decide +kernel
theorem dL_law_383 : decode cL_law 383 = .ok (.if_icmp .eq 720, 3) := by decide +kernel
theorem dL_law_386 : decode cL_law 386 = .ok (.iconst 0, 1) := by decide +kernel
theorem dL_law_387 : decode cL_law 387 = .ok (.ireturn, 1) := by decide +kernel
theorem dL_law_388 : decode cL_law 388 = .ok (.aload_n 1, 1) := by decide +kernel
theorem dL_law_389 : decode cL_law 389 = .ok (.aload_n 0, 1) := by decide +kernel
theorem dL_law_390 : decode cL_law 390 = .ok (.iload_n 3, 1) := by decide +kernel
theorem dL_law_391 : decode cL_law 391 = .ok (.iconst 1, 1) := by decide +kernel
theorem dL_law_392 : decode cL_law 392 = .ok (.iadd, 1) := by decide +kernel
theorem dL_law_393 : decode cL_law 393 = .ok (.iaload, 1) := by decide +kernel
theorem dL_law_394 : decode cL_law 394 = .ok (.aload_n 0, 1) := by decide +kernel
theorem dL_law_395 : decode cL_law 395 = .ok (.iload_n 3, 1) := by decide +kernel
theorem dL_law_396 : decode cL_law 396 = .ok (.iconst 2, 1) := by decide +kernel
theorem dL_law_397 : decode cL_law 397 = .ok (.iadd, 1) := by decide +kernel
theorem dL_law_398 : decode cL_law 398 = .ok (.iaload, 1) := by decide +kernel
theorem dL_law_399 : decode cL_law 399 = .ok (.aload_n 0, 1) := by decide +kernel
theorem dL_law_400 : decode cL_law 400 = .ok (.iload_n 3, 1) := by decide +kernel
theorem dL_law_401 : decode cL_law 401 = .ok (.iconst 3, 1) := by decide +kernel
theorem dL_law_402 : decode cL_law 402 = .ok (.iadd, 1) := by decide +kernel
theorem dL_law_403 : decode cL_law 403 = .ok (.iaload, 1) := by decide +kernel
theorem dL_law_404 : decode cL_law 404 = .ok (.aload_n 0, 1) := by decide +kernel
theorem dL_law_405 : decode cL_law 405 = .ok (.iload_n 3, 1) := by decide +kernel
theorem dL_law_406 : decode cL_law 406 = .ok (.iconst 4, 1) := by decide +kernel
theorem dL_law_407 : decode cL_law 407 = .ok (.iadd, 1) := by decide +kernel
theorem dL_law_408 : decode cL_law 408 = .ok (.iaload, 1) := by decide +kernel
theorem dL_law_409 : decode cL_law 409 = .ok (.aload_n 0, 1) := by decide +kernel
theorem dL_law_410 : decode cL_law 410 = .ok (.iload_n 3, 1) := by decide +kernel
theorem dL_law_411 : decode cL_law 411 = .ok (.iconst 5, 1) := by decide +kernel
theorem dL_law_412 : decode cL_law 412 = .ok (.iadd, 1) := by decide +kernel
theorem dL_law_413 : decode cL_law 413 = .ok (.iaload, 1) := by decide +kernel
theorem dL_law_414 : decode cL_law 414 = .ok (.aload_n 0, 1) := by decide +kernel
theorem dL_law_415 : decode cL_law 415 = .ok (.iload_n 3, 1) := by decide +kernel
theorem dL_law_416 : decode cL_law 416 = .ok (.bipush 6, 2) := by decide +kernel
theorem dL_law_418 : decode cL_law 418 = .ok (.iadd, 1) := by decide +kernel
theorem dL_law_419 : decode cL_law 419 = .ok (.iaload, 1) := by decide +kernel
theorem dL_law_420 : decode cL_law 420 = .ok (.invokevirtual 41, 3) := by decide +kernel
theorem dL_law_423 : decode cL_law 423 = .ok (.aload_n 2, 1) := by decide +kernel
theorem dL_law_424 : decode cL_law 424 = .ok (.aload_n 0, 1) := by decide +kernel
theorem dL_law_425 : decode cL_law 425 = .ok (.iload_n 3, 1) := by decide +kernel
theorem dL_law_426 : decode cL_law 426 = .ok (.iconst 1, 1) := by decide +kernel
theorem dL_law_427 : decode cL_law 427 = .ok (.iadd, 1) := by decide +kernel
theorem dL_law_428 : decode cL_law 428 = .ok (.iaload, 1) := by decide +kernel
theorem dL_law_429 : decode cL_law 429 = .ok (.aload_n 0, 1) := by decide +kernel
theorem dL_law_430 : decode cL_law 430 = .ok (.iload_n 3, 1) := by decide +kernel
theorem dL_law_431 : decode cL_law 431 = .ok (.iconst 2, 1) := by decide +kernel
theorem dL_law_432 : decode cL_law 432 = .ok (.iadd, 1) := by decide +kernel
theorem dL_law_433 : decode cL_law 433 = .ok (.iaload, 1) := by decide +kernel
theorem dL_law_434 : decode cL_law 434 = .ok (.aload_n 0, 1) := by decide +kernel
theorem dL_law_435 : decode cL_law 435 = .ok (.iload_n 3, 1) := by decide +kernel
theorem dL_law_436 : decode cL_law 436 = .ok (.iconst 3, 1) := by decide +kernel
theorem dL_law_437 : decode cL_law 437 = .ok (.iadd, 1) := by decide +kernel
theorem dL_law_438 : decode cL_law 438 = .ok (.iaload, 1) := by decide +kernel
theorem dL_law_439 : decode cL_law 439 = .ok (.aload_n 0, 1) := by decide +kernel
theorem dL_law_440 : decode cL_law 440 = .ok (.iload_n 3, 1) := by decide +kernel
theorem dL_law_441 : decode cL_law 441 = .ok (.iconst 4, 1) := by decide +kernel
theorem dL_law_442 : decode cL_law 442 = .ok (.iadd, 1) := by decide +kernel
theorem dL_law_443 : decode cL_law 443 = .ok (.iaload, 1) := by decide +kernel
theorem dL_law_444 : decode cL_law 444 = .ok (.aload_n 0, 1) := by decide +kernel
theorem dL_law_445 : decode cL_law 445 = .ok (.iload_n 3, 1) := by decide +kernel
theorem dL_law_446 : decode cL_law 446 = .ok (.iconst 5, 1) := by decide +kernel
theorem dL_law_447 : decode cL_law 447 = .ok (.iadd, 1) := by decide +kernel
theorem dL_law_448 : decode cL_law 448 = .ok (.iaload, 1) := by decide +kernel
theorem dL_law_449 : decode cL_law 449 = .ok (.aload_n 0, 1) := by decide +kernel
theorem dL_law_450 : decode cL_law 450 = .ok (.iload_n 3, 1) := by decide +kernel
theorem dL_law_451 : decode cL_law 451 = .ok (.bipush 6, 2) := by decide +kernel
theorem dL_law_453 : decode cL_law 453 = .ok (.iadd, 1) := by decide +kernel
theorem dL_law_454 : decode cL_law 454 = .ok (.iaload, 1) := by decide +kernel
theorem dL_law_455 : decode cL_law 455 = .ok (.invokevirtual 45, 3) := by decide +kernel
theorem dL_law_458 : decode cL_law 458 = .ok (.if_icmp .eq 645, 3) := by decide +kernel
theorem dL_law_461 : decode cL_law 461 = .ok (.iconst 0, 1) := by decide +kernel
theorem dL_law_462 : decode cL_law 462 = .ok (.ireturn, 1) := by decide +kernel
theorem dL_law_463 : decode cL_law 463 = .ok (.aload_n 1, 1) := by decide +kernel
theorem dL_law_464 : decode cL_law 464 = .ok (.aload_n 0, 1) := by decide +kernel
theorem dL_law_465 : decode cL_law 465 = .ok (.iload_n 3, 1) := by decide +kernel
theorem dL_law_466 : decode cL_law 466 = .ok (.iconst 1, 1) := by decide +kernel
end
section
theorem dL_law_467 : decode cL_law 467 = .ok (.iadd, 1) := by decide +kernel
theorem dL_law_468 : decode cL_law 468 = .ok (.iaload, 1) := by decide +kernel
theorem dL_law_469 : decode cL_law 469 = .ok (.aload_n 0, 1) := by decide +kernel
theorem dL_law_470 : decode cL_law 470 = .ok (.iload_n 3, 1) := by decide +kernel
theorem dL_law_471 : decode cL_law 471 = .ok (.iconst 2, 1) := by decide +kernel
theorem dL_law_472 : decode cL_law 472 = .ok (.iadd, 1) := by decide +kernel
theorem dL_law_473 : decode cL_law 473 = .ok (.iaload, 1) := by decide +kernel
theorem dL_law_474 : decode cL_law 474 = .ok (.aload_n 0, 1) := by decide +kernel
theorem dL_law_475 : decode cL_law 475 = .ok (.iload_n 3, 1) := by decide +kernel
theorem dL_law_476 : decode cL_law 476 = .ok (.iconst 3, 1) := by decide +kernel
theorem dL_law_477 : decode cL_law 477 = .ok (.iadd, 1) := by decide +kernel
theorem dL_law_478 : decode cL_law 478 = .ok (.iaload, 1) := by decide +kernel
theorem dL_law_479 : decode cL_law 479 = .ok (.aload_n 0, 1) := by decide +kernel
theorem dL_law_480 : decode cL_law 480 = .ok (.iload_n 3, 1) := by decide +kernel
theorem dL_law_481 : decode cL_law 481 = .ok (.iconst 4, 1) := by decide +kernel
theorem dL_law_482 : decode cL_law 482 = .ok (.iadd, 1) := by decide +kernel
theorem dL_law_483 : decode cL_law 483 = .ok (.iaload, 1) := by decide +kernel
theorem dL_law_484 : decode cL_law 484 = .ok (.aload_n 0, 1) := by decide +kernel
theorem dL_law_485 : decode cL_law 485 = .ok (.iload_n 3, 1) := by decide +kernel
theorem dL_law_486 : decode cL_law 486 = .ok (.iconst 5, 1) := by decide +kernel
theorem dL_law_487 : decode cL_law 487 = .ok (.iadd, 1) := by decide +kernel
theorem dL_law_488 : decode cL_law 488 = .ok (.iaload, 1) := by decide +kernel
theorem dL_law_489 : decode cL_law 489 = .ok (.aload_n 0, 1) := by decide +kernel
theorem dL_law_490 : decode cL_law 490 = .ok (.iload_n 3, 1) := by decide +kernel
theorem dL_law_491 : decode cL_law 491 = .ok (.bipush 6, 2) := by decide +kernel
theorem dL_law_493 : decode cL_law 493 = .ok (.iadd, 1) := by decide +kernel
theorem dL_law_494 : decode cL_law 494 = .ok (.iaload, 1) := by decide +kernel
theorem dL_law_495 : decode cL_law 495 = .ok (.aload_n 0, 1) := by decide +kernel
theorem dL_law_496 : decode cL_law 496 = .ok (.iload_n 3, 1) := by decide +kernel
theorem dL_law_497 : decode cL_law 497 = .ok (.bipush 7, 2) := by decide +kernel
theorem dL_law_499 : decode cL_law 499 = .ok (.iadd, 1) := by decide +kernel
theorem dL_law_500 : decode cL_law 500 = .ok (.iaload, 1) := by decide +kernel
theorem dL_law_501 : decode cL_law 501 = .ok (.i2l, 1) := by decide +kernel
theorem dL_law_502 : decode cL_law 502 = .ok (.bipush 32, 2) := by decide +kernel
theorem dL_law_504 : decode cL_law 504 = .ok (.lshl, 1) := by decide +kernel
theorem dL_law_505 : decode cL_law 505 = .ok (.aload_n 0, 1) := by decide +kernel
theorem dL_law_506 : decode cL_law 506 = .ok (.iload_n 3, 1) := by decide +kernel
theorem dL_law_507 : decode cL_law 507 = .ok (.bipush 8, 2) := by decide +kernel
theorem dL_law_509 : decode cL_law 509 = .ok (.iadd, 1) := by decide +kernel
theorem dL_law_510 : decode cL_law 510 = .ok (.iaload, 1) := by decide +kernel
theorem dL_law_511 : decode cL_law 511 = .ok (.i2l, 1) := by decide +kernel
theorem dL_law_512 : decode cL_law 512 = .ok (.ldc2_w 46, 3) := by decide +kernel
theorem dL_law_515 : decode cL_law 515 = .ok (.land, 1) := by decide +kernel
theorem dL_law_516 : decode cL_law 516 = .ok (.lor, 1) := by decide +kernel
theorem dL_law_517 : decode cL_law 517 = .ok (.invokevirtual 48, 3) := by decide +kernel
theorem dL_law_520 : decode cL_law 520 = .ok (.aload_n 2, 1) := by decide +kernel
theorem dL_law_521 : decode cL_law 521 = .ok (.aload_n 0, 1) := by decide +kernel
theorem dL_law_522 : decode cL_law 522 = .ok (.iload_n 3, 1) := by decide +kernel
theorem dL_law_523 : decode cL_law 523 = .ok (.iconst 1, 1) := by decide +kernel
theorem dL_law_524 : decode cL_law 524 = .ok (.iadd, 1) := by decide +kernel
theorem dL_law_525 : decode cL_law 525 = .ok (.iaload, 1) := by decide +kernel
theorem dL_law_526 : decode cL_law 526 = .ok (.aload_n 0, 1) := by decide +kernel
theorem dL_law_527 : decode cL_law 527 = .ok (.iload_n 3, 1) := by decide +kernel
theorem dL_law_528 : decode cL_law 528 = .ok (.iconst 2, 1) := by decide +kernel
theorem dL_law_529 : decode cL_law 529 = .ok (.iadd, 1) := by decide +kernel
theorem dL_law_530 : decode cL_law 530 = .ok (.iaload, 1) := by decide +kernel
theorem dL_law_531 : decode cL_law 531 = .ok (.aload_n 0, 1) := by decide +kernel
theorem dL_law_532 : decode cL_law 532 = .ok (.iload_n 3, 1) := by decide +kernel
theorem dL_law_533 : decode cL_law 533 = .ok (.iconst 3, 1) := by decide +kernel
theorem dL_law_534 : decode cL_law 534 = .ok (.iadd, 1) := by decide +kernel
theorem dL_law_535 : decode cL_law 535 = .ok (.iaload, 1) := by decide +kernel
theorem dL_law_536 : decode cL_law 536 = .ok (.aload_n 0, 1) := by decide +kernel
theorem dL_law_537 : decode cL_law 537 = .ok (.iload_n 3, 1) := by decide +kernel
theorem dL_law_538 : decode cL_law 538 = .ok (.iconst 4, 1) := by decide +kernel
theorem dL_law_539 : decode cL_law 539 = .ok (.iadd, 1) := by decide +kernel
theorem dL_law_540 : decode cL_law 540 = .ok (.iaload, 1) := by decide +kernel
theorem dL_law_541 : decode cL_law 541 = .ok (.aload_n 0, 1) := by decide +kernel
theorem dL_law_542 : decode cL_law 542 = .ok (.iload_n 3, 1) := by decide +kernel
theorem dL_law_543 : decode cL_law 543 = .ok (.iconst 5, 1) := by decide +kernel
theorem dL_law_544 : decode cL_law 544 = .ok (.iadd, 1) := by decide +kernel
theorem dL_law_545 : decode cL_law 545 = .ok (.iaload, 1) := by decide +kernel
theorem dL_law_546 : decode cL_law 546 = .ok (.aload_n 0, 1) := by decide +kernel
theorem dL_law_547 : decode cL_law 547 = .ok (.iload_n 3, 1) := by decide +kernel
theorem dL_law_548 : decode cL_law 548 = .ok (.bipush 6, 2) := by decide +kernel
theorem dL_law_550 : decode cL_law 550 = .ok (.iadd, 1) := by decide +kernel
theorem dL_law_551 : decode cL_law 551 = .ok (.iaload, 1) := by decide +kernel
theorem dL_law_552 : decode cL_law 552 = .ok (.aload_n 0, 1) := by decide +kernel
theorem dL_law_553 : decode cL_law 553 = .ok (.iload_n 3, 1) := by decide +kernel
theorem dL_law_554 : decode cL_law 554 = .ok (.bipush 7, 2) := by decide +kernel
theorem dL_law_556 : decode cL_law 556 = .ok (.iadd, 1) := by decide +kernel
theorem dL_law_557 : decode cL_law 557 = .ok (.iaload, 1) := by decide +kernel
theorem dL_law_558 : decode cL_law 558 = .ok (.i2l, 1) := by decide +kernel
theorem dL_law_559 : decode cL_law 559 = .ok (.bipush 32, 2) := by decide +kernel
theorem dL_law_561 : decode cL_law 561 = .ok (.lshl, 1) := by decide +kernel
theorem dL_law_562 : decode cL_law 562 = .ok (.aload_n 0, 1) := by decide +kernel
theorem dL_law_563 : decode cL_law 563 = .ok (.iload_n 3, 1) := by decide +kernel
theorem dL_law_564 : decode cL_law 564 = .ok (.bipush 8, 2) := by decide +kernel
theorem dL_law_566 : decode cL_law 566 = .ok (.iadd, 1) := by decide +kernel
theorem dL_law_567 : decode cL_law 567 = .ok (.iaload, 1) := by decide +kernel
theorem dL_law_568 : decode cL_law 568 = .ok (.i2l, 1) := by decide +kernel
theorem dL_law_569 : decode cL_law 569 = .ok (.ldc2_w 46, 3) := by decide +kernel
theorem dL_law_572 : decode cL_law 572 = .ok (.land, 1) := by decide +kernel
theorem dL_law_573 : decode cL_law 573 = .ok (.lor, 1) := by decide +kernel
theorem dL_law_574 : decode cL_law 574 = .ok (.invokevirtual 52, 3) := by decide +kernel
theorem dL_law_577 : decode cL_law 577 = .ok (.if_icmp .eq 526, 3) := by decide +kernel
theorem dL_law_580 : decode cL_law 580 = .ok (.iconst 0, 1) := by decide +kernel
theorem dL_law_581 : decode cL_law 581 = .ok (.ireturn, 1) := by decide +kernel
theorem dL_law_582 : decode cL_law 582 = .ok (.aload_n 1, 1) := by decide +kernel
theorem dL_law_583 : decode cL_law 583 = .ok (.aload_n 0, 1) := by decide +kernel
theorem dL_law_584 : decode cL_law 584 = .ok (.iload_n 3, 1) := by decide +kernel
theorem dL_law_585 : decode cL_law 585 = .ok (.iconst 1, 1) := by decide +kernel
theorem dL_law_586 : decode cL_law 586 = .ok (.iadd, 1) := by decide +kernel
theorem dL_law_587 : decode cL_law 587 = .ok (.iaload, 1) := by decide +kernel
theorem dL_law_588 : decode cL_law 588 = .ok (.aload_n 0, 1) := by decide +kernel
theorem dL_law_589 : decode cL_law 589 = .ok (.iload_n 3, 1) := by decide +kernel
theorem dL_law_590 : decode cL_law 590 = .ok (.iconst 2, 1) := by decide +kernel
theorem dL_law_591 : decode cL_law 591 = .ok (.iadd, 1) := by decide +kernel
theorem dL_law_592 : decode cL_law 592 = .ok (.iaload, 1) := by decide +kernel
theorem dL_law_593 : decode cL_law 593 = .ok (.aload_n 0, 1) := by decide +kernel
theorem dL_law_594 : decode cL_law 594 = .ok (.iload_n 3, 1) := by decide +kernel
theorem dL_law_595 : decode cL_law 595 = .ok (.iconst 3, 1) := by decide +kernel
theorem dL_law_596 : decode cL_law 596 = .ok (.iadd, 1) := by decide +kernel
theorem dL_law_597 : decode cL_law 597 = .ok (.iaload, 1) := by decide +kernel
theorem dL_law_598 : decode cL_law 598 = .ok (.aload_n 0, 1) := by decide +kernel
theorem dL_law_599 : decode cL_law 599 = .ok (.iload_n 3, 1) := by decide +kernel
theorem dL_law_600 : decode cL_law 600 = .ok (.iconst 4, 1) := by decide +kernel
theorem dL_law_601 : decode cL_law 601 = .ok (.iadd, 1) := by decide +kernel
theorem dL_law_602 : decode cL_law 602 = .ok (.iaload, 1) := by decide +kernel
theorem dL_law_603 : decode cL_law 603 = .ok (.aload_n 0, 1) := by decide +kernel
theorem dL_law_604 : decode cL_law 604 = .ok (.iload_n 3, 1) := by decide +kernel
theorem dL_law_605 : decode cL_law 605 = .ok (.iconst 5, 1) := by decide +kernel
theorem dL_law_606 : decode cL_law 606 = .ok (.iadd, 1) := by decide +kernel
theorem dL_law_607 : decode cL_law 607 = .ok (.iaload, 1) := by decide +kernel
theorem dL_law_608 : decode cL_law 608 = .ok (.aload_n 0, 1) := by decide +kernel
theorem dL_law_609 : decode cL_law 609 = .ok (.iload_n 3, 1) := by decide +kernel
theorem dL_law_610 : decode cL_law 610 = .ok (.bipush 6, 2) := by decide +kernel
theorem dL_law_612 : decode cL_law 612 = .ok (.iadd, 1) := by decide +kernel
theorem dL_law_613 : decode cL_law 613 = .ok (.iaload, 1) := by decide +kernel
theorem dL_law_614 : decode cL_law 614 = .ok (.invokevirtual 53, 3) := by decide +kernel
theorem dL_law_617 : decode cL_law 617 = .ok (.aload_n 2, 1) := by decide +kernel
theorem dL_law_618 : decode cL_law 618 = .ok (.aload_n 0, 1) := by decide +kernel
theorem dL_law_619 : decode cL_law 619 = .ok (.iload_n 3, 1) := by decide +kernel
theorem dL_law_620 : decode cL_law 620 = .ok (.iconst 1, 1) := by decide +kernel
theorem dL_law_621 : decode cL_law 621 = .ok (.iadd, 1) := by decide +kernel
theorem dL_law_622 : decode cL_law 622 = .ok (.iaload, 1) := by decide +kernel
theorem dL_law_623 : decode cL_law 623 = .ok (.aload_n 0, 1) := by decide +kernel
theorem dL_law_624 : decode cL_law 624 = .ok (.iload_n 3, 1) := by decide +kernel
theorem dL_law_625 : decode cL_law 625 = .ok (.iconst 2, 1) := by decide +kernel
theorem dL_law_626 : decode cL_law 626 = .ok (.iadd, 1) := by decide +kernel
theorem dL_law_627 : decode cL_law 627 = .ok (.iaload, 1) := by decide +kernel
theorem dL_law_628 : decode cL_law 628 = .ok (.aload_n 0, 1) := by decide +kernel
theorem dL_law_629 : decode cL_law 629 = .ok (.iload_n 3, 1) := by decide +kernel
theorem dL_law_630 : decode cL_law 630 = .ok (.iconst 3, 1) := by decide +kernel
theorem dL_law_631 : decode cL_law 631 = .ok (.iadd, 1) := by decide +kernel
theorem dL_law_632 : decode cL_law 632 = .ok (.iaload, 1) := by decide +kernel
theorem dL_law_633 : decode cL_law 633 = .ok (.aload_n 0, 1) := by decide +kernel
theorem dL_law_634 : decode cL_law 634 = .ok (.iload_n 3, 1) := by decide +kernel
theorem dL_law_635 : decode cL_law 635 = .ok (.iconst 4, 1) := by decide +kernel
theorem dL_law_636 : decode cL_law 636 = .ok (.iadd, 1) := by decide +kernel
theorem dL_law_637 : decode cL_law 637 = .ok (.iaload, 1) := by decide +kernel
theorem dL_law_638 : decode cL_law 638 = .ok (.aload_n 0, 1) := by decide +kernel
theorem dL_law_639 : decode cL_law 639 = .ok (.iload_n 3, 1) := by decide +kernel
theorem dL_law_640 : decode cL_law 640 = .ok (.iconst 5, 1) := by decide +kernel
theorem dL_law_641 : decode cL_law 641 = .ok (.iadd, 1) := by decide +kernel
theorem dL_law_642 : decode cL_law 642 = .ok (.iaload, 1) := by decide +kernel
theorem dL_law_643 : decode cL_law 643 = .ok (.aload_n 0, 1) := by decide +kernel
theorem dL_law_644 : decode cL_law 644 = .ok (.iload_n 3, 1) := by decide +kernel
theorem dL_law_645 : decode cL_law 645 = .ok (.bipush 6, 2) := by decide +kernel
theorem dL_law_647 : decode cL_law 647 = .ok (.iadd, 1) := by decide +kernel
theorem dL_law_648 : decode cL_law 648 = .ok (.iaload, 1) := by decide +kernel
theorem dL_law_649 : decode cL_law 649 = .ok (.invokevirtual 56, 3) := by decide +kernel
theorem dL_law_652 : decode cL_law 652 = .ok (.if_icmp .eq 451, 3) := by decide +kernel
theorem dL_law_655 : decode cL_law 655 = .ok (.iconst 0, 1) := by decide +kernel
theorem dL_law_656 : decode cL_law 656 = .ok (.ireturn, 1) := by decide +kernel
theorem dL_law_657 : decode cL_law 657 = .ok (.aload_n 1, 1) := by decide +kernel
theorem dL_law_658 : decode cL_law 658 = .ok (.aload_n 0, 1) := by decide +kernel
theorem dL_law_659 : decode cL_law 659 = .ok (.iload_n 3, 1) := by decide +kernel
theorem dL_law_660 : decode cL_law 660 = .ok (.iconst 1, 1) := by decide +kernel
theorem dL_law_661 : decode cL_law 661 = .ok (.iadd, 1) := by decide +kernel
theorem dL_law_662 : decode cL_law 662 = .ok (.iaload, 1) := by decide +kernel
theorem dL_law_663 : decode cL_law 663 = .ok (.aload_n 0, 1) := by decide +kernel
theorem dL_law_664 : decode cL_law 664 = .ok (.iload_n 3, 1) := by decide +kernel
theorem dL_law_665 : decode cL_law 665 = .ok (.iconst 2, 1) := by decide +kernel
theorem dL_law_666 : decode cL_law 666 = .ok (.iadd, 1) := by decide +kernel
theorem dL_law_667 : decode cL_law 667 = .ok (.iaload, 1) := by decide +kernel
theorem dL_law_668 : decode cL_law 668 = .ok (.aload_n 0, 1) := by decide +kernel
theorem dL_law_669 : decode cL_law 669 = .ok (.iload_n 3, 1) := by decide +kernel
theorem dL_law_670 : decode cL_law 670 = .ok (.iconst 3, 1) := by decide +kernel
theorem dL_law_671 : decode cL_law 671 = .ok (.iadd, 1) := by decide +kernel
theorem dL_law_672 : decode cL_law 672 = .ok (.iaload, 1) := by decide +kernel
theorem dL_law_673 : decode cL_law 673 = .ok (.aload_n 0, 1) := by decide +kernel
theorem dL_law_674 : decode cL_law 674 = .ok (.iload_n 3, 1) := by decide +kernel
theorem dL_law_675 : decode cL_law 675 = .ok (.iconst 4, 1) := by decide +kernel
theorem dL_law_676 : decode cL_law 676 = .ok (.iadd, 1) := by decide +kernel
theorem dL_law_677 : decode cL_law 677 = .ok (.iaload, 1) := by decide +kernel
theorem dL_law_678 : decode cL_law 678 = .ok (.aload_n 0, 1) := by decide +kernel
theorem dL_law_679 : decode cL_law 679 = .ok (.iload_n 3, 1) := by decide +kernel
theorem dL_law_680 : decode cL_law 680 = .ok (.iconst 5, 1) := by decide +kernel
theorem dL_law_681 : decode cL_law 681 = .ok (.iadd, 1) := by decide +kernel
theorem dL_law_682 : decode cL_law 682 = .ok (.iaload, 1) := by decide +kernel
theorem dL_law_683 : decode cL_law 683 = .ok (.aload_n 0, 1) := by decide +kernel
theorem dL_law_684 : decode cL_law 684 = .ok (.iload_n 3, 1) := by decide +kernel
theorem dL_law_685 : decode cL_law 685 = .ok (.bipush 6, 2) := by decide +kernel
theorem dL_law_687 : decode cL_law 687 = .ok (.iadd, 1) := by decide +kernel
theorem dL_law_688 : decode cL_law 688 = .ok (.iaload, 1) := by decide +kernel
theorem dL_law_689 : decode cL_law 689 = .ok (.invokevirtual 57, 3) := by decide +kernel
theorem dL_law_692 : decode cL_law 692 = .ok (.aload_n 2, 1) := by decide +kernel
theorem dL_law_693 : decode cL_law 693 = .ok (.aload_n 0, 1) := by decide +kernel
theorem dL_law_694 : decode cL_law 694 = .ok (.iload_n 3, 1) := by decide +kernel
theorem dL_law_695 : decode cL_law 695 = .ok (.iconst 1, 1) := by decide +kernel
theorem dL_law_696 : decode cL_law 696 = .ok (.iadd, 1) := by decide +kernel
theorem dL_law_697 : decode cL_law 697 = .ok (.iaload, 1) := by decide +kernel
theorem dL_law_698 : decode cL_law 698 = .ok (.aload_n 0, 1) := by decide +kernel
theorem dL_law_699 : decode cL_law 699 = .ok (.iload_n 3, 1) := by decide +kernel
theorem dL_law_700 : decode cL_law 700 = .ok (.iconst 2, 1) := by decide +kernel
theorem dL_law_701 : decode cL_law 701 = .ok (.iadd, 1) := by decide +kernel
theorem dL_law_702 : decode cL_law 702 = .ok (.iaload, 1) := by decide +kernel
theorem dL_law_703 : decode cL_law 703 = .ok (.aload_n 0, 1) := by decide +kernel
theorem dL_law_704 : decode cL_law 704 = .ok (.iload_n 3, 1) := by decide +kernel
theorem dL_law_705 : decode cL_law 705 = .ok (.iconst 3, 1) := by decide +kernel
theorem dL_law_706 : decode cL_law 706 = .ok (.iadd, 1) := by decide +kernel
theorem dL_law_707 : decode cL_law 707 = .ok (.iaload, 1) := by decide +kernel
theorem dL_law_708 : decode cL_law 708 = .ok (.aload_n 0, 1) := by decide +kernel
theorem dL_law_709 : decode cL_law 709 = .ok (.iload_n 3, 1) := by decide +kernel
theorem dL_law_710 : decode cL_law 710 = .ok (.iconst 4, 1) := by decide +kernel
theorem dL_law_711 : decode cL_law 711 = .ok (.iadd, 1) := by decide +kernel
theorem dL_law_712 : decode cL_law 712 = .ok (.iaload, 1) := by decide +kernel
theorem dL_law_713 : decode cL_law 713 = .ok (.aload_n 0, 1) := by decide +kernel
theorem dL_law_714 : decode cL_law 714 = .ok (.iload_n 3, 1) := by decide +kernel
theorem dL_law_715 : decode cL_law 715 = .ok (.iconst 5, 1) := by decide +kernel
theorem dL_law_716 : decode cL_law 716 = .ok (.iadd, 1) := by decide +kernel
theorem dL_law_717 : decode cL_law 717 = .ok (.iaload, 1) := by decide +kernel
theorem dL_law_718 : decode cL_law 718 = .ok (.aload_n 0, 1) := by decide +kernel
theorem dL_law_719 : decode cL_law 719 = .ok (.iload_n 3, 1) := by decide +kernel
theorem dL_law_720 : decode cL_law 720 = .ok (.bipush 6, 2) := by decide +kernel
theorem dL_law_722 : decode cL_law 722 = .ok (.iadd, 1) := by decide +kernel
theorem dL_law_723 : decode cL_law 723 = .ok (.iaload, 1) := by decide +kernel
theorem dL_law_724 : decode cL_law 724 = .ok (.invokevirtual 60, 3) := by decide +kernel
theorem dL_law_727 : decode cL_law 727 = .ok (.if_icmp .eq 376, 3) := by decide +kernel
theorem dL_law_730 : decode cL_law 730 = .ok (.iconst 0, 1) := by decide +kernel
theorem dL_law_731 : decode cL_law 731 = .ok (.ireturn, 1) := by decide +kernel
theorem dL_law_732 : decode cL_law 732 = .ok (.aload_n 1, 1) := by decide +kernel
theorem dL_law_733 : decode cL_law 733 = .ok (.aload_n 0, 1) := by decide +kernel
theorem dL_law_734 : decode cL_law 734 = .ok (.iload_n 3, 1) := by decide +kernel
theorem dL_law_735 : decode cL_law 735 = .ok (.iconst 1, 1) := by decide +kernel
theorem dL_law_736 : decode cL_law 736 = .ok (.iadd, 1) := by decide +kernel
theorem dL_law_737 : decode cL_law 737 = .ok (.iaload, 1) := by decide +kernel
theorem dL_law_738 : decode cL_law 738 = .ok (.aload_n 0, 1) := by decide +kernel
theorem dL_law_739 : decode cL_law 739 = .ok (.iload_n 3, 1) := by decide +kernel
theorem dL_law_740 : decode cL_law 740 = .ok (.iconst 2, 1) := by decide +kernel
theorem dL_law_741 : decode cL_law 741 = .ok (.iadd, 1) := by decide +kernel
theorem dL_law_742 : decode cL_law 742 = .ok (.iaload, 1) := by decide +kernel
theorem dL_law_743 : decode cL_law 743 = .ok (.aload_n 0, 1) := by decide +kernel
theorem dL_law_744 : decode cL_law 744 = .ok (.iload_n 3, 1) := by decide +kernel
theorem dL_law_745 : decode cL_law 745 = .ok (.iconst 3, 1) := by decide +kernel
theorem dL_law_746 : decode cL_law 746 = .ok (.iadd, 1) := by decide +kernel
theorem dL_law_747 : decode cL_law 747 = .ok (.iaload, 1) := by decide +kernel
theorem dL_law_748 : decode cL_law 748 = .ok (.aload_n 0, 1) := by decide +kernel
theorem dL_law_749 : decode cL_law 749 = .ok (.iload_n 3, 1) := by decide +kernel
theorem dL_law_750 : decode cL_law 750 = .ok (.iconst 4, 1) := by decide +kernel
theorem dL_law_751 : decode cL_law 751 = .ok (.iadd, 1) := by decide +kernel
theorem dL_law_752 : decode cL_law 752 = .ok (.iaload, 1) := by decide +kernel
theorem dL_law_753 : decode cL_law 753 = .ok (.aload_n 0, 1) := by decide +kernel
theorem dL_law_754 : decode cL_law 754 = .ok (.iload_n 3, 1) := by decide +kernel
theorem dL_law_755 : decode cL_law 755 = .ok (.iconst 5, 1) := by decide +kernel
theorem dL_law_756 : decode cL_law 756 = .ok (.iadd, 1) := by decide +kernel
theorem dL_law_757 : decode cL_law 757 = .ok (.iaload, 1) := by decide +kernel
theorem dL_law_758 : decode cL_law 758 = .ok (.aload_n 0, 1) := by decide +kernel
theorem dL_law_759 : decode cL_law 759 = .ok (.iload_n 3, 1) := by decide +kernel
theorem dL_law_760 : decode cL_law 760 = .ok (.bipush 6, 2) := by decide +kernel
theorem dL_law_762 : decode cL_law 762 = .ok (.iadd, 1) := by decide +kernel
theorem dL_law_763 : decode cL_law 763 = .ok (.iaload, 1) := by decide +kernel
theorem dL_law_764 : decode cL_law 764 = .ok (.invokevirtual 61, 3) := by decide +kernel
theorem dL_law_767 : decode cL_law 767 = .ok (.aload_n 2, 1) := by decide +kernel
theorem dL_law_768 : decode cL_law 768 = .ok (.aload_n 0, 1) := by decide +kernel
theorem dL_law_769 : decode cL_law 769 = .ok (.iload_n 3, 1) := by decide +kernel
theorem dL_law_770 : decode cL_law 770 = .ok (.iconst 1, 1) := by decide +kernel
theorem dL_law_771 : decode cL_law 771 = .ok (.iadd, 1) := by decide +kernel
theorem dL_law_772 : decode cL_law 772 = .ok (.iaload, 1) := by decide +kernel
theorem dL_law_773 : decode cL_law 773 = .ok (.aload_n 0, 1) := by decide +kernel
theorem dL_law_774 : decode cL_law 774 = .ok (.iload_n 3, 1) := by decide +kernel
theorem dL_law_775 : decode cL_law 775 = .ok (.iconst 2, 1) := by decide +kernel
theorem dL_law_776 : decode cL_law 776 = .ok (.iadd, 1) := by decide +kernel
theorem dL_law_777 : decode cL_law 777 = .ok (.iaload, 1) := by decide +kernel
theorem dL_law_778 : decode cL_law 778 = .ok (.aload_n 0, 1) := by decide +kernel
theorem dL_law_779 : decode cL_law 779 = .ok (.iload_n 3, 1) := by decide +kernel
theorem dL_law_780 : decode cL_law 780 = .ok (.iconst 3, 1) := by decide +kernel
theorem dL_law_781 : decode cL_law 781 = .ok (.iadd, 1) := by decide +kernel
theorem dL_law_782 : decode cL_law 782 = .ok (.iaload, 1) := by decide +kernel
theorem dL_law_783 : decode cL_law 783 = .ok (.aload_n 0, 1) := by decide +kernel
theorem dL_law_784 : decode cL_law 784 = .ok (.iload_n 3, 1) := by decide +kernel
theorem dL_law_785 : decode cL_law 785 = .ok (.iconst 4, 1) := by decide +kernel
theorem dL_law_786 : decode cL_law 786 = .ok (.iadd, 1) := by decide +kernel
theorem dL_law_787 : decode cL_law 787 = .ok (.iaload, 1) := by decide +kernel
theorem dL_law_788 : decode cL_law 788 = .ok (.aload_n 0, 1) := by decide +kernel
theorem dL_law_789 : decode cL_law 789 = .ok (.iload_n 3, 1) := by decide +kernel
theorem dL_law_790 : decode cL_law 790 = .ok (.iconst 5, 1) := by decide +kernel
theorem dL_law_791 : decode cL_law 791 = .ok (.iadd, 1) := by decide +kernel
theorem dL_law_792 : decode cL_law 792 = .ok (.iaload, 1) := by decide +kernel
theorem dL_law_793 : decode cL_law 793 = .ok (.aload_n 0, 1) := by decide +kernel
theorem dL_law_794 : decode cL_law 794 = .ok (.iload_n 3, 1) := by decide +kernel
theorem dL_law_795 : decode cL_law 795 = .ok (.bipush 6, 2) := by decide +kernel
theorem dL_law_797 : decode cL_law 797 = .ok (.iadd, 1) := by decide +kernel
theorem dL_law_798 : decode cL_law 798 = .ok (.iaload, 1) := by decide +kernel
theorem dL_law_799 : decode cL_law 799 = .ok (.invokevirtual 64, 3) := by decide +kernel
theorem dL_law_802 : decode cL_law 802 = .ok (.if_icmp .eq 301, 3) := by decide +kernel
theorem dL_law_805 : decode cL_law 805 = .ok (.iconst 0, 1) := by decide +kernel
theorem dL_law_806 : decode cL_law 806 = .ok (.ireturn, 1) := by decide +kernel
theorem dL_law_807 : decode cL_law 807 = .ok (.aload_n 1, 1) := by decide +kernel
theorem dL_law_808 : decode cL_law 808 = .ok (.aload_n 0, 1) := by decide +kernel
theorem dL_law_809 : decode cL_law 809 = .ok (.iload_n 3, 1) := by decide +kernel
theorem dL_law_810 : decode cL_law 810 = .ok (.iconst 1, 1) := by decide +kernel
theorem dL_law_811 : decode cL_law 811 = .ok (.iadd, 1) := by decide +kernel
theorem dL_law_812 : decode cL_law 812 = .ok (.iaload, 1) := by decide +kernel
theorem dL_law_813 : decode cL_law 813 = .ok (.aload_n 0, 1) := by decide +kernel
theorem dL_law_814 : decode cL_law 814 = .ok (.iload_n 3, 1) := by decide +kernel
theorem dL_law_815 : decode cL_law 815 = .ok (.iconst 2, 1) := by decide +kernel
theorem dL_law_816 : decode cL_law 816 = .ok (.iadd, 1) := by decide +kernel
theorem dL_law_817 : decode cL_law 817 = .ok (.iaload, 1) := by decide +kernel
theorem dL_law_818 : decode cL_law 818 = .ok (.aload_n 0, 1) := by decide +kernel
theorem dL_law_819 : decode cL_law 819 = .ok (.iload_n 3, 1) := by decide +kernel
theorem dL_law_820 : decode cL_law 820 = .ok (.iconst 3, 1) := by decide +kernel
theorem dL_law_821 : decode cL_law 821 = .ok (.iadd, 1) := by decide +kernel
theorem dL_law_822 : decode cL_law 822 = .ok (.iaload, 1) := by decide +kernel
theorem dL_law_823 : decode cL_law 823 = .ok (.aload_n 0, 1) := by decide +kernel
theorem dL_law_824 : decode cL_law 824 = .ok (.iload_n 3, 1) := by decide +kernel
theorem dL_law_825 : decode cL_law 825 = .ok (.iconst 4, 1) := by decide +kernel
theorem dL_law_826 : decode cL_law 826 = .ok (.iadd, 1) := by decide +kernel
theorem dL_law_827 : decode cL_law 827 = .ok (.iaload, 1) := by decide +kernel
theorem dL_law_828 : decode cL_law 828 = .ok (.aload_n 0, 1) := by decide +kernel
theorem dL_law_829 : decode cL_law 829 = .ok (.iload_n 3, 1) := by decide +kernel
theorem dL_law_830 : decode cL_law 830 = .ok (.iconst 5, 1) := by decide +kernel
theorem dL_law_831 : decode cL_law 831 = .ok (.iadd, 1) := by decide +kernel
theorem dL_law_832 : decode cL_law 832 = .ok (.iaload, 1) := by decide +kernel
theorem dL_law_833 : decode cL_law 833 = .ok (.aload_n 0, 1) := by decide +kernel
theorem dL_law_834 : decode cL_law 834 = .ok (.iload_n 3, 1) := by decide +kernel
theorem dL_law_835 : decode cL_law 835 = .ok (.bipush 6, 2) := by decide +kernel
theorem dL_law_837 : decode cL_law 837 = .ok (.iadd, 1) := by decide +kernel
theorem dL_law_838 : decode cL_law 838 = .ok (.iaload, 1) := by decide +kernel
theorem dL_law_839 : decode cL_law 839 = .ok (.i2l, 1) := by decide +kernel
theorem dL_law_840 : decode cL_law 840 = .ok (.bipush 32, 2) := by decide +kernel
theorem dL_law_842 : decode cL_law 842 = .ok (.lshl, 1) := by decide +kernel
theorem dL_law_843 : decode cL_law 843 = .ok (.aload_n 0, 1) := by decide +kernel
theorem dL_law_844 : decode cL_law 844 = .ok (.iload_n 3, 1) := by decide +kernel
theorem dL_law_845 : decode cL_law 845 = .ok (.bipush 7, 2) := by decide +kernel
theorem dL_law_847 : decode cL_law 847 = .ok (.iadd, 1) := by decide +kernel
theorem dL_law_848 : decode cL_law 848 = .ok (.iaload, 1) := by decide +kernel
theorem dL_law_849 : decode cL_law 849 = .ok (.i2l, 1) := by decide +kernel
theorem dL_law_850 : decode cL_law 850 = .ok (.ldc2_w 46, 3) := by decide +kernel
theorem dL_law_853 : decode cL_law 853 = .ok (.land, 1) := by decide +kernel
theorem dL_law_854 : decode cL_law 854 = .ok (.lor, 1) := by decide +kernel
theorem dL_law_855 : decode cL_law 855 = .ok (.invokevirtual 65, 3) := by decide +kernel
theorem dL_law_858 : decode cL_law 858 = .ok (.aload_n 2, 1) := by decide +kernel
theorem dL_law_859 : decode cL_law 859 = .ok (.aload_n 0, 1) := by decide +kernel
theorem dL_law_860 : decode cL_law 860 = .ok (.iload_n 3, 1) := by decide +kernel
theorem dL_law_861 : decode cL_law 861 = .ok (.iconst 1, 1) := by decide +kernel
theorem dL_law_862 : decode cL_law 862 = .ok (.iadd, 1) := by decide +kernel
theorem dL_law_863 : decode cL_law 863 = .ok (.iaload, 1) := by decide +kernel
theorem dL_law_864 : decode cL_law 864 = .ok (.aload_n 0, 1) := by decide +kernel
theorem dL_law_865 : decode cL_law 865 = .ok (.iload_n 3, 1) := by decide +kernel
theorem dL_law_866 : decode cL_law 866 = .ok (.iconst 2, 1) := by decide +kernel
theorem dL_law_867 : decode cL_law 867 = .ok (.iadd, 1) := by decide +kernel
theorem dL_law_868 : decode cL_law 868 = .ok (.iaload, 1) := by decide +kernel
theorem dL_law_869 : decode cL_law 869 = .ok (.aload_n 0, 1) := by decide +kernel
theorem dL_law_870 : decode cL_law 870 = .ok (.iload_n 3, 1) := by decide +kernel
theorem dL_law_871 : decode cL_law 871 = .ok (.iconst 3, 1) := by decide +kernel
theorem dL_law_872 : decode cL_law 872 = .ok (.iadd, 1) := by decide +kernel
theorem dL_law_873 : decode cL_law 873 = .ok (.iaload, 1) := by decide +kernel
theorem dL_law_874 : decode cL_law 874 = .ok (.aload_n 0, 1) := by decide +kernel
theorem dL_law_875 : decode cL_law 875 = .ok (.iload_n 3, 1) := by decide +kernel
theorem dL_law_876 : decode cL_law 876 = .ok (.iconst 4, 1) := by decide +kernel
theorem dL_law_877 : decode cL_law 877 = .ok (.iadd, 1) := by decide +kernel
theorem dL_law_878 : decode cL_law 878 = .ok (.iaload, 1) := by decide +kernel
theorem dL_law_879 : decode cL_law 879 = .ok (.aload_n 0, 1) := by decide +kernel
theorem dL_law_880 : decode cL_law 880 = .ok (.iload_n 3, 1) := by decide +kernel
theorem dL_law_881 : decode cL_law 881 = .ok (.iconst 5, 1) := by decide +kernel
theorem dL_law_882 : decode cL_law 882 = .ok (.iadd, 1) := by decide +kernel
theorem dL_law_883 : decode cL_law 883 = .ok (.iaload, 1) := by decide +kernel
theorem dL_law_884 : decode cL_law 884 = .ok (.aload_n 0, 1) := by decide +kernel
theorem dL_law_885 : decode cL_law 885 = .ok (.iload_n 3, 1) := by decide +kernel
theorem dL_law_886 : decode cL_law 886 = .ok (.bipush 6, 2) := by decide +kernel
theorem dL_law_888 : decode cL_law 888 = .ok (.iadd, 1) := by decide +kernel
theorem dL_law_889 : decode cL_law 889 = .ok (.iaload, 1) := by decide +kernel
theorem dL_law_890 : decode cL_law 890 = .ok (.i2l, 1) := by decide +kernel
theorem dL_law_891 : decode cL_law 891 = .ok (.bipush 32, 2) := by decide +kernel
theorem dL_law_893 : decode cL_law 893 = .ok (.lshl, 1) := by decide +kernel
theorem dL_law_894 : decode cL_law 894 = .ok (.aload_n 0, 1) := by decide +kernel
theorem dL_law_895 : decode cL_law 895 = .ok (.iload_n 3, 1) := by decide +kernel
theorem dL_law_896 : decode cL_law 896 = .ok (.bipush 7, 2) := by decide +kernel
theorem dL_law_898 : decode cL_law 898 = .ok (.iadd, 1) := by decide +kernel
theorem dL_law_899 : decode cL_law 899 = .ok (.iaload, 1) := by decide +kernel
theorem dL_law_900 : decode cL_law 900 = .ok (.i2l, 1) := by decide +kernel
theorem dL_law_901 : decode cL_law 901 = .ok (.ldc2_w 46, 3) := by decide +kernel
theorem dL_law_904 : decode cL_law 904 = .ok (.land, 1) := by decide +kernel
theorem dL_law_905 : decode cL_law 905 = .ok (.lor, 1) := by decide +kernel
theorem dL_law_906 : decode cL_law 906 = .ok (.invokevirtual 69, 3) := by decide +kernel
theorem dL_law_909 : decode cL_law 909 = .ok (.if_icmp .eq 194, 3) := by decide +kernel
theorem dL_law_912 : decode cL_law 912 = .ok (.iconst 0, 1) := by decide +kernel
theorem dL_law_913 : decode cL_law 913 = .ok (.ireturn, 1) := by decide +kernel
theorem dL_law_914 : decode cL_law 914 = .ok (.aload_n 1, 1) := by decide +kernel
theorem dL_law_915 : decode cL_law 915 = .ok (.aload_n 0, 1) := by decide +kernel
theorem dL_law_916 : decode cL_law 916 = .ok (.iload_n 3, 1) := by decide +kernel
theorem dL_law_917 : decode cL_law 917 = .ok (.iconst 1, 1) := by decide +kernel
theorem dL_law_918 : decode cL_law 918 = .ok (.iadd, 1) := by decide +kernel
theorem dL_law_919 : decode cL_law 919 = .ok (.iaload, 1) := by decide +kernel
theorem dL_law_920 : decode cL_law 920 = .ok (.aload_n 0, 1) := by decide +kernel
theorem dL_law_921 : decode cL_law 921 = .ok (.iload_n 3, 1) := by decide +kernel
theorem dL_law_922 : decode cL_law 922 = .ok (.iconst 2, 1) := by decide +kernel
theorem dL_law_923 : decode cL_law 923 = .ok (.iadd, 1) := by decide +kernel
theorem dL_law_924 : decode cL_law 924 = .ok (.iaload, 1) := by decide +kernel
theorem dL_law_925 : decode cL_law 925 = .ok (.invokevirtual 70, 3) := by decide +kernel
theorem dL_law_928 : decode cL_law 928 = .ok (.aload_n 2, 1) := by decide +kernel
theorem dL_law_929 : decode cL_law 929 = .ok (.aload_n 0, 1) := by decide +kernel
theorem dL_law_930 : decode cL_law 930 = .ok (.iload_n 3, 1) := by decide +kernel
theorem dL_law_931 : decode cL_law 931 = .ok (.iconst 1, 1) := by decide +kernel
theorem dL_law_932 : decode cL_law 932 = .ok (.iadd, 1) := by decide +kernel
theorem dL_law_933 : decode cL_law 933 = .ok (.iaload, 1) := by decide +kernel
theorem dL_law_934 : decode cL_law 934 = .ok (.aload_n 0, 1) := by decide +kernel
theorem dL_law_935 : decode cL_law 935 = .ok (.iload_n 3, 1) := by decide +kernel
theorem dL_law_936 : decode cL_law 936 = .ok (.iconst 2, 1) := by decide +kernel
theorem dL_law_937 : decode cL_law 937 = .ok (.iadd, 1) := by decide +kernel
theorem dL_law_938 : decode cL_law 938 = .ok (.iaload, 1) := by decide +kernel
theorem dL_law_939 : decode cL_law 939 = .ok (.invokevirtual 73, 3) := by decide +kernel
theorem dL_law_942 : decode cL_law 942 = .ok (.if_icmp .eq 161, 3) := by decide +kernel
theorem dL_law_945 : decode cL_law 945 = .ok (.iconst 0, 1) := by decide +kernel
theorem dL_law_946 : decode cL_law 946 = .ok (.ireturn, 1) := by decide +kernel
theorem dL_law_947 : decode cL_law 947 = .ok (.aload_n 1, 1) := by decide +kernel
theorem dL_law_948 : decode cL_law 948 = .ok (.invokevirtual 74, 3) := by decide +kernel
theorem dL_law_951 : decode cL_law 951 = .ok (.aload_n 2, 1) := by decide +kernel
theorem dL_law_952 : decode cL_law 952 = .ok (.invokevirtual 78, 3) := by decide +kernel
theorem dL_law_955 : decode cL_law 955 = .ok (.if_icmp .eq 148, 3) := by decide +kernel
theorem dL_law_958 : decode cL_law 958 = .ok (.iconst 0, 1) := by decide +kernel
theorem dL_law_959 : decode cL_law 959 = .ok (.ireturn, 1) := by decide +kernel
theorem dL_law_960 : decode cL_law 960 = .ok (.aload_n 1, 1) := by decide +kernel
theorem dL_law_961 : decode cL_law 961 = .ok (.aload_n 0, 1) := by decide +kernel
theorem dL_law_962 : decode cL_law 962 = .ok (.iload_n 3, 1) := by decide +kernel
theorem dL_law_963 : decode cL_law 963 = .ok (.iconst 1, 1) := by decide +kernel
theorem dL_law_964 : decode cL_law 964 = .ok (.iadd, 1) := by decide +kernel
theorem dL_law_965 : decode cL_law 965 = .ok (.iaload, 1) := by decide +kernel
theorem dL_law_966 : decode cL_law 966 = .ok (.aload_n 0, 1) := by decide +kernel
theorem dL_law_967 : decode cL_law 967 = .ok (.iload_n 3, 1) := by decide +kernel
theorem dL_law_968 : decode cL_law 968 = .ok (.iconst 2, 1) := by decide +kernel
theorem dL_law_969 : decode cL_law 969 = .ok (.iadd, 1) := by decide +kernel
theorem dL_law_970 : decode cL_law 970 = .ok (.iaload, 1) := by decide +kernel
theorem dL_law_971 : decode cL_law 971 = .ok (.aload_n 0, 1) := by decide +kernel
theorem dL_law_972 : decode cL_law 972 = .ok (.iload_n 3, 1) := by decide +kernel
theorem dL_law_973 : decode cL_law 973 = .ok (.iconst 3, 1) := by decide +kernel
theorem dL_law_974 : decode cL_law 974 = .ok (.iadd, 1) := by decide +kernel
theorem dL_law_975 : decode cL_law 975 = .ok (.iaload, 1) := by decide +kernel
theorem dL_law_976 : decode cL_law 976 = .ok (.aload_n 0, 1) := by decide +kernel
theorem dL_law_977 : decode cL_law 977 = .ok (.iload_n 3, 1) := by decide +kernel
theorem dL_law_978 : decode cL_law 978 = .ok (.iconst 4, 1) := by decide +kernel
theorem dL_law_979 : decode cL_law 979 = .ok (.iadd, 1) := by decide +kernel
theorem dL_law_980 : decode cL_law 980 = .ok (.iaload, 1) := by decide +kernel
theorem dL_law_981 : decode cL_law 981 = .ok (.invokevirtual 79, 3) := by decide +kernel
theorem dL_law_984 : decode cL_law 984 = .ok (.aload_n 2, 1) := by decide +kernel
theorem dL_law_985 : decode cL_law 985 = .ok (.aload_n 0, 1) := by decide +kernel
theorem dL_law_986 : decode cL_law 986 = .ok (.iload_n 3, 1) := by decide +kernel
theorem dL_law_987 : decode cL_law 987 = .ok (.iconst 1, 1) := by decide +kernel
theorem dL_law_988 : decode cL_law 988 = .ok (.iadd, 1) := by decide +kernel
theorem dL_law_989 : decode cL_law 989 = .ok (.iaload, 1) := by decide +kernel
theorem dL_law_990 : decode cL_law 990 = .ok (.aload_n 0, 1) := by decide +kernel
theorem dL_law_991 : decode cL_law 991 = .ok (.iload_n 3, 1) := by decide +kernel
theorem dL_law_992 : decode cL_law 992 = .ok (.iconst 2, 1) := by decide +kernel
theorem dL_law_993 : decode cL_law 993 = .ok (.iadd, 1) := by decide +kernel
theorem dL_law_994 : decode cL_law 994 = .ok (.iaload, 1) := by decide +kernel
theorem dL_law_995 : decode cL_law 995 = .ok (.aload_n 0, 1) := by decide +kernel
theorem dL_law_996 : decode cL_law 996 = .ok (.iload_n 3, 1) := by decide +kernel
theorem dL_law_997 : decode cL_law 997 = .ok (.iconst 3, 1) := by decide +kernel
theorem dL_law_998 : decode cL_law 998 = .ok (.iadd, 1) := by decide +kernel
theorem dL_law_999 : decode cL_law 999 = .ok (.iaload, 1) := by decide +kernel
theorem dL_law_1000 : decode cL_law 1000 = .ok (.aload_n 0, 1) := by decide +kernel
theorem dL_law_1001 : decode cL_law 1001 = .ok (.iload_n 3, 1) := by decide +kernel
theorem dL_law_1002 : decode cL_law 1002 = .ok (.iconst 4, 1) := by decide +kernel
theorem dL_law_1003 : decode cL_law 1003 = .ok (.iadd, 1) := by decide +kernel
theorem dL_law_1004 : decode cL_law 1004 = .ok (.iaload, 1) := by decide +kernel
theorem dL_law_1005 : decode cL_law 1005 = .ok (.invokevirtual 82, 3) := by decide +kernel
theorem dL_law_1008 : decode cL_law 1008 = .ok (.if_icmp .eq 95, 3) := by decide +kernel
theorem dL_law_1011 : decode cL_law 1011 = .ok (.iconst 0, 1) := by decide +kernel
theorem dL_law_1012 : decode cL_law 1012 = .ok (.ireturn, 1) := by decide +kernel
theorem dL_law_1013 : decode cL_law 1013 = .ok (.aload_n 1, 1) := by decide +kernel
theorem dL_law_1014 : decode cL_law 1014 = .ok (.aload_n 0, 1) := by decide +kernel
theorem dL_law_1015 : decode cL_law 1015 = .ok (.iload_n 3, 1) := by decide +kernel
theorem dL_law_1016 : decode cL_law 1016 = .ok (.iconst 1, 1) := by decide +kernel
theorem dL_law_1017 : decode cL_law 1017 = .ok (.iadd, 1) := by decide +kernel
theorem dL_law_1018 : decode cL_law 1018 = .ok (.iaload, 1) := by decide +kernel
theorem dL_law_1019 : decode cL_law 1019 = .ok (.aload_n 0, 1) := by decide +kernel
theorem dL_law_1020 : decode cL_law 1020 = .ok (.iload_n 3, 1) := by decide +kernel
theorem dL_law_1021 : decode cL_law 1021 = .ok (.iconst 2, 1) := by decide +kernel
theorem dL_law_1022 : decode cL_law 1022 = .ok (.iadd, 1) := by decide +kernel
theorem dL_law_1023 : decode cL_law 1023 = .ok (.iaload, 1) := by decide +kernel
theorem dL_law_1024 : decode cL_law 1024 = .ok (.aload_n 0, 1) := by decide +kernel
theorem dL_law_1025 : decode cL_law 1025 = .ok (.iload_n 3, 1) := by decide +kernel
theorem dL_law_1026 : decode cL_law 1026 = .ok (.iconst 3, 1) := by decide +kernel
theorem dL_law_1027 : decode cL_law 1027 = .ok (.iadd, 1) := by decide +kernel
theorem dL_law_1028 : decode cL_law 1028 = .ok (.iaload, 1) := by decide +kernel
theorem dL_law_1029 : decode cL_law 1029 = .ok (.aload_n 0, 1) := by decide +kernel
theorem dL_law_1030 : decode cL_law 1030 = .ok (.iload_n 3, 1) := by decide +kernel
theorem dL_law_1031 : decode cL_law 1031 = .ok (.iconst 4, 1) := by decide +kernel
theorem dL_law_1032 : decode cL_law 1032 = .ok (.iadd, 1) := by decide +kernel
theorem dL_law_1033 : decode cL_law 1033 = .ok (.iaload, 1) := by decide +kernel
theorem dL_law_1034 : decode cL_law 1034 = .ok (.invokevirtual 83, 3) := by decide +kernel
theorem dL_law_1037 : decode cL_law 1037 = .ok (.aload_n 2, 1) := by decide +kernel
theorem dL_law_1038 : decode cL_law 1038 = .ok (.aload_n 0, 1) := by decide +kernel
theorem dL_law_1039 : decode cL_law 1039 = .ok (.iload_n 3, 1) := by decide +kernel
theorem dL_law_1040 : decode cL_law 1040 = .ok (.iconst 1, 1) := by decide +kernel
theorem dL_law_1041 : decode cL_law 1041 = .ok (.iadd, 1) := by decide +kernel
theorem dL_law_1042 : decode cL_law 1042 = .ok (.iaload, 1) := by decide +kernel
theorem dL_law_1043 : decode cL_law 1043 = .ok (.aload_n 0, 1) := by decide +kernel
theorem dL_law_1044 : decode cL_law 1044 = .ok (.iload_n 3, 1) := by decide +kernel
theorem dL_law_1045 : decode cL_law 1045 = .ok (.iconst 2, 1) := by decide +kernel
theorem dL_law_1046 : decode cL_law 1046 = .ok (.iadd, 1) := by decide +kernel
theorem dL_law_1047 : decode cL_law 1047 = .ok (.iaload, 1) := by decide +kernel
theorem dL_law_1048 : decode cL_law 1048 = .ok (.aload_n 0, 1) := by decide +kernel
theorem dL_law_1049 : decode cL_law 1049 = .ok (.iload_n 3, 1) := by decide +kernel
theorem dL_law_1050 : decode cL_law 1050 = .ok (.iconst 3, 1) := by decide +kernel
theorem dL_law_1051 : decode cL_law 1051 = .ok (.iadd, 1) := by decide +kernel
theorem dL_law_1052 : decode cL_law 1052 = .ok (.iaload, 1) := by decide +kernel
theorem dL_law_1053 : decode cL_law 1053 = .ok (.aload_n 0, 1) := by decide +kernel
theorem dL_law_1054 : decode cL_law 1054 = .ok (.iload_n 3, 1) := by decide +kernel
theorem dL_law_1055 : decode cL_law 1055 = .ok (.iconst 4, 1) := by decide +kernel
theorem dL_law_1056 : decode cL_law 1056 = .ok (.iadd, 1) := by decide +kernel
theorem dL_law_1057 : decode cL_law 1057 = .ok (.iaload, 1) := by decide +kernel
theorem dL_law_1058 : decode cL_law 1058 = .ok (.invokevirtual 86, 3) := by decide +kernel
theorem dL_law_1061 : decode cL_law 1061 = .ok (.if_icmp .eq 42, 3) := by decide +kernel
theorem dL_law_1064 : decode cL_law 1064 = .ok (.iconst 0, 1) := by decide +kernel
theorem dL_law_1065 : decode cL_law 1065 = .ok (.ireturn, 1) := by decide +kernel
theorem dL_law_1066 : decode cL_law 1066 = .ok (.aload_n 1, 1) := by decide +kernel
theorem dL_law_1067 : decode cL_law 1067 = .ok (.invokevirtual 87, 3) := by decide +kernel
theorem dL_law_1070 : decode cL_law 1070 = .ok (.aload_n 2, 1) := by decide +kernel
theorem dL_law_1071 : decode cL_law 1071 = .ok (.invokevirtual 91, 3) := by decide +kernel
theorem dL_law_1074 : decode cL_law 1074 = .ok (.lcmp, 1) := by decide +kernel
theorem dL_law_1075 : decode cL_law 1075 = .ok (.ifCond .eq 28, 3) := by decide +kernel
theorem dL_law_1078 : decode cL_law 1078 = .ok (.iconst 0, 1) := by decide +kernel
theorem dL_law_1079 : decode cL_law 1079 = .ok (.ireturn, 1) := by decide +kernel
theorem dL_law_1080 : decode cL_law 1080 = .ok (.aload_n 1, 1) := by decide +kernel
theorem dL_law_1081 : decode cL_law 1081 = .ok (.aload_n 0, 1) := by decide +kernel
theorem dL_law_1082 : decode cL_law 1082 = .ok (.iload_n 3, 1) := by decide +kernel
theorem dL_law_1083 : decode cL_law 1083 = .ok (.iconst 1, 1) := by decide +kernel
theorem dL_law_1084 : decode cL_law 1084 = .ok (.iadd, 1) := by decide +kernel
theorem dL_law_1085 : decode cL_law 1085 = .ok (.iaload, 1) := by decide +kernel
theorem dL_law_1086 : decode cL_law 1086 = .ok (.invokevirtual 92, 3) := by decide +kernel
theorem dL_law_1089 : decode cL_law 1089 = .ok (.aload_n 2, 1) := by decide +kernel
theorem dL_law_1090 : decode cL_law 1090 = .ok (.aload_n 0, 1) := by decide +kernel
theorem dL_law_1091 : decode cL_law 1091 = .ok (.iload_n 3, 1) := by decide +kernel
theorem dL_law_1092 : decode cL_law 1092 = .ok (.iconst 1, 1) := by decide +kernel
theorem dL_law_1093 : decode cL_law 1093 = .ok (.iadd, 1) := by decide +kernel
theorem dL_law_1094 : decode cL_law 1094 = .ok (.iaload, 1) := by decide +kernel
theorem dL_law_1095 : decode cL_law 1095 = .ok (.invokevirtual 95, 3) := by decide +kernel
theorem dL_law_1098 : decode cL_law 1098 = .ok (.if_icmp .eq 5, 3) := by decide +kernel
theorem dL_law_1101 : decode cL_law 1101 = .ok (.iconst 0, 1) := by decide +kernel
theorem dL_law_1102 : decode cL_law 1102 = .ok (.ireturn, 1) := by decide +kernel
theorem dL_law_1103 : decode cL_law 1103 = .ok (.iinc 3 9, 3) := by decide +kernel
theorem dL_law_1106 : decode cL_law 1106 = .ok (.goto (-1088), 3) := by decide +kernel
theorem dL_law_1109 : decode cL_law 1109 = .ok (.iconst 1, 1) := by decide +kernel
theorem dL_law_1110 : decode cL_law 1110 = .ok (.ireturn, 1) := by decide +kernel
end

section
-- ===== PART A: goes FIRST, ahead of the names: the tables' words, and 'selects' of the private methods out of them =====
/-- a private method of a class that the tables say can be made, by its rows of tables_1 -/
def lw_okq (q : MethodName × Nat) : Prop := (q.1.cls ≠ "java/lang/invoke/MethodHandle" ∧ q.1.cls ≠ "java/lang/invoke/VarHandle") ∧ Cond.instantiable q.1.cls q.2 ∈ tables_1 ∧ Cond.privateMethod q.1 ∈ tables_1 ∧ Cond.instanceMethod q.1 ∈ tables_1
theorem lw_p0 : lw_okq (⟨"CutOnce$Picture", "layEdges", "(II)V"⟩, 4) := ⟨⟨by decide +kernel, by decide +kernel⟩, List.mem_of_getElem? (i := 17) (by decide +kernel), List.mem_of_getElem? (i := 27) (by decide +kernel), List.mem_of_getElem? (i := 28) (by decide +kernel)⟩
theorem lw_p1 : lw_okq (⟨"CutOnce$Picture", "setSide", "(III)V"⟩, 4) := ⟨⟨by decide +kernel, by decide +kernel⟩, List.mem_of_getElem? (i := 17) (by decide +kernel), List.mem_of_getElem? (i := 31) (by decide +kernel), List.mem_of_getElem? (i := 32) (by decide +kernel)⟩
theorem lw_p2 : lw_okq (⟨"CutOnce", "countMissing", "(I)I"⟩, 7) := ⟨⟨by decide +kernel, by decide +kernel⟩, List.mem_of_getElem? (i := 9) (by decide +kernel), List.mem_of_getElem? (i := 299) (by decide +kernel), List.mem_of_getElem? (i := 300) (by decide +kernel)⟩
theorem lw_p3 : lw_okq (⟨"CutOnce", "isMissing", "(II)Z"⟩, 7) := ⟨⟨by decide +kernel, by decide +kernel⟩, List.mem_of_getElem? (i := 9) (by decide +kernel), List.mem_of_getElem? (i := 303) (by decide +kernel), List.mem_of_getElem? (i := 304) (by decide +kernel)⟩
theorem lw_p4 : lw_okq (⟨"CutOnce", "missingPiece", "(II)I"⟩, 7) := ⟨⟨by decide +kernel, by decide +kernel⟩, List.mem_of_getElem? (i := 9) (by decide +kernel), List.mem_of_getElem? (i := 315) (by decide +kernel), List.mem_of_getElem? (i := 316) (by decide +kernel)⟩
theorem lw_p5 : lw_okq (⟨"CutOnce$Search", "run", "(Z)V"⟩, 13) := ⟨⟨by decide +kernel, by decide +kernel⟩, List.mem_of_getElem? (i := 65) (by decide +kernel), List.mem_of_getElem? (i := 327) (by decide +kernel), List.mem_of_getElem? (i := 328) (by decide +kernel)⟩
theorem lw_p6 : lw_okq (⟨"CutOnce$Search", "readEdges", "(I)V"⟩, 13) := ⟨⟨by decide +kernel, by decide +kernel⟩, List.mem_of_getElem? (i := 65) (by decide +kernel), List.mem_of_getElem? (i := 332) (by decide +kernel), List.mem_of_getElem? (i := 333) (by decide +kernel)⟩
theorem lw_p7 : lw_okq (⟨"CutOnce$Search", "codeOf", "(II)I"⟩, 13) := ⟨⟨by decide +kernel, by decide +kernel⟩, List.mem_of_getElem? (i := 65) (by decide +kernel), List.mem_of_getElem? (i := 342) (by decide +kernel), List.mem_of_getElem? (i := 343) (by decide +kernel)⟩
theorem lw_p8 : lw_okq (⟨"CutOnce$Search", "mateOf", "(II)I"⟩, 13) := ⟨⟨by decide +kernel, by decide +kernel⟩, List.mem_of_getElem? (i := 65) (by decide +kernel), List.mem_of_getElem? (i := 351) (by decide +kernel), List.mem_of_getElem? (i := 352) (by decide +kernel)⟩
theorem lw_p9 : lw_okq (⟨"CutOnce$Search", "fillFrom", "(I)V"⟩, 13) := ⟨⟨by decide +kernel, by decide +kernel⟩, List.mem_of_getElem? (i := 65) (by decide +kernel), List.mem_of_getElem? (i := 359) (by decide +kernel), List.mem_of_getElem? (i := 360) (by decide +kernel)⟩
theorem lw_p10 : lw_okq (⟨"CutOnce$Search", "lookAround", "(I)V"⟩, 13) := ⟨⟨by decide +kernel, by decide +kernel⟩, List.mem_of_getElem? (i := 65) (by decide +kernel), List.mem_of_getElem? (i := 364) (by decide +kernel), List.mem_of_getElem? (i := 365) (by decide +kernel)⟩
theorem lw_p11 : lw_okq (⟨"CutOnce$Search", "fits", "(II)Z"⟩, 13) := ⟨⟨by decide +kernel, by decide +kernel⟩, List.mem_of_getElem? (i := 65) (by decide +kernel), List.mem_of_getElem? (i := 379) (by decide +kernel), List.mem_of_getElem? (i := 380) (by decide +kernel)⟩
def lw_privs_1 : List (MethodName × Nat) := [(⟨"CutOnce$Picture", "layEdges", "(II)V"⟩, 4), (⟨"CutOnce$Picture", "setSide", "(III)V"⟩, 4), (⟨"CutOnce", "countMissing", "(I)I"⟩, 7), (⟨"CutOnce", "isMissing", "(II)Z"⟩, 7), (⟨"CutOnce", "missingPiece", "(II)I"⟩, 7), (⟨"CutOnce$Search", "run", "(Z)V"⟩, 13), (⟨"CutOnce$Search", "readEdges", "(I)V"⟩, 13), (⟨"CutOnce$Search", "codeOf", "(II)I"⟩, 13), (⟨"CutOnce$Search", "mateOf", "(II)I"⟩, 13), (⟨"CutOnce$Search", "fillFrom", "(I)V"⟩, 13), (⟨"CutOnce$Search", "lookAround", "(I)V"⟩, 13), (⟨"CutOnce$Search", "fits", "(II)Z"⟩, 13)]
theorem lw_r1 : ∀ q ∈ lw_privs_1, lw_okq q := List.forall_mem_cons.mpr ⟨lw_p0, List.forall_mem_cons.mpr ⟨lw_p1, List.forall_mem_cons.mpr ⟨lw_p2, List.forall_mem_cons.mpr ⟨lw_p3, List.forall_mem_cons.mpr ⟨lw_p4, List.forall_mem_cons.mpr ⟨lw_p5, List.forall_mem_cons.mpr ⟨lw_p6, List.forall_mem_cons.mpr ⟨lw_p7, List.forall_mem_cons.mpr ⟨lw_p8, List.forall_mem_cons.mpr ⟨lw_p9, List.forall_mem_cons.mpr ⟨lw_p10, List.forall_mem_cons.mpr ⟨lw_p11, fun _ h => absurd h List.not_mem_nil⟩⟩⟩⟩⟩⟩⟩⟩⟩⟩⟩⟩
def lw_privs : List (MethodName × Nat) := lw_privs_1
def lw_tbl : List Cond := k2_sels lw_privs ++ tables_1
theorem lw_privs_ok : ∀ q ∈ lw_privs, lw_okq q := lw_r1
end
section
/-! ===== BEGIN words of one list among another's, by their places ===== -/
theorem goodIn_r {big : List Cond} (ws : List Cond) (ps : List Nat) (hp : ws = ps.filterMap (fun i => big[i]?)) (h : ws.all goodWord = true) : GoodIn big ws := by
  intro w hw
  have h1 := List.all_eq_true.mp h w hw
  rw [hp] at hw
  obtain ⟨i, -, hi⟩ := List.mem_filterMap.mp hw
  have hm : w ∈ big := by first | exact List.mem_of_getElem? hi | exact List.getElem?_mem hi
  exact ⟨hm, good_of_word h1⟩
theorem goodIn_app {big a b : List Cond} (ha : GoodIn big a) (hb : GoodIn big b) : GoodIn big (a ++ b) := fun w h => (List.mem_append.mp h).elim (ha w) (hb w)
theorem goodIn_ca {big a b : List Cond} {c : Cond} (ha : GoodIn big (c :: a)) (hb : GoodIn big b) : GoodIn big (c :: (a ++ b)) := fun w h => (List.mem_cons.mp h).elim (fun e => ha w (List.mem_cons.mpr (Or.inl e))) (fun h => (List.mem_append.mp h).elim (fun h => ha w (List.mem_cons.mpr (Or.inr h))) (hb w))
theorem goodIn_sub {big ws : List Cond} (hm : ∀ w ∈ ws, w ∈ big) (h : ws.all goodWord = true) : GoodIn big ws := fun w hw => ⟨hm w hw, good_of_word (List.all_eq_true.mp h w hw)⟩
/-! ===== END ===== -/

/-! ===== BEGIN printed: names, fields, word lists, decode rows ===== -/
def RX0 : String := "CutOnce$Draw"
def TX0 : u_T := fun k => match k with
  | _ => ("CutOnce$Draw", "now", "J", false)
def tyX0 : Nat → FieldType := fun k => match k with
  | _ => .long
abbrev wsX00 : List Cond := u_ws RX0 TX0 1
theorem nmX0 : ∀ a, a < 1 → ∀ b, b < 1 → a ≠ b → (TX0 a).2.1 ≠ (TX0 b).2.1 := by decide +kernel
theorem tyX0_ok : ∀ k, k < 1 → parseFieldDescriptor (TX0 k).2.2.1 = some (tyX0 k) := by decide +kernel
abbrev cX0_init : ByteArray := prog_2_method_1_code
def yX0_init : MethodName := ⟨RX0, "<init>", "()V"⟩
abbrev cX0_begin : ByteArray := prog_2_method_2_code
def yX0_begin : MethodName := ⟨RX0, "begin", "(J)V"⟩
abbrev cX0_below : ByteArray := prog_2_method_3_code
def yX0_below : MethodName := ⟨RX0, "below", "(I)I"⟩
def RX1 : String := "CutOnce$Picture"
def TX1 : u_T := fun k => match k with
  | 0 => ("CutOnce$Picture", "heights", "[I", true)
  | 1 => ("CutOnce$Picture", "sideOfEdge", "[I", true)
  | 2 => ("CutOnce$Picture", "w", "I", false)
  | _ => ("CutOnce$Picture", "h", "I", false)
def tyX1 : Nat → FieldType := fun k => match k with
  | 0 => .array .int
  | 1 => .array .int
  | 2 => .int
  | _ => .int
abbrev wsX10 : List Cond := u_ws RX1 TX1 4
theorem nmX1 : ∀ a, a < 4 → ∀ b, b < 4 → a ≠ b → (TX1 a).2.1 ≠ (TX1 b).2.1 := by decide +kernel
theorem tyX1_ok : ∀ k, k < 4 → parseFieldDescriptor (TX1 k).2.2.1 = some (tyX1 k) := by decide +kernel
abbrev cX1_init : ByteArray := prog_3_method_1_code
def yX1_init : MethodName := ⟨RX1, "<init>", "()V"⟩
abbrev cX1_cutAnew : ByteArray := prog_3_method_2_code
def yX1_cutAnew : MethodName := ⟨RX1, "cutAnew", "(II)V"⟩
abbrev cX1_layEdges : ByteArray := prog_3_method_3_code
def yX1_layEdges : MethodName := ⟨RX1, "layEdges", "(II)V"⟩
abbrev cX1_setSide : ByteArray := prog_3_method_4_code
def yX1_setSide : MethodName := ⟨RX1, "setSide", "(III)V"⟩
abbrev cX1_pieces : ByteArray := prog_3_method_7_code
def yX1_pieces : MethodName := ⟨RX1, "pieces", "()I"⟩
abbrev cX1_sides : ByteArray := prog_3_method_8_code
def yX1_sides : MethodName := ⟨RX1, "sides", "()I"⟩
abbrev cX1_hasSide : ByteArray := prog_3_method_9_code
def yX1_hasSide : MethodName := ⟨RX1, "hasSide", "(I)Z"⟩
abbrev cX1_hasPiece : ByteArray := prog_3_method_10_code
def yX1_hasPiece : MethodName := ⟨RX1, "hasPiece", "(I)Z"⟩
abbrev cX1_hasEdge : ByteArray := prog_3_method_11_code
def yX1_hasEdge : MethodName := ⟨RX1, "hasEdge", "(II)Z"⟩
abbrev cX1_sideAt : ByteArray := prog_3_method_12_code
def yX1_sideAt : MethodName := ⟨RX1, "sideAt", "(II)I"⟩
abbrev cX1_isFlat : ByteArray := prog_3_method_13_code
def yX1_isFlat : MethodName := ⟨RX1, "isFlat", "(II)Z"⟩
abbrev cX1_nextTo : ByteArray := prog_3_method_14_code
def yX1_nextTo : MethodName := ⟨RX1, "nextTo", "(II)I"⟩
abbrev cX1_setHeight : ByteArray := prog_3_method_15_code
def yX1_setHeight : MethodName := ⟨RX1, "setHeight", "(III)V"⟩
abbrev cX1_heightAt : ByteArray := prog_3_method_16_code
def yX1_heightAt : MethodName := ⟨RX1, "heightAt", "(III)I"⟩
abbrev cX1_edgeHeight : ByteArray := prog_3_method_17_code
def yX1_edgeHeight : MethodName := ⟨RX1, "edgeHeight", "(III)I"⟩
abbrev cX1_farness : ByteArray := prog_3_method_18_code
def yX1_farness : MethodName := ⟨RX1, "farness", "(IIII)I"⟩
def RX2 : String := "CutOnce$Pile"
def TX2 : u_T := fun k => match k with
  | 0 => ("CutOnce$Pile", "pieceOf", "[I", true)
  | 1 => ("CutOnce$Pile", "turnOf", "[I", true)
  | _ => ("CutOnce$Pile", "count", "I", false)
def tyX2 : Nat → FieldType := fun k => match k with
  | 0 => .array .int
  | 1 => .array .int
  | _ => .int
abbrev wsX20 : List Cond := u_ws RX2 TX2 3
theorem nmX2 : ∀ a, a < 3 → ∀ b, b < 3 → a ≠ b → (TX2 a).2.1 ≠ (TX2 b).2.1 := by decide +kernel
theorem tyX2_ok : ∀ k, k < 3 → parseFieldDescriptor (TX2 k).2.2.1 = some (tyX2 k) := by decide +kernel
abbrev cX2_init : ByteArray := prog_4_method_1_code
def yX2_init : MethodName := ⟨RX2, "<init>", "()V"⟩
abbrev cX2_size : ByteArray := prog_4_method_2_code
def yX2_size : MethodName := ⟨RX2, "size", "()I"⟩
abbrev cX2_isFull : ByteArray := prog_4_method_3_code
def yX2_isFull : MethodName := ⟨RX2, "isFull", "()Z"⟩
abbrev cX2_hasPlace : ByteArray := prog_4_method_4_code
def yX2_hasPlace : MethodName := ⟨RX2, "hasPlace", "(I)Z"⟩
abbrev cX2_pieceAt : ByteArray := prog_4_method_5_code
def yX2_pieceAt : MethodName := ⟨RX2, "pieceAt", "(I)I"⟩
abbrev cX2_turnAt : ByteArray := prog_4_method_6_code
def yX2_turnAt : MethodName := ⟨RX2, "turnAt", "(I)I"⟩
abbrev cX2_clearAll : ByteArray := prog_4_method_7_code
def yX2_clearAll : MethodName := ⟨RX2, "clearAll", "()V"⟩
abbrev cX2_append : ByteArray := prog_4_method_8_code
def yX2_append : MethodName := ⟨RX2, "append", "(II)V"⟩
abbrev cX2_setTurn : ByteArray := prog_4_method_9_code
def yX2_setTurn : MethodName := ⟨RX2, "setTurn", "(II)V"⟩
abbrev cX2_swapPieces : ByteArray := prog_4_method_10_code
def yX2_swapPieces : MethodName := ⟨RX2, "swapPieces", "(II)V"⟩
abbrev cX2_removeAt : ByteArray := prog_4_method_11_code
def yX2_removeAt : MethodName := ⟨RX2, "removeAt", "(I)V"⟩
abbrev cX2_timesOf : ByteArray := prog_4_method_12_code
def yX2_timesOf : MethodName := ⟨RX2, "timesOf", "(I)I"⟩
def RX3 : String := "CutOnce$Search"
def TX3 : u_T := fun k => match k with
  | 0 => ("CutOnce$Search", "goal", "LCutOnce$Picture;", true)
  | 1 => ("CutOnce$Search", "pile", "LCutOnce$Pile;", true)
  | 2 => ("CutOnce$Search", "shown", "[I", true)
  | 3 => ("CutOnce$Search", "fitting", "[I", true)
  | 4 => ("CutOnce$Search", "wanted", "[I", true)
  | 5 => ("CutOnce$Search", "used", "[Z", true)
  | 6 => ("CutOnce$Search", "lying", "[I", true)
  | 7 => ("CutOnce$Search", "joinedLying", "[I", true)
  | 8 => ("CutOnce$Search", "joinedOnce", "Z", false)
  | 9 => ("CutOnce$Search", "firstOnly", "Z", false)
  | 10 => ("CutOnce$Search", "spent", "Z", false)
  | 11 => ("CutOnce$Search", "found", "I", false)
  | _ => ("CutOnce$Search", "trialCount", "I", false)
def tyX3 : Nat → FieldType := fun k => match k with
  | 0 => .object "CutOnce$Picture"
  | 1 => .object "CutOnce$Pile"
  | 2 => .array .int
  | 3 => .array .int
  | 4 => .array .int
  | 5 => .array .boolean
  | 6 => .array .int
  | 7 => .array .int
  | 8 => .boolean
  | 9 => .boolean
  | 10 => .boolean
  | 11 => .int
  | _ => .int
abbrev wsX30 : List Cond := u_ws RX3 TX3 13
theorem nmX3 : ∀ a, a < 13 → ∀ b, b < 13 → a ≠ b → (TX3 a).2.1 ≠ (TX3 b).2.1 := by decide +kernel
theorem tyX3_ok : ∀ k, k < 13 → parseFieldDescriptor (TX3 k).2.2.1 = some (tyX3 k) := by decide +kernel
abbrev cX3_init : ByteArray := prog_5_method_1_code
def yX3_init : MethodName := ⟨RX3, "<init>", "(LCutOnce$Picture;LCutOnce$Pile;)V"⟩
abbrev cX3_trialsCounted : ByteArray := prog_5_method_2_code
def yX3_trialsCounted : MethodName := ⟨RX3, "trialsCounted", "()I"⟩
abbrev cX3_hasJoined : ByteArray := prog_5_method_3_code
def yX3_hasJoined : MethodName := ⟨RX3, "hasJoined", "()Z"⟩
abbrev cX3_forgetJoined : ByteArray := prog_5_method_4_code
def yX3_forgetJoined : MethodName := ⟨RX3, "forgetJoined", "()V"⟩
abbrev cX3_joinedFrom : ByteArray := prog_5_method_5_code
def yX3_joinedFrom : MethodName := ⟨RX3, "joinedFrom", "(I)I"⟩
abbrev cX3_joinedTurn : ByteArray := prog_5_method_6_code
def yX3_joinedTurn : MethodName := ⟨RX3, "joinedTurn", "(I)I"⟩
abbrev cX3_countWays : ByteArray := prog_5_method_7_code
def yX3_countWays : MethodName := ⟨RX3, "countWays", "()I"⟩
abbrev cX3_findFirst : ByteArray := prog_5_method_8_code
def yX3_findFirst : MethodName := ⟨RX3, "findFirst", "()I"⟩
abbrev cX3_run : ByteArray := prog_5_method_9_code
def yX3_run : MethodName := ⟨RX3, "run", "(Z)V"⟩
abbrev cX3_readEdges : ByteArray := prog_5_method_10_code
def yX3_readEdges : MethodName := ⟨RX3, "readEdges", "(I)V"⟩
abbrev cX3_codeOf : ByteArray := prog_5_method_11_code
def yX3_codeOf : MethodName := ⟨RX3, "codeOf", "(II)I"⟩
abbrev cX3_mateOf : ByteArray := prog_5_method_12_code
def yX3_mateOf : MethodName := ⟨RX3, "mateOf", "(II)I"⟩
abbrev cX3_fillFrom : ByteArray := prog_5_method_13_code
def yX3_fillFrom : MethodName := ⟨RX3, "fillFrom", "(I)V"⟩
abbrev cX3_lookAround : ByteArray := prog_5_method_14_code
def yX3_lookAround : MethodName := ⟨RX3, "lookAround", "(I)V"⟩
abbrev cX3_fits : ByteArray := prog_5_method_15_code
def yX3_fits : MethodName := ⟨RX3, "fits", "(II)Z"⟩
abbrev cX3_look : ByteArray := prog_5_method_16_code
def yX3_look : MethodName := ⟨RX3, "look", "([II)I"⟩
abbrev cX3_note : ByteArray := prog_5_method_17_code
def yX3_note : MethodName := ⟨RX3, "note", "([III)V"⟩
def RX4 : String := "CutOnce$Sheet"
def TX4 : u_T := fun k => match k with
  | 0 => ("CutOnce$Sheet", "cells", "[I", true)
  | 1 => ("CutOnce$Sheet", "there", "Z", false)
  | 2 => ("CutOnce$Sheet", "lane", "I", false)
  | _ => ("CutOnce$Sheet", "length", "I", false)
def tyX4 : Nat → FieldType := fun k => match k with
  | 0 => .array .int
  | 1 => .boolean
  | 2 => .int
  | _ => .int
abbrev wsX40 : List Cond := u_ws RX4 TX4 4
theorem nmX4 : ∀ a, a < 4 → ∀ b, b < 4 → a ≠ b → (TX4 a).2.1 ≠ (TX4 b).2.1 := by decide +kernel
theorem tyX4_ok : ∀ k, k < 4 → parseFieldDescriptor (TX4 k).2.2.1 = some (tyX4 k) := by decide +kernel
abbrev cX4_init : ByteArray := prog_6_method_1_code
def yX4_init : MethodName := ⟨RX4, "<init>", "()V"⟩
def RX5 : String := "CutOnce"
def TX5 : u_T := fun k => match k with
  | 0 => ("CutOnce", "thePicture", "LCutOnce$Picture;", true)
  | 1 => ("CutOnce", "thePile", "LCutOnce$Pile;", true)
  | 2 => ("CutOnce", "theSearch", "LCutOnce$Search;", true)
  | 3 => ("CutOnce", "theDraw", "LCutOnce$Draw;", true)
  | 4 => ("CutOnce", "sheets", "[LCutOnce$Sheet;", true)
  | 5 => ("CutOnce", "traceLeft", "I", false)
  | _ => ("CutOnce", "latestFault", "I", false)
def tyX5 : Nat → FieldType := fun k => match k with
  | 0 => .object "CutOnce$Picture"
  | 1 => .object "CutOnce$Pile"
  | 2 => .object "CutOnce$Search"
  | 3 => .object "CutOnce$Draw"
  | 4 => .array (.object "CutOnce$Sheet")
  | 5 => .int
  | _ => .int
abbrev wsX50 : List Cond := u_ws RX5 TX5 7
theorem nmX5 : ∀ a, a < 7 → ∀ b, b < 7 → a ≠ b → (TX5 a).2.1 ≠ (TX5 b).2.1 := by decide +kernel
theorem tyX5_ok : ∀ k, k < 7 → parseFieldDescriptor (TX5 k).2.2.1 = some (tyX5 k) := by decide +kernel
abbrev cX5_init : ByteArray := prog_1_method_1_code
def yX5_init : MethodName := ⟨RX5, "<init>", "()V"⟩
abbrev cX5_picture : ByteArray := prog_1_method_2_code
def yX5_picture : MethodName := ⟨RX5, "picture", "(II)I"⟩
abbrev cX5_make : ByteArray := prog_1_method_3_code
def yX5_make : MethodName := ⟨RX5, "make", "(J)I"⟩
abbrev cX5_bend : ByteArray := prog_1_method_4_code
def yX5_bend : MethodName := ⟨RX5, "bend", "(III)J"⟩
abbrev cX5_sideOf : ByteArray := prog_1_method_7_code
def yX5_sideOf : MethodName := ⟨RX5, "sideOf", "(II)I"⟩
abbrev cX5_far : ByteArray := prog_1_method_9_code
def yX5_far : MethodName := ⟨RX5, "far", "(IIII)I"⟩
abbrev cX5_lay : ByteArray := prog_1_method_14_code
def yX5_lay : MethodName := ⟨RX5, "lay", "(II)I"⟩
abbrev cX5_heap : ByteArray := prog_1_method_15_code
def yX5_heap : MethodName := ⟨RX5, "heap", "(J)I"⟩
abbrev cX5_take : ByteArray := prog_1_method_16_code
def yX5_take : MethodName := ⟨RX5, "take", "(I)I"⟩
abbrev cX5_heaped : ByteArray := prog_1_method_17_code
def yX5_heaped : MethodName := ⟨RX5, "heaped", "(II)I"⟩
abbrev cX5_missing : ByteArray := prog_1_method_18_code
def yX5_missing : MethodName := ⟨RX5, "missing", "(I)I"⟩
abbrev cX5_missed : ByteArray := prog_1_method_19_code
def yX5_missed : MethodName := ⟨RX5, "missed", "(II)I"⟩
abbrev cX5_ways : ByteArray := prog_1_method_20_code
def yX5_ways : MethodName := ⟨RX5, "ways", "()I"⟩
abbrev cX5_join : ByteArray := prog_1_method_21_code
def yX5_join : MethodName := ⟨RX5, "join", "()I"⟩
abbrev cX5_joined : ByteArray := prog_1_method_22_code
def yX5_joined : MethodName := ⟨RX5, "joined", "(II)I"⟩
abbrev cX5_trials : ByteArray := prog_1_method_23_code
def yX5_trials : MethodName := ⟨RX5, "trials", "()I"⟩
abbrev cX5_known : ByteArray := prog_1_method_24_code
def yX5_known : MethodName := ⟨RX5, "known", "(I)I"⟩
abbrev cX5_isHeightPlace : ByteArray := prog_1_method_36_code
def yX5_isHeightPlace : MethodName := ⟨RX5, "isHeightPlace", "(I)Z"⟩
abbrev cX5_isHeight : ByteArray := prog_1_method_37_code
def yX5_isHeight : MethodName := ⟨RX5, "isHeight", "(I)Z"⟩
abbrev cX5_isMissingWhat : ByteArray := prog_1_method_40_code
def yX5_isMissingWhat : MethodName := ⟨RX5, "isMissingWhat", "(I)Z"⟩
abbrev cX5_isMissing : ByteArray := prog_1_method_43_code
def yX5_isMissing : MethodName := ⟨RX5, "isMissing", "(II)Z"⟩
abbrev cX5_countMissing : ByteArray := prog_1_method_44_code
def yX5_countMissing : MethodName := ⟨RX5, "countMissing", "(I)I"⟩
abbrev cX5_missingPiece : ByteArray := prog_1_method_45_code
def yX5_missingPiece : MethodName := ⟨RX5, "missingPiece", "(II)I"⟩
def RX6 : String := "CutOnceModel"
def TX6 : u_T := fun k => match k with
  | _ => ("", "", "", false)
def tyX6 : Nat → FieldType := fun k => match k with
  | _ => .int
abbrev wsX60 : List Cond := u_ws RX6 TX6 0
theorem nmX6 : ∀ a, a < 0 → ∀ b, b < 0 → a ≠ b → (TX6 a).2.1 ≠ (TX6 b).2.1 := by decide +kernel
theorem tyX6_ok : ∀ k, k < 0 → parseFieldDescriptor (TX6 k).2.2.1 = some (tyX6 k) := by decide +kernel
def RJ9 : String := "java/lang/Math"
def TJ9 : u_T := fun k => match k with
  | _ => ("", "", "", false)
def tyJ9 : Nat → FieldType := fun k => match k with
  | _ => .int
abbrev wsJ90 : List Cond := u_ws RJ9 TJ9 0
theorem nmJ9 : ∀ a, a < 0 → ∀ b, b < 0 → a ≠ b → (TJ9 a).2.1 ≠ (TJ9 b).2.1 := by decide +kernel
theorem tyJ9_ok : ∀ k, k < 0 → parseFieldDescriptor (TJ9 k).2.2.1 = some (tyJ9 k) := by decide +kernel
abbrev cJ9_abs_0f7a4 : ByteArray := prog_9_method_59_code
def yJ9_abs_0f7a4 : MethodName := ⟨RJ9, "abs", "(I)I"⟩
abbrev cJ9_min_7cf53 : ByteArray := prog_9_method_69_code
def yJ9_min_7cf53 : MethodName := ⟨RJ9, "min", "(II)I"⟩
def RL : String := "CutOnceLaw"
abbrev cL_cell : ByteArray := method_2_code
def yL_cell : MethodName := ⟨RL, "cell", "([II)I"⟩
abbrev cL_low : ByteArray := method_3_code
def yL_low : MethodName := ⟨RL, "low", "(II)I"⟩
abbrev cL_fits : ByteArray := method_4_code
def yL_fits : MethodName := ⟨RL, "fits", "(LCutOnce;IIIII[I[I)Z"⟩
abbrev cL_law : ByteArray := code
def yL_law : MethodName := ⟨RL, "law", "([I)Z"⟩
def wsX0_init : List Cond := .code yX0_init cX0_init 1 none :: ([.methodLink RX0 1 objectInit, .instanceMethod objectInit, .code objectInit ⟨#[0xb1]⟩ 1 none])
def wsX0_begin : List Cond := .code yX0_begin cX0_begin 3 none :: ([.fieldLink RX0 7 "CutOnce$Draw" "now" "J"] ++ wsX00)
def wsX0_below : List Cond := .code yX0_below cX0_below 2 (some .int) :: ([.fieldLink RX0 7 "CutOnce$Draw" "now" "J", .constantLong RX0 13 (6364136223846793005), .constantLong RX0 15 (1442695040888963407), .constantLong RX0 17 (2147483647), .constantLong RX0 19 (4096)] ++ wsX00)
def wsX1_setSide : List Cond := .code yX1_setSide cX1_setSide 5 none :: ([.fieldLink RX1 15 "CutOnce$Picture" "sideOfEdge" "[I"] ++ wsX10)
def wsX1_layEdges : List Cond := .code yX1_layEdges cX1_layEdges 6 none :: ([.fieldLink RX1 22 "CutOnce$Picture" "w" "I", .fieldLink RX1 26 "CutOnce$Picture" "h" "I", .methodLink RX1 32 yX1_setSide, .instanceMethod yX1_setSide, .selects RX1 yX1_setSide yX1_setSide, .initialized RX1, .code yX1_setSide cX1_setSide 5 none, .fieldLink RX1 15 "CutOnce$Picture" "sideOfEdge" "[I"] ++ wsX10)
def wsX1_cutAnew : List Cond := .code yX1_cutAnew cX1_cutAnew 5 none :: ([.fieldLink RX1 22 "CutOnce$Picture" "w" "I", .fieldLink RX1 26 "CutOnce$Picture" "h" "I", .fieldLink RX1 9 "CutOnce$Picture" "heights" "[I", .methodLink RX1 29 yX1_layEdges, .instanceMethod yX1_layEdges, .selects RX1 yX1_layEdges yX1_layEdges, .initialized RX1, .code yX1_layEdges cX1_layEdges 6 none, .methodLink RX1 32 yX1_setSide, .instanceMethod yX1_setSide, .selects RX1 yX1_setSide yX1_setSide, .code yX1_setSide cX1_setSide 5 none, .fieldLink RX1 15 "CutOnce$Picture" "sideOfEdge" "[I"] ++ wsX10)
def wsX1_init : List Cond := .code yX1_init cX1_init 1 none :: ([.methodLink RX1 3 objectInit, .instanceMethod objectInit, .code objectInit ⟨#[0xb1]⟩ 1 none, .arrayClass .int, .fieldLink RX1 9 "CutOnce$Picture" "heights" "[I", .fieldLink RX1 15 "CutOnce$Picture" "sideOfEdge" "[I", .methodLink RX1 18 yX1_cutAnew, .instanceMethod yX1_cutAnew, .selects RX1 yX1_cutAnew yX1_cutAnew, .initialized RX1, .code yX1_cutAnew cX1_cutAnew 5 none, .fieldLink RX1 22 "CutOnce$Picture" "w" "I", .fieldLink RX1 26 "CutOnce$Picture" "h" "I", .methodLink RX1 29 yX1_layEdges, .instanceMethod yX1_layEdges, .selects RX1 yX1_layEdges yX1_layEdges, .code yX1_layEdges cX1_layEdges 6 none, .methodLink RX1 32 yX1_setSide, .instanceMethod yX1_setSide, .selects RX1 yX1_setSide yX1_setSide, .code yX1_setSide cX1_setSide 5 none] ++ wsX10)
def wsX1_pieces : List Cond := .code yX1_pieces cX1_pieces 1 (some .int) :: ([.fieldLink RX1 22 "CutOnce$Picture" "w" "I", .fieldLink RX1 26 "CutOnce$Picture" "h" "I"] ++ wsX10)
def wsX1_sides : List Cond := .code yX1_sides cX1_sides 1 (some .int) :: ([.fieldLink RX1 22 "CutOnce$Picture" "w" "I", .fieldLink RX1 26 "CutOnce$Picture" "h" "I"] ++ wsX10)
def wsX1_hasSide : List Cond := .code yX1_hasSide cX1_hasSide 2 (some .boolean) :: ([.methodLink RX1 36 yX1_sides, .instanceMethod yX1_sides, .selects RX1 yX1_sides yX1_sides, .initialized RX1, .code yX1_sides cX1_sides 1 (some .int), .fieldLink RX1 22 "CutOnce$Picture" "w" "I", .fieldLink RX1 26 "CutOnce$Picture" "h" "I"] ++ wsX10)
def wsX1_hasPiece : List Cond := .code yX1_hasPiece cX1_hasPiece 2 (some .boolean) :: ([.methodLink RX1 40 yX1_pieces, .instanceMethod yX1_pieces, .selects RX1 yX1_pieces yX1_pieces, .initialized RX1, .code yX1_pieces cX1_pieces 1 (some .int), .fieldLink RX1 22 "CutOnce$Picture" "w" "I", .fieldLink RX1 26 "CutOnce$Picture" "h" "I"] ++ wsX10)
def wsX1_hasEdge : List Cond := .code yX1_hasEdge cX1_hasEdge 3 (some .boolean) :: ([.methodLink RX1 43 yX1_hasPiece, .instanceMethod yX1_hasPiece, .selects RX1 yX1_hasPiece yX1_hasPiece, .initialized RX1, .code yX1_hasPiece cX1_hasPiece 2 (some .boolean), .methodLink RX1 40 yX1_pieces, .instanceMethod yX1_pieces, .selects RX1 yX1_pieces yX1_pieces, .code yX1_pieces cX1_pieces 1 (some .int), .fieldLink RX1 22 "CutOnce$Picture" "w" "I", .fieldLink RX1 26 "CutOnce$Picture" "h" "I"] ++ wsX10)
def wsX1_sideAt : List Cond := .code yX1_sideAt cX1_sideAt 4 (some .int) :: ([.fieldLink RX1 15 "CutOnce$Picture" "sideOfEdge" "[I"] ++ wsX10)
def wsX1_isFlat : List Cond := .code yX1_isFlat cX1_isFlat 3 (some .boolean) :: ([.methodLink RX1 47 yX1_sideAt, .instanceMethod yX1_sideAt, .selects RX1 yX1_sideAt yX1_sideAt, .initialized RX1, .code yX1_sideAt cX1_sideAt 4 (some .int), .fieldLink RX1 15 "CutOnce$Picture" "sideOfEdge" "[I"] ++ wsX10)
def wsX1_nextTo : List Cond := .code yX1_nextTo cX1_nextTo 3 (some .int) :: ([.fieldLink RX1 22 "CutOnce$Picture" "w" "I"] ++ wsX10)
def wsX1_setHeight : List Cond := .code yX1_setHeight cX1_setHeight 5 none :: ([.fieldLink RX1 9 "CutOnce$Picture" "heights" "[I"] ++ wsX10)
def wsX1_heightAt : List Cond := .code yX1_heightAt cX1_heightAt 5 (some .int) :: ([.fieldLink RX1 9 "CutOnce$Picture" "heights" "[I"] ++ wsX10)
def wsX1_edgeHeight : List Cond := .code yX1_edgeHeight cX1_edgeHeight 5 (some .int) :: ([.methodLink RX1 47 yX1_sideAt, .instanceMethod yX1_sideAt, .selects RX1 yX1_sideAt yX1_sideAt, .initialized RX1, .code yX1_sideAt cX1_sideAt 4 (some .int), .fieldLink RX1 15 "CutOnce$Picture" "sideOfEdge" "[I", .methodLink RX1 51 yX1_heightAt, .instanceMethod yX1_heightAt, .selects RX1 yX1_heightAt yX1_heightAt, .code yX1_heightAt cX1_heightAt 5 (some .int), .fieldLink RX1 9 "CutOnce$Picture" "heights" "[I"] ++ wsX10)
def wsX1_farness : List Cond := .code yX1_farness cX1_farness 7 (some .int) :: ([.methodLink RX1 58 Lib.Math.abs.name, .static Lib.Math.abs.name, .initialized "java/lang/Math", .code Lib.Math.abs.name Lib.Math.abs.code 1 (some .int), .methodLink RX1 55 yX1_edgeHeight, .instanceMethod yX1_edgeHeight, .selects RX1 yX1_edgeHeight yX1_edgeHeight, .initialized RX1, .code yX1_edgeHeight cX1_edgeHeight 5 (some .int), .methodLink RX1 47 yX1_sideAt, .instanceMethod yX1_sideAt, .selects RX1 yX1_sideAt yX1_sideAt, .code yX1_sideAt cX1_sideAt 4 (some .int), .fieldLink RX1 15 "CutOnce$Picture" "sideOfEdge" "[I", .methodLink RX1 51 yX1_heightAt, .instanceMethod yX1_heightAt, .selects RX1 yX1_heightAt yX1_heightAt, .code yX1_heightAt cX1_heightAt 5 (some .int), .fieldLink RX1 9 "CutOnce$Picture" "heights" "[I"] ++ wsX10)
def wsX2_init : List Cond := .code yX2_init cX2_init 1 none :: ([.methodLink RX2 3 objectInit, .instanceMethod objectInit, .code objectInit ⟨#[0xb1]⟩ 1 none, .arrayClass .int, .fieldLink RX2 9 "CutOnce$Pile" "pieceOf" "[I", .fieldLink RX2 15 "CutOnce$Pile" "turnOf" "[I"] ++ wsX20)
def wsX2_size : List Cond := .code yX2_size cX2_size 1 (some .int) :: ([.fieldLink RX2 18 "CutOnce$Pile" "count" "I"] ++ wsX20)
def wsX2_isFull : List Cond := .code yX2_isFull cX2_isFull 1 (some .boolean) :: ([.fieldLink RX2 18 "CutOnce$Pile" "count" "I"] ++ wsX20)
def wsX2_hasPlace : List Cond := .code yX2_hasPlace cX2_hasPlace 2 (some .boolean) :: ([.fieldLink RX2 18 "CutOnce$Pile" "count" "I"] ++ wsX20)
def wsX2_pieceAt : List Cond := .code yX2_pieceAt cX2_pieceAt 2 (some .int) :: ([.fieldLink RX2 9 "CutOnce$Pile" "pieceOf" "[I", .methodLink RX2 22 yX2_hasPlace, .instanceMethod yX2_hasPlace, .selects RX2 yX2_hasPlace yX2_hasPlace, .initialized RX2, .code yX2_hasPlace cX2_hasPlace 2 (some .boolean), .fieldLink RX2 18 "CutOnce$Pile" "count" "I"] ++ wsX20)
def wsX2_turnAt : List Cond := .code yX2_turnAt cX2_turnAt 2 (some .int) :: ([.fieldLink RX2 15 "CutOnce$Pile" "turnOf" "[I", .methodLink RX2 22 yX2_hasPlace, .instanceMethod yX2_hasPlace, .selects RX2 yX2_hasPlace yX2_hasPlace, .initialized RX2, .code yX2_hasPlace cX2_hasPlace 2 (some .boolean), .fieldLink RX2 18 "CutOnce$Pile" "count" "I"] ++ wsX20)
def wsX2_clearAll : List Cond := .code yX2_clearAll cX2_clearAll 1 none :: ([.fieldLink RX2 18 "CutOnce$Pile" "count" "I"] ++ wsX20)
def wsX2_append : List Cond := .code yX2_append cX2_append 3 none :: ([.fieldLink RX2 9 "CutOnce$Pile" "pieceOf" "[I", .fieldLink RX2 18 "CutOnce$Pile" "count" "I", .fieldLink RX2 15 "CutOnce$Pile" "turnOf" "[I", .methodLink RX2 26 yX2_isFull, .instanceMethod yX2_isFull, .selects RX2 yX2_isFull yX2_isFull, .initialized RX2, .code yX2_isFull cX2_isFull 1 (some .boolean)] ++ wsX20)
def wsX2_setTurn : List Cond := .code yX2_setTurn cX2_setTurn 3 none :: ([.fieldLink RX2 15 "CutOnce$Pile" "turnOf" "[I", .methodLink RX2 22 yX2_hasPlace, .instanceMethod yX2_hasPlace, .selects RX2 yX2_hasPlace yX2_hasPlace, .initialized RX2, .code yX2_hasPlace cX2_hasPlace 2 (some .boolean), .fieldLink RX2 18 "CutOnce$Pile" "count" "I"] ++ wsX20)
def wsX2_swapPieces : List Cond := .code yX2_swapPieces cX2_swapPieces 4 none :: ([.fieldLink RX2 9 "CutOnce$Pile" "pieceOf" "[I", .methodLink RX2 22 yX2_hasPlace, .instanceMethod yX2_hasPlace, .selects RX2 yX2_hasPlace yX2_hasPlace, .initialized RX2, .code yX2_hasPlace cX2_hasPlace 2 (some .boolean), .fieldLink RX2 18 "CutOnce$Pile" "count" "I"] ++ wsX20)
def wsX2_removeAt : List Cond := .code yX2_removeAt cX2_removeAt 3 none :: ([.fieldLink RX2 18 "CutOnce$Pile" "count" "I", .fieldLink RX2 9 "CutOnce$Pile" "pieceOf" "[I", .fieldLink RX2 15 "CutOnce$Pile" "turnOf" "[I", .methodLink RX2 22 yX2_hasPlace, .instanceMethod yX2_hasPlace, .selects RX2 yX2_hasPlace yX2_hasPlace, .initialized RX2, .code yX2_hasPlace cX2_hasPlace 2 (some .boolean)] ++ wsX20)
def wsX2_timesOf : List Cond := .code yX2_timesOf cX2_timesOf 4 (some .int) :: ([.fieldLink RX2 18 "CutOnce$Pile" "count" "I", .fieldLink RX2 9 "CutOnce$Pile" "pieceOf" "[I"] ++ wsX20)
def wsX3_init : List Cond := .code yX3_init cX3_init 3 none :: ([.methodLink RX3 3 objectInit, .instanceMethod objectInit, .code objectInit ⟨#[0xb1]⟩ 1 none, .arrayClass .int, .fieldLink RX3 9 "CutOnce$Search" "shown" "[I", .fieldLink RX3 15 "CutOnce$Search" "fitting" "[I", .fieldLink RX3 18 "CutOnce$Search" "wanted" "[I", .arrayClass .boolean, .fieldLink RX3 21 "CutOnce$Search" "used" "[Z", .fieldLink RX3 25 "CutOnce$Search" "lying" "[I", .fieldLink RX3 28 "CutOnce$Search" "joinedLying" "[I", .fieldLink RX3 31 "CutOnce$Search" "goal" "LCutOnce$Picture;", .fieldLink RX3 35 "CutOnce$Search" "pile" "LCutOnce$Pile;"] ++ wsX30)
def wsX3_trialsCounted : List Cond := .code yX3_trialsCounted cX3_trialsCounted 1 (some .int) :: ([.fieldLink RX3 39 "CutOnce$Search" "trialCount" "I"] ++ wsX30)
def wsX3_hasJoined : List Cond := .code yX3_hasJoined cX3_hasJoined 1 (some .boolean) :: ([.fieldLink RX3 43 "CutOnce$Search" "joinedOnce" "Z"] ++ wsX30)
def wsX3_forgetJoined : List Cond := .code yX3_forgetJoined cX3_forgetJoined 1 none :: ([.fieldLink RX3 43 "CutOnce$Search" "joinedOnce" "Z"] ++ wsX30)
def wsX3_look : List Cond := .code yX3_look cX3_look 2 (some .int) :: ([])
def wsX3_joinedFrom : List Cond := .code yX3_joinedFrom cX3_joinedFrom 2 (some .int) :: ([.fieldLink RX3 28 "CutOnce$Search" "joinedLying" "[I", .methodLink RX3 47 yX3_look, .static yX3_look, .initialized RX3, .code yX3_look cX3_look 2 (some .int)] ++ wsX30)
def wsX3_joinedTurn : List Cond := .code yX3_joinedTurn cX3_joinedTurn 2 (some .int) :: ([.fieldLink RX3 28 "CutOnce$Search" "joinedLying" "[I", .methodLink RX3 47 yX3_look, .static yX3_look, .initialized RX3, .code yX3_look cX3_look 2 (some .int)] ++ wsX30)
def wsX3_codeOf : List Cond := .code yX3_codeOf cX3_codeOf 5 (some .int) :: ([.fieldLink RX3 31 "CutOnce$Search" "goal" "LCutOnce$Picture;", .methodLink RX3 104 yX1_edgeHeight, .instanceMethod yX1_edgeHeight, .selects RX1 yX1_edgeHeight yX1_edgeHeight, .initialized RX1, .code yX1_edgeHeight cX1_edgeHeight 5 (some .int), .methodLink RX1 47 yX1_sideAt, .instanceMethod yX1_sideAt, .selects RX1 yX1_sideAt yX1_sideAt, .code yX1_sideAt cX1_sideAt 4 (some .int), .fieldLink RX1 15 "CutOnce$Picture" "sideOfEdge" "[I", .methodLink RX1 51 yX1_heightAt, .instanceMethod yX1_heightAt, .selects RX1 yX1_heightAt yX1_heightAt, .code yX1_heightAt cX1_heightAt 5 (some .int), .fieldLink RX1 9 "CutOnce$Picture" "heights" "[I"] ++ wsX30 ++ wsX10)
def wsX3_mateOf : List Cond := .code yX3_mateOf cX3_mateOf 5 (some .int) :: ([.fieldLink RX3 31 "CutOnce$Search" "goal" "LCutOnce$Picture;", .methodLink RX3 104 yX1_edgeHeight, .instanceMethod yX1_edgeHeight, .selects RX1 yX1_edgeHeight yX1_edgeHeight, .initialized RX1, .code yX1_edgeHeight cX1_edgeHeight 5 (some .int), .methodLink RX1 47 yX1_sideAt, .instanceMethod yX1_sideAt, .selects RX1 yX1_sideAt yX1_sideAt, .code yX1_sideAt cX1_sideAt 4 (some .int), .fieldLink RX1 15 "CutOnce$Picture" "sideOfEdge" "[I", .methodLink RX1 51 yX1_heightAt, .instanceMethod yX1_heightAt, .selects RX1 yX1_heightAt yX1_heightAt, .code yX1_heightAt cX1_heightAt 5 (some .int), .fieldLink RX1 9 "CutOnce$Picture" "heights" "[I"] ++ wsX30 ++ wsX10)
def wsX3_note : List Cond := .code yX3_note cX3_note 3 none :: ([])
def wsX3_readEdges_r1 : List Cond := [Cond.fieldLink RX3 35 "CutOnce$Search" "pile" "LCutOnce$Pile;", Cond.fieldLink RX3 31 "CutOnce$Search" "goal" "LCutOnce$Picture;", Cond.fieldLink RX3 9 "CutOnce$Search" "shown" "[I", Cond.fieldLink RX3 15 "CutOnce$Search" "fitting" "[I", Cond.methodLink RX3 86 yX2_pieceAt, Cond.instanceMethod yX2_pieceAt, Cond.selects RX2 yX2_pieceAt yX2_pieceAt, Cond.initialized RX2, Cond.code yX2_pieceAt cX2_pieceAt 2 (some .int), Cond.fieldLink RX2 9 "CutOnce$Pile" "pieceOf" "[I", Cond.methodLink RX2 22 yX2_hasPlace, Cond.instanceMethod yX2_hasPlace, Cond.selects RX2 yX2_hasPlace yX2_hasPlace, Cond.code yX2_hasPlace cX2_hasPlace 2 (some .boolean), Cond.fieldLink RX2 18 "CutOnce$Pile" "count" "I", Cond.methodLink RX3 90 yX1_isFlat, Cond.instanceMethod yX1_isFlat, Cond.selects RX1 yX1_isFlat yX1_isFlat, Cond.initialized RX1, Cond.code yX1_isFlat cX1_isFlat 3 (some .boolean), Cond.methodLink RX1 47 yX1_sideAt, Cond.instanceMethod yX1_sideAt, Cond.selects RX1 yX1_sideAt yX1_sideAt, Cond.code yX1_sideAt cX1_sideAt 4 (some .int)]
def wsX3_readEdges_r2 : List Cond := [Cond.fieldLink RX1 15 "CutOnce$Picture" "sideOfEdge" "[I", Cond.methodLink RX3 94 yX3_codeOf, Cond.instanceMethod yX3_codeOf, Cond.selects RX3 yX3_codeOf yX3_codeOf, Cond.initialized RX3, Cond.code yX3_codeOf cX3_codeOf 5 (some .int), Cond.methodLink RX3 104 yX1_edgeHeight, Cond.instanceMethod yX1_edgeHeight, Cond.selects RX1 yX1_edgeHeight yX1_edgeHeight, Cond.code yX1_edgeHeight cX1_edgeHeight 5 (some .int), Cond.methodLink RX1 51 yX1_heightAt, Cond.instanceMethod yX1_heightAt, Cond.selects RX1 yX1_heightAt yX1_heightAt, Cond.code yX1_heightAt cX1_heightAt 5 (some .int), Cond.fieldLink RX1 9 "CutOnce$Picture" "heights" "[I", Cond.methodLink RX3 98 yX3_mateOf, Cond.instanceMethod yX3_mateOf, Cond.selects RX3 yX3_mateOf yX3_mateOf, Cond.code yX3_mateOf cX3_mateOf 5 (some .int), Cond.methodLink RX3 101 yX2_turnAt, Cond.instanceMethod yX2_turnAt, Cond.selects RX2 yX2_turnAt yX2_turnAt, Cond.code yX2_turnAt cX2_turnAt 2 (some .int), Cond.fieldLink RX2 15 "CutOnce$Pile" "turnOf" "[I"]
def wsX3_readEdges_r3 : List Cond := [Cond.methodLink RX3 67 yX3_note, Cond.static yX3_note, Cond.code yX3_note cX3_note 3 none]
def wsX3_readEdges : List Cond := .code yX3_readEdges cX3_readEdges 9 none :: ((wsX3_readEdges_r1 ++ (wsX3_readEdges_r2 ++ wsX3_readEdges_r3)) ++ wsX30 ++ wsX20 ++ wsX10)
def wsX3_lookAround : List Cond := .code yX3_lookAround cX3_lookAround 6 none :: ([.fieldLink RX3 18 "CutOnce$Search" "wanted" "[I", .fieldLink RX3 31 "CutOnce$Search" "goal" "LCutOnce$Picture;", .fieldLink RX3 15 "CutOnce$Search" "fitting" "[I", .fieldLink RX3 25 "CutOnce$Search" "lying" "[I", .methodLink RX3 120 yX1_nextTo, .instanceMethod yX1_nextTo, .selects RX1 yX1_nextTo yX1_nextTo, .initialized RX1, .code yX1_nextTo cX1_nextTo 3 (some .int), .fieldLink RX1 22 "CutOnce$Picture" "w" "I", .methodLink RX3 90 yX1_isFlat, .instanceMethod yX1_isFlat, .selects RX1 yX1_isFlat yX1_isFlat, .code yX1_isFlat cX1_isFlat 3 (some .boolean), .methodLink RX1 47 yX1_sideAt, .instanceMethod yX1_sideAt, .selects RX1 yX1_sideAt yX1_sideAt, .code yX1_sideAt cX1_sideAt 4 (some .int), .fieldLink RX1 15 "CutOnce$Picture" "sideOfEdge" "[I", .methodLink RX3 47 yX3_look, .static yX3_look, .initialized RX3, .code yX3_look cX3_look 2 (some .int)] ++ wsX30 ++ wsX10)
def wsX3_fits : List Cond := .code yX3_fits cX3_fits 8 (some .boolean) :: ([.fieldLink RX3 18 "CutOnce$Search" "wanted" "[I", .fieldLink RX3 9 "CutOnce$Search" "shown" "[I"] ++ wsX30)
def wsX3_fillFrom_r1 : List Cond := [Cond.fieldLink RX3 31 "CutOnce$Search" "goal" "LCutOnce$Picture;", Cond.fieldLink RX3 58 "CutOnce$Search" "found" "I", Cond.fieldLink RX3 35 "CutOnce$Search" "pile" "LCutOnce$Pile;", Cond.fieldLink RX3 21 "CutOnce$Search" "used" "[Z", Cond.methodLink RX3 111 Lib.Math.min.name, Cond.static Lib.Math.min.name, Cond.initialized "java/lang/Math", Cond.code Lib.Math.min.name Lib.Math.min.code 2 (some .int), Cond.fieldLink RX3 39 "CutOnce$Search" "trialCount" "I", Cond.constant RX3 116 (60000), Cond.fieldLink RX3 55 "CutOnce$Search" "spent" "Z", Cond.fieldLink RX3 25 "CutOnce$Search" "lying" "[I", Cond.fieldLink RX3 80 "CutOnce$Search" "firstOnly" "Z", Cond.methodLink RX3 61 yX1_pieces, Cond.instanceMethod yX1_pieces, Cond.selects RX1 yX1_pieces yX1_pieces, Cond.initialized RX1, Cond.code yX1_pieces cX1_pieces 1 (some .int), Cond.fieldLink RX1 22 "CutOnce$Picture" "w" "I", Cond.fieldLink RX1 26 "CutOnce$Picture" "h" "I", Cond.methodLink RX3 108 yX3_lookAround, Cond.instanceMethod yX3_lookAround, Cond.selects RX3 yX3_lookAround yX3_lookAround, Cond.initialized RX3]
def wsX3_fillFrom_r2 : List Cond := [Cond.code yX3_lookAround cX3_lookAround 6 none, Cond.fieldLink RX3 18 "CutOnce$Search" "wanted" "[I", Cond.fieldLink RX3 15 "CutOnce$Search" "fitting" "[I", Cond.methodLink RX3 120 yX1_nextTo, Cond.instanceMethod yX1_nextTo, Cond.selects RX1 yX1_nextTo yX1_nextTo, Cond.code yX1_nextTo cX1_nextTo 3 (some .int), Cond.methodLink RX3 90 yX1_isFlat, Cond.instanceMethod yX1_isFlat, Cond.selects RX1 yX1_isFlat yX1_isFlat, Cond.code yX1_isFlat cX1_isFlat 3 (some .boolean), Cond.methodLink RX1 47 yX1_sideAt, Cond.instanceMethod yX1_sideAt, Cond.selects RX1 yX1_sideAt yX1_sideAt, Cond.code yX1_sideAt cX1_sideAt 4 (some .int), Cond.fieldLink RX1 15 "CutOnce$Picture" "sideOfEdge" "[I", Cond.methodLink RX3 47 yX3_look, Cond.static yX3_look, Cond.code yX3_look cX3_look 2 (some .int), Cond.methodLink RX3 71 yX2_size, Cond.instanceMethod yX2_size, Cond.selects RX2 yX2_size yX2_size, Cond.initialized RX2, Cond.code yX2_size cX2_size 1 (some .int)]
def wsX3_fillFrom_r3 : List Cond := [Cond.fieldLink RX2 18 "CutOnce$Pile" "count" "I", Cond.methodLink RX3 117 yX3_fits, Cond.instanceMethod yX3_fits, Cond.selects RX3 yX3_fits yX3_fits, Cond.code yX3_fits cX3_fits 8 (some .boolean), Cond.fieldLink RX3 9 "CutOnce$Search" "shown" "[I", Cond.methodLink RX3 67 yX3_note, Cond.static yX3_note, Cond.code yX3_note cX3_note 3 none, Cond.methodLink RX3 83 yX3_fillFrom, Cond.instanceMethod yX3_fillFrom, Cond.selects RX3 yX3_fillFrom yX3_fillFrom]
def wsX3_fillFrom : List Cond := .code yX3_fillFrom cX3_fillFrom 5 none :: ((wsX3_fillFrom_r1 ++ (wsX3_fillFrom_r2 ++ wsX3_fillFrom_r3)) ++ wsX30 ++ wsX10 ++ wsX20)
def wsX3_run_r1 : List Cond := [Cond.fieldLink RX3 21 "CutOnce$Search" "used" "[Z", Cond.fieldLink RX3 35 "CutOnce$Search" "pile" "LCutOnce$Pile;", Cond.fieldLink RX3 80 "CutOnce$Search" "firstOnly" "Z", Cond.fieldLink RX3 55 "CutOnce$Search" "spent" "Z", Cond.fieldLink RX3 58 "CutOnce$Search" "found" "I", Cond.fieldLink RX3 39 "CutOnce$Search" "trialCount" "I", Cond.methodLink RX3 71 yX2_size, Cond.instanceMethod yX2_size, Cond.selects RX2 yX2_size yX2_size, Cond.initialized RX2, Cond.code yX2_size cX2_size 1 (some .int), Cond.fieldLink RX2 18 "CutOnce$Pile" "count" "I", Cond.methodLink RX3 76 yX3_readEdges, Cond.instanceMethod yX3_readEdges, Cond.selects RX3 yX3_readEdges yX3_readEdges, Cond.initialized RX3, Cond.code yX3_readEdges cX3_readEdges 9 none, Cond.fieldLink RX3 31 "CutOnce$Search" "goal" "LCutOnce$Picture;", Cond.fieldLink RX3 9 "CutOnce$Search" "shown" "[I", Cond.fieldLink RX3 15 "CutOnce$Search" "fitting" "[I", Cond.methodLink RX3 86 yX2_pieceAt, Cond.instanceMethod yX2_pieceAt, Cond.selects RX2 yX2_pieceAt yX2_pieceAt, Cond.code yX2_pieceAt cX2_pieceAt 2 (some .int)]
def wsX3_run_r2 : List Cond := [Cond.fieldLink RX2 9 "CutOnce$Pile" "pieceOf" "[I", Cond.methodLink RX2 22 yX2_hasPlace, Cond.instanceMethod yX2_hasPlace, Cond.selects RX2 yX2_hasPlace yX2_hasPlace, Cond.code yX2_hasPlace cX2_hasPlace 2 (some .boolean), Cond.methodLink RX3 90 yX1_isFlat, Cond.instanceMethod yX1_isFlat, Cond.selects RX1 yX1_isFlat yX1_isFlat, Cond.initialized RX1, Cond.code yX1_isFlat cX1_isFlat 3 (some .boolean), Cond.methodLink RX1 47 yX1_sideAt, Cond.instanceMethod yX1_sideAt, Cond.selects RX1 yX1_sideAt yX1_sideAt, Cond.code yX1_sideAt cX1_sideAt 4 (some .int), Cond.fieldLink RX1 15 "CutOnce$Picture" "sideOfEdge" "[I", Cond.methodLink RX3 94 yX3_codeOf, Cond.instanceMethod yX3_codeOf, Cond.selects RX3 yX3_codeOf yX3_codeOf, Cond.code yX3_codeOf cX3_codeOf 5 (some .int), Cond.methodLink RX3 104 yX1_edgeHeight, Cond.instanceMethod yX1_edgeHeight, Cond.selects RX1 yX1_edgeHeight yX1_edgeHeight, Cond.code yX1_edgeHeight cX1_edgeHeight 5 (some .int), Cond.methodLink RX1 51 yX1_heightAt]
def wsX3_run_r3 : List Cond := [Cond.instanceMethod yX1_heightAt, Cond.selects RX1 yX1_heightAt yX1_heightAt, Cond.code yX1_heightAt cX1_heightAt 5 (some .int), Cond.fieldLink RX1 9 "CutOnce$Picture" "heights" "[I", Cond.methodLink RX3 98 yX3_mateOf, Cond.instanceMethod yX3_mateOf, Cond.selects RX3 yX3_mateOf yX3_mateOf, Cond.code yX3_mateOf cX3_mateOf 5 (some .int), Cond.methodLink RX3 101 yX2_turnAt, Cond.instanceMethod yX2_turnAt, Cond.selects RX2 yX2_turnAt yX2_turnAt, Cond.code yX2_turnAt cX2_turnAt 2 (some .int), Cond.fieldLink RX2 15 "CutOnce$Pile" "turnOf" "[I", Cond.methodLink RX3 67 yX3_note, Cond.static yX3_note, Cond.code yX3_note cX3_note 3 none, Cond.methodLink RX3 83 yX3_fillFrom, Cond.instanceMethod yX3_fillFrom, Cond.selects RX3 yX3_fillFrom yX3_fillFrom, Cond.code yX3_fillFrom cX3_fillFrom 5 none, Cond.methodLink RX3 111 Lib.Math.min.name, Cond.static Lib.Math.min.name, Cond.initialized "java/lang/Math", Cond.code Lib.Math.min.name Lib.Math.min.code 2 (some .int)]
def wsX3_run_r4 : List Cond := [Cond.constant RX3 116 (60000), Cond.fieldLink RX3 25 "CutOnce$Search" "lying" "[I", Cond.methodLink RX3 61 yX1_pieces, Cond.instanceMethod yX1_pieces, Cond.selects RX1 yX1_pieces yX1_pieces, Cond.code yX1_pieces cX1_pieces 1 (some .int), Cond.fieldLink RX1 22 "CutOnce$Picture" "w" "I", Cond.fieldLink RX1 26 "CutOnce$Picture" "h" "I", Cond.methodLink RX3 108 yX3_lookAround, Cond.instanceMethod yX3_lookAround, Cond.selects RX3 yX3_lookAround yX3_lookAround, Cond.code yX3_lookAround cX3_lookAround 6 none, Cond.fieldLink RX3 18 "CutOnce$Search" "wanted" "[I", Cond.methodLink RX3 120 yX1_nextTo, Cond.instanceMethod yX1_nextTo, Cond.selects RX1 yX1_nextTo yX1_nextTo, Cond.code yX1_nextTo cX1_nextTo 3 (some .int), Cond.methodLink RX3 47 yX3_look, Cond.static yX3_look, Cond.code yX3_look cX3_look 2 (some .int), Cond.methodLink RX3 117 yX3_fits, Cond.instanceMethod yX3_fits, Cond.selects RX3 yX3_fits yX3_fits, Cond.code yX3_fits cX3_fits 8 (some .boolean)]
def wsX3_run : List Cond := .code yX3_run cX3_run 3 none :: ((wsX3_run_r1 ++ (wsX3_run_r2 ++ (wsX3_run_r3 ++ wsX3_run_r4))) ++ wsX30 ++ wsX20 ++ wsX10)
def wsX3_countWays_r1 : List Cond := [Cond.fieldLink RX3 55 "CutOnce$Search" "spent" "Z", Cond.fieldLink RX3 58 "CutOnce$Search" "found" "I", Cond.methodLink RX3 51 yX3_run, Cond.instanceMethod yX3_run, Cond.selects RX3 yX3_run yX3_run, Cond.initialized RX3, Cond.code yX3_run cX3_run 3 none, Cond.fieldLink RX3 21 "CutOnce$Search" "used" "[Z", Cond.fieldLink RX3 35 "CutOnce$Search" "pile" "LCutOnce$Pile;", Cond.fieldLink RX3 80 "CutOnce$Search" "firstOnly" "Z", Cond.fieldLink RX3 39 "CutOnce$Search" "trialCount" "I", Cond.methodLink RX3 71 yX2_size, Cond.instanceMethod yX2_size, Cond.selects RX2 yX2_size yX2_size, Cond.initialized RX2, Cond.code yX2_size cX2_size 1 (some .int), Cond.fieldLink RX2 18 "CutOnce$Pile" "count" "I", Cond.methodLink RX3 76 yX3_readEdges, Cond.instanceMethod yX3_readEdges, Cond.selects RX3 yX3_readEdges yX3_readEdges, Cond.code yX3_readEdges cX3_readEdges 9 none, Cond.fieldLink RX3 31 "CutOnce$Search" "goal" "LCutOnce$Picture;", Cond.fieldLink RX3 9 "CutOnce$Search" "shown" "[I", Cond.fieldLink RX3 15 "CutOnce$Search" "fitting" "[I"]
def wsX3_countWays_r2 : List Cond := [Cond.methodLink RX3 86 yX2_pieceAt, Cond.instanceMethod yX2_pieceAt, Cond.selects RX2 yX2_pieceAt yX2_pieceAt, Cond.code yX2_pieceAt cX2_pieceAt 2 (some .int), Cond.fieldLink RX2 9 "CutOnce$Pile" "pieceOf" "[I", Cond.methodLink RX2 22 yX2_hasPlace, Cond.instanceMethod yX2_hasPlace, Cond.selects RX2 yX2_hasPlace yX2_hasPlace, Cond.code yX2_hasPlace cX2_hasPlace 2 (some .boolean), Cond.methodLink RX3 90 yX1_isFlat, Cond.instanceMethod yX1_isFlat, Cond.selects RX1 yX1_isFlat yX1_isFlat, Cond.initialized RX1, Cond.code yX1_isFlat cX1_isFlat 3 (some .boolean), Cond.methodLink RX1 47 yX1_sideAt, Cond.instanceMethod yX1_sideAt, Cond.selects RX1 yX1_sideAt yX1_sideAt, Cond.code yX1_sideAt cX1_sideAt 4 (some .int), Cond.fieldLink RX1 15 "CutOnce$Picture" "sideOfEdge" "[I", Cond.methodLink RX3 94 yX3_codeOf, Cond.instanceMethod yX3_codeOf, Cond.selects RX3 yX3_codeOf yX3_codeOf, Cond.code yX3_codeOf cX3_codeOf 5 (some .int), Cond.methodLink RX3 104 yX1_edgeHeight]
def wsX3_countWays_r3 : List Cond := [Cond.instanceMethod yX1_edgeHeight, Cond.selects RX1 yX1_edgeHeight yX1_edgeHeight, Cond.code yX1_edgeHeight cX1_edgeHeight 5 (some .int), Cond.methodLink RX1 51 yX1_heightAt, Cond.instanceMethod yX1_heightAt, Cond.selects RX1 yX1_heightAt yX1_heightAt, Cond.code yX1_heightAt cX1_heightAt 5 (some .int), Cond.fieldLink RX1 9 "CutOnce$Picture" "heights" "[I", Cond.methodLink RX3 98 yX3_mateOf, Cond.instanceMethod yX3_mateOf, Cond.selects RX3 yX3_mateOf yX3_mateOf, Cond.code yX3_mateOf cX3_mateOf 5 (some .int), Cond.methodLink RX3 101 yX2_turnAt, Cond.instanceMethod yX2_turnAt, Cond.selects RX2 yX2_turnAt yX2_turnAt, Cond.code yX2_turnAt cX2_turnAt 2 (some .int), Cond.fieldLink RX2 15 "CutOnce$Pile" "turnOf" "[I", Cond.methodLink RX3 67 yX3_note, Cond.static yX3_note, Cond.code yX3_note cX3_note 3 none, Cond.methodLink RX3 83 yX3_fillFrom, Cond.instanceMethod yX3_fillFrom, Cond.selects RX3 yX3_fillFrom yX3_fillFrom, Cond.code yX3_fillFrom cX3_fillFrom 5 none]
def wsX3_countWays_r4 : List Cond := [Cond.methodLink RX3 111 Lib.Math.min.name, Cond.static Lib.Math.min.name, Cond.initialized "java/lang/Math", Cond.code Lib.Math.min.name Lib.Math.min.code 2 (some .int), Cond.constant RX3 116 (60000), Cond.fieldLink RX3 25 "CutOnce$Search" "lying" "[I", Cond.methodLink RX3 61 yX1_pieces, Cond.instanceMethod yX1_pieces, Cond.selects RX1 yX1_pieces yX1_pieces, Cond.code yX1_pieces cX1_pieces 1 (some .int), Cond.fieldLink RX1 22 "CutOnce$Picture" "w" "I", Cond.fieldLink RX1 26 "CutOnce$Picture" "h" "I", Cond.methodLink RX3 108 yX3_lookAround, Cond.instanceMethod yX3_lookAround, Cond.selects RX3 yX3_lookAround yX3_lookAround, Cond.code yX3_lookAround cX3_lookAround 6 none, Cond.fieldLink RX3 18 "CutOnce$Search" "wanted" "[I", Cond.methodLink RX3 120 yX1_nextTo, Cond.instanceMethod yX1_nextTo, Cond.selects RX1 yX1_nextTo yX1_nextTo, Cond.code yX1_nextTo cX1_nextTo 3 (some .int), Cond.methodLink RX3 47 yX3_look, Cond.static yX3_look, Cond.code yX3_look cX3_look 2 (some .int)]
def wsX3_countWays_r5 : List Cond := [Cond.methodLink RX3 117 yX3_fits, Cond.instanceMethod yX3_fits, Cond.selects RX3 yX3_fits yX3_fits, Cond.code yX3_fits cX3_fits 8 (some .boolean)]
def wsX3_countWays : List Cond := .code yX3_countWays cX3_countWays 1 (some .int) :: ((wsX3_countWays_r1 ++ (wsX3_countWays_r2 ++ (wsX3_countWays_r3 ++ (wsX3_countWays_r4 ++ wsX3_countWays_r5)))) ++ wsX30 ++ wsX20 ++ wsX10)
def wsX3_findFirst_r1 : List Cond := [Cond.fieldLink RX3 55 "CutOnce$Search" "spent" "Z", Cond.fieldLink RX3 58 "CutOnce$Search" "found" "I", Cond.fieldLink RX3 43 "CutOnce$Search" "joinedOnce" "Z", Cond.fieldLink RX3 31 "CutOnce$Search" "goal" "LCutOnce$Picture;", Cond.fieldLink RX3 28 "CutOnce$Search" "joinedLying" "[I", Cond.fieldLink RX3 25 "CutOnce$Search" "lying" "[I", Cond.methodLink RX3 51 yX3_run, Cond.instanceMethod yX3_run, Cond.selects RX3 yX3_run yX3_run, Cond.initialized RX3, Cond.code yX3_run cX3_run 3 none, Cond.fieldLink RX3 21 "CutOnce$Search" "used" "[Z", Cond.fieldLink RX3 35 "CutOnce$Search" "pile" "LCutOnce$Pile;", Cond.fieldLink RX3 80 "CutOnce$Search" "firstOnly" "Z", Cond.fieldLink RX3 39 "CutOnce$Search" "trialCount" "I", Cond.methodLink RX3 71 yX2_size, Cond.instanceMethod yX2_size, Cond.selects RX2 yX2_size yX2_size, Cond.initialized RX2, Cond.code yX2_size cX2_size 1 (some .int), Cond.fieldLink RX2 18 "CutOnce$Pile" "count" "I", Cond.methodLink RX3 76 yX3_readEdges, Cond.instanceMethod yX3_readEdges, Cond.selects RX3 yX3_readEdges yX3_readEdges]
def wsX3_findFirst_r2 : List Cond := [Cond.code yX3_readEdges cX3_readEdges 9 none, Cond.fieldLink RX3 9 "CutOnce$Search" "shown" "[I", Cond.fieldLink RX3 15 "CutOnce$Search" "fitting" "[I", Cond.methodLink RX3 86 yX2_pieceAt, Cond.instanceMethod yX2_pieceAt, Cond.selects RX2 yX2_pieceAt yX2_pieceAt, Cond.code yX2_pieceAt cX2_pieceAt 2 (some .int), Cond.fieldLink RX2 9 "CutOnce$Pile" "pieceOf" "[I", Cond.methodLink RX2 22 yX2_hasPlace, Cond.instanceMethod yX2_hasPlace, Cond.selects RX2 yX2_hasPlace yX2_hasPlace, Cond.code yX2_hasPlace cX2_hasPlace 2 (some .boolean), Cond.methodLink RX3 90 yX1_isFlat, Cond.instanceMethod yX1_isFlat, Cond.selects RX1 yX1_isFlat yX1_isFlat, Cond.initialized RX1, Cond.code yX1_isFlat cX1_isFlat 3 (some .boolean), Cond.methodLink RX1 47 yX1_sideAt, Cond.instanceMethod yX1_sideAt, Cond.selects RX1 yX1_sideAt yX1_sideAt, Cond.code yX1_sideAt cX1_sideAt 4 (some .int), Cond.fieldLink RX1 15 "CutOnce$Picture" "sideOfEdge" "[I", Cond.methodLink RX3 94 yX3_codeOf, Cond.instanceMethod yX3_codeOf]
def wsX3_findFirst_r3 : List Cond := [Cond.selects RX3 yX3_codeOf yX3_codeOf, Cond.code yX3_codeOf cX3_codeOf 5 (some .int), Cond.methodLink RX3 104 yX1_edgeHeight, Cond.instanceMethod yX1_edgeHeight, Cond.selects RX1 yX1_edgeHeight yX1_edgeHeight, Cond.code yX1_edgeHeight cX1_edgeHeight 5 (some .int), Cond.methodLink RX1 51 yX1_heightAt, Cond.instanceMethod yX1_heightAt, Cond.selects RX1 yX1_heightAt yX1_heightAt, Cond.code yX1_heightAt cX1_heightAt 5 (some .int), Cond.fieldLink RX1 9 "CutOnce$Picture" "heights" "[I", Cond.methodLink RX3 98 yX3_mateOf, Cond.instanceMethod yX3_mateOf, Cond.selects RX3 yX3_mateOf yX3_mateOf, Cond.code yX3_mateOf cX3_mateOf 5 (some .int), Cond.methodLink RX3 101 yX2_turnAt, Cond.instanceMethod yX2_turnAt, Cond.selects RX2 yX2_turnAt yX2_turnAt, Cond.code yX2_turnAt cX2_turnAt 2 (some .int), Cond.fieldLink RX2 15 "CutOnce$Pile" "turnOf" "[I", Cond.methodLink RX3 67 yX3_note, Cond.static yX3_note, Cond.code yX3_note cX3_note 3 none, Cond.methodLink RX3 83 yX3_fillFrom]
def wsX3_findFirst_r4 : List Cond := [Cond.instanceMethod yX3_fillFrom, Cond.selects RX3 yX3_fillFrom yX3_fillFrom, Cond.code yX3_fillFrom cX3_fillFrom 5 none, Cond.methodLink RX3 111 Lib.Math.min.name, Cond.static Lib.Math.min.name, Cond.initialized "java/lang/Math", Cond.code Lib.Math.min.name Lib.Math.min.code 2 (some .int), Cond.constant RX3 116 (60000), Cond.methodLink RX3 61 yX1_pieces, Cond.instanceMethod yX1_pieces, Cond.selects RX1 yX1_pieces yX1_pieces, Cond.code yX1_pieces cX1_pieces 1 (some .int), Cond.fieldLink RX1 22 "CutOnce$Picture" "w" "I", Cond.fieldLink RX1 26 "CutOnce$Picture" "h" "I", Cond.methodLink RX3 108 yX3_lookAround, Cond.instanceMethod yX3_lookAround, Cond.selects RX3 yX3_lookAround yX3_lookAround, Cond.code yX3_lookAround cX3_lookAround 6 none, Cond.fieldLink RX3 18 "CutOnce$Search" "wanted" "[I", Cond.methodLink RX3 120 yX1_nextTo, Cond.instanceMethod yX1_nextTo, Cond.selects RX1 yX1_nextTo yX1_nextTo, Cond.code yX1_nextTo cX1_nextTo 3 (some .int), Cond.methodLink RX3 47 yX3_look]
def wsX3_findFirst_r5 : List Cond := [Cond.static yX3_look, Cond.code yX3_look cX3_look 2 (some .int), Cond.methodLink RX3 117 yX3_fits, Cond.instanceMethod yX3_fits, Cond.selects RX3 yX3_fits yX3_fits, Cond.code yX3_fits cX3_fits 8 (some .boolean)]
def wsX3_findFirst : List Cond := .code yX3_findFirst cX3_findFirst 2 (some .int) :: ((wsX3_findFirst_r1 ++ (wsX3_findFirst_r2 ++ (wsX3_findFirst_r3 ++ (wsX3_findFirst_r4 ++ wsX3_findFirst_r5)))) ++ wsX30 ++ wsX20 ++ wsX10)
def wsX4_init : List Cond := .code yX4_init cX4_init 1 none :: ([.methodLink RX4 3 objectInit, .instanceMethod objectInit, .code objectInit ⟨#[0xb1]⟩ 1 none, .arrayClass .int, .fieldLink RX4 9 "CutOnce$Sheet" "cells" "[I"] ++ wsX40)
def wsX5_init_r1 : List Cond := [Cond.methodLink RX5 3 objectInit, Cond.instanceMethod objectInit, Cond.code objectInit ⟨#[0xb1]⟩ 1 none, Cond.classLink RX5 9 RX1, Cond.instantiable RX1 4, Cond.initialized RX1, Cond.fieldLink RX5 12 "CutOnce" "thePicture" "LCutOnce$Picture;", Cond.classLink RX5 18 RX2, Cond.instantiable RX2 3, Cond.initialized RX2, Cond.fieldLink RX5 21 "CutOnce" "thePile" "LCutOnce$Pile;", Cond.classLink RX5 25 RX3, Cond.instantiable RX3 13, Cond.initialized RX3, Cond.fieldLink RX5 30 "CutOnce" "theSearch" "LCutOnce$Search;", Cond.classLink RX5 34 RX0, Cond.instantiable RX0 1, Cond.initialized RX0, Cond.fieldLink RX5 37 "CutOnce" "theDraw" "LCutOnce$Draw;", Cond.classLink RX5 41 RX4, Cond.fieldLink RX5 43 "CutOnce" "sheets" "[LCutOnce$Sheet;", Cond.instantiable RX4 4, Cond.initialized RX4, Cond.methodLink RX5 11 yX1_init]
def wsX5_init_r2 : List Cond := [Cond.instanceMethod yX1_init, Cond.code yX1_init cX1_init 1 none, Cond.methodLink RX1 3 objectInit, Cond.arrayClass .int, Cond.fieldLink RX1 9 "CutOnce$Picture" "heights" "[I", Cond.fieldLink RX1 15 "CutOnce$Picture" "sideOfEdge" "[I", Cond.methodLink RX1 18 yX1_cutAnew, Cond.instanceMethod yX1_cutAnew, Cond.selects RX1 yX1_cutAnew yX1_cutAnew, Cond.code yX1_cutAnew cX1_cutAnew 5 none, Cond.fieldLink RX1 22 "CutOnce$Picture" "w" "I", Cond.fieldLink RX1 26 "CutOnce$Picture" "h" "I", Cond.methodLink RX1 29 yX1_layEdges, Cond.instanceMethod yX1_layEdges, Cond.selects RX1 yX1_layEdges yX1_layEdges, Cond.code yX1_layEdges cX1_layEdges 6 none, Cond.methodLink RX1 32 yX1_setSide, Cond.instanceMethod yX1_setSide, Cond.selects RX1 yX1_setSide yX1_setSide, Cond.code yX1_setSide cX1_setSide 5 none, Cond.instanceMethod yX2_init, Cond.code yX2_init cX2_init 1 none, Cond.methodLink RX2 3 objectInit, Cond.fieldLink RX2 9 "CutOnce$Pile" "pieceOf" "[I"]
def wsX5_init_r3 : List Cond := [Cond.fieldLink RX2 15 "CutOnce$Pile" "turnOf" "[I", Cond.methodLink RX5 27 yX3_init, Cond.instanceMethod yX3_init, Cond.code yX3_init cX3_init 3 none, Cond.methodLink RX3 3 objectInit, Cond.fieldLink RX3 9 "CutOnce$Search" "shown" "[I", Cond.fieldLink RX3 15 "CutOnce$Search" "fitting" "[I", Cond.fieldLink RX3 18 "CutOnce$Search" "wanted" "[I", Cond.arrayClass .boolean, Cond.fieldLink RX3 21 "CutOnce$Search" "used" "[Z", Cond.fieldLink RX3 25 "CutOnce$Search" "lying" "[I", Cond.fieldLink RX3 28 "CutOnce$Search" "joinedLying" "[I", Cond.fieldLink RX3 31 "CutOnce$Search" "goal" "LCutOnce$Picture;", Cond.fieldLink RX3 35 "CutOnce$Search" "pile" "LCutOnce$Pile;", Cond.instanceMethod yX0_init, Cond.code yX0_init cX0_init 1 none, Cond.methodLink RX0 1 objectInit, Cond.instanceMethod yX4_init, Cond.code yX4_init cX4_init 1 none, Cond.methodLink RX4 3 objectInit, Cond.fieldLink RX4 9 "CutOnce$Sheet" "cells" "[I"]
def wsX5_init : List Cond := .code yX5_init cX5_init 2 none :: ((wsX5_init_r1 ++ (wsX5_init_r2 ++ wsX5_init_r3)) ++ wsX10 ++ wsX50 ++ wsX20 ++ wsX30 ++ wsX00 ++ wsX40)
def wsX5_picture_r1 : List Cond := [Cond.fieldLink RX5 12 "CutOnce" "thePicture" "LCutOnce$Picture;", Cond.fieldLink RX5 21 "CutOnce" "thePile" "LCutOnce$Pile;", Cond.fieldLink RX5 30 "CutOnce" "theSearch" "LCutOnce$Search;", Cond.methodLink RX5 48 yX1_cutAnew, Cond.instanceMethod yX1_cutAnew, Cond.selects RX1 yX1_cutAnew yX1_cutAnew, Cond.initialized RX1, Cond.code yX1_cutAnew cX1_cutAnew 5 none, Cond.fieldLink RX1 22 "CutOnce$Picture" "w" "I", Cond.fieldLink RX1 26 "CutOnce$Picture" "h" "I", Cond.fieldLink RX1 9 "CutOnce$Picture" "heights" "[I", Cond.methodLink RX1 29 yX1_layEdges, Cond.instanceMethod yX1_layEdges, Cond.selects RX1 yX1_layEdges yX1_layEdges, Cond.code yX1_layEdges cX1_layEdges 6 none, Cond.methodLink RX1 32 yX1_setSide, Cond.instanceMethod yX1_setSide, Cond.selects RX1 yX1_setSide yX1_setSide, Cond.code yX1_setSide cX1_setSide 5 none, Cond.fieldLink RX1 15 "CutOnce$Picture" "sideOfEdge" "[I", Cond.methodLink RX5 52 yX2_clearAll, Cond.instanceMethod yX2_clearAll, Cond.selects RX2 yX2_clearAll yX2_clearAll, Cond.initialized RX2]
def wsX5_picture_r2 : List Cond := [Cond.code yX2_clearAll cX2_clearAll 1 none, Cond.fieldLink RX2 18 "CutOnce$Pile" "count" "I", Cond.methodLink RX5 55 yX3_forgetJoined, Cond.instanceMethod yX3_forgetJoined, Cond.selects RX3 yX3_forgetJoined yX3_forgetJoined, Cond.initialized RX3, Cond.code yX3_forgetJoined cX3_forgetJoined 1 none, Cond.fieldLink RX3 43 "CutOnce$Search" "joinedOnce" "Z", Cond.methodLink RX5 58 yX1_sides, Cond.instanceMethod yX1_sides, Cond.selects RX1 yX1_sides yX1_sides, Cond.code yX1_sides cX1_sides 1 (some .int)]
def wsX5_picture : List Cond := .code yX5_picture cX5_picture 3 (some .int) :: ((wsX5_picture_r1 ++ wsX5_picture_r2) ++ wsX50 ++ wsX10 ++ wsX20 ++ wsX30)
def wsX5_make_r1 : List Cond := [Cond.fieldLink RX5 37 "CutOnce" "theDraw" "LCutOnce$Draw;", Cond.fieldLink RX5 12 "CutOnce" "thePicture" "LCutOnce$Picture;", Cond.fieldLink RX5 30 "CutOnce" "theSearch" "LCutOnce$Search;", Cond.methodLink RX5 62 yX0_begin, Cond.instanceMethod yX0_begin, Cond.selects RX0 yX0_begin yX0_begin, Cond.initialized RX0, Cond.code yX0_begin cX0_begin 3 none, Cond.fieldLink RX0 7 "CutOnce$Draw" "now" "J", Cond.methodLink RX5 58 yX1_sides, Cond.instanceMethod yX1_sides, Cond.selects RX1 yX1_sides yX1_sides, Cond.initialized RX1, Cond.code yX1_sides cX1_sides 1 (some .int), Cond.fieldLink RX1 22 "CutOnce$Picture" "w" "I", Cond.fieldLink RX1 26 "CutOnce$Picture" "h" "I", Cond.methodLink RX5 66 yX0_below, Cond.instanceMethod yX0_below, Cond.selects RX0 yX0_below yX0_below, Cond.code yX0_below cX0_below 2 (some .int), Cond.constantLong RX0 13 (6364136223846793005), Cond.constantLong RX0 15 (1442695040888963407), Cond.constantLong RX0 17 (2147483647), Cond.constantLong RX0 19 (4096)]
def wsX5_make_r2 : List Cond := [Cond.methodLink RX5 70 yX1_setHeight, Cond.instanceMethod yX1_setHeight, Cond.selects RX1 yX1_setHeight yX1_setHeight, Cond.code yX1_setHeight cX1_setHeight 5 none, Cond.fieldLink RX1 9 "CutOnce$Picture" "heights" "[I", Cond.methodLink RX5 55 yX3_forgetJoined, Cond.instanceMethod yX3_forgetJoined, Cond.selects RX3 yX3_forgetJoined yX3_forgetJoined, Cond.initialized RX3, Cond.code yX3_forgetJoined cX3_forgetJoined 1 none, Cond.fieldLink RX3 43 "CutOnce$Search" "joinedOnce" "Z"]
def wsX5_make : List Cond := .code yX5_make cX5_make 5 (some .int) :: ((wsX5_make_r1 ++ wsX5_make_r2) ++ wsX50 ++ wsX00 ++ wsX10 ++ wsX30)
def wsX5_isHeightPlace : List Cond := .code yX5_isHeightPlace cX5_isHeightPlace 1 (some .boolean) :: ([])
def wsX5_isHeight : List Cond := .code yX5_isHeight cX5_isHeight 1 (some .boolean) :: ([])
def wsX5_bend_r1 : List Cond := [Cond.fieldLink RX5 12 "CutOnce" "thePicture" "LCutOnce$Picture;", Cond.constantLong RX5 84 (-9223372036854775808), Cond.fieldLink RX5 30 "CutOnce" "theSearch" "LCutOnce$Search;", Cond.methodLink RX5 74 yX1_hasSide, Cond.instanceMethod yX1_hasSide, Cond.selects RX1 yX1_hasSide yX1_hasSide, Cond.initialized RX1, Cond.code yX1_hasSide cX1_hasSide 2 (some .boolean), Cond.methodLink RX1 36 yX1_sides, Cond.instanceMethod yX1_sides, Cond.selects RX1 yX1_sides yX1_sides, Cond.code yX1_sides cX1_sides 1 (some .int), Cond.fieldLink RX1 22 "CutOnce$Picture" "w" "I", Cond.fieldLink RX1 26 "CutOnce$Picture" "h" "I", Cond.methodLink RX5 78 yX5_isHeightPlace, Cond.static yX5_isHeightPlace, Cond.initialized RX5, Cond.code yX5_isHeightPlace cX5_isHeightPlace 1 (some .boolean), Cond.methodLink RX5 81 yX5_isHeight, Cond.static yX5_isHeight, Cond.code yX5_isHeight cX5_isHeight 1 (some .boolean), Cond.methodLink RX5 86 yX1_heightAt, Cond.instanceMethod yX1_heightAt, Cond.selects RX1 yX1_heightAt yX1_heightAt]
def wsX5_bend_r2 : List Cond := [Cond.code yX1_heightAt cX1_heightAt 5 (some .int), Cond.fieldLink RX1 9 "CutOnce$Picture" "heights" "[I", Cond.methodLink RX5 70 yX1_setHeight, Cond.instanceMethod yX1_setHeight, Cond.selects RX1 yX1_setHeight yX1_setHeight, Cond.code yX1_setHeight cX1_setHeight 5 none, Cond.methodLink RX5 55 yX3_forgetJoined, Cond.instanceMethod yX3_forgetJoined, Cond.selects RX3 yX3_forgetJoined yX3_forgetJoined, Cond.initialized RX3, Cond.code yX3_forgetJoined cX3_forgetJoined 1 none, Cond.fieldLink RX3 43 "CutOnce$Search" "joinedOnce" "Z"]
def wsX5_bend : List Cond := .code yX5_bend cX5_bend 5 (some .long) :: ((wsX5_bend_r1 ++ wsX5_bend_r2) ++ wsX50 ++ wsX10 ++ wsX30)
def wsX5_sideOf : List Cond := .code yX5_sideOf cX5_sideOf 3 (some .int) :: ([.fieldLink RX5 12 "CutOnce" "thePicture" "LCutOnce$Picture;", .methodLink RX5 124 yX1_hasEdge, .instanceMethod yX1_hasEdge, .selects RX1 yX1_hasEdge yX1_hasEdge, .initialized RX1, .code yX1_hasEdge cX1_hasEdge 3 (some .boolean), .methodLink RX1 43 yX1_hasPiece, .instanceMethod yX1_hasPiece, .selects RX1 yX1_hasPiece yX1_hasPiece, .code yX1_hasPiece cX1_hasPiece 2 (some .boolean), .methodLink RX1 40 yX1_pieces, .instanceMethod yX1_pieces, .selects RX1 yX1_pieces yX1_pieces, .code yX1_pieces cX1_pieces 1 (some .int), .fieldLink RX1 22 "CutOnce$Picture" "w" "I", .fieldLink RX1 26 "CutOnce$Picture" "h" "I", .methodLink RX5 128 yX1_sideAt, .instanceMethod yX1_sideAt, .selects RX1 yX1_sideAt yX1_sideAt, .code yX1_sideAt cX1_sideAt 4 (some .int), .fieldLink RX1 15 "CutOnce$Picture" "sideOfEdge" "[I"] ++ wsX50 ++ wsX10)
def wsX5_far_r1 : List Cond := [Cond.fieldLink RX5 12 "CutOnce" "thePicture" "LCutOnce$Picture;", Cond.methodLink RX5 124 yX1_hasEdge, Cond.instanceMethod yX1_hasEdge, Cond.selects RX1 yX1_hasEdge yX1_hasEdge, Cond.initialized RX1, Cond.code yX1_hasEdge cX1_hasEdge 3 (some .boolean), Cond.methodLink RX1 43 yX1_hasPiece, Cond.instanceMethod yX1_hasPiece, Cond.selects RX1 yX1_hasPiece yX1_hasPiece, Cond.code yX1_hasPiece cX1_hasPiece 2 (some .boolean), Cond.methodLink RX1 40 yX1_pieces, Cond.instanceMethod yX1_pieces, Cond.selects RX1 yX1_pieces yX1_pieces, Cond.code yX1_pieces cX1_pieces 1 (some .int), Cond.fieldLink RX1 22 "CutOnce$Picture" "w" "I", Cond.fieldLink RX1 26 "CutOnce$Picture" "h" "I", Cond.methodLink RX5 132 yX1_isFlat, Cond.instanceMethod yX1_isFlat, Cond.selects RX1 yX1_isFlat yX1_isFlat, Cond.code yX1_isFlat cX1_isFlat 3 (some .boolean), Cond.methodLink RX1 47 yX1_sideAt, Cond.instanceMethod yX1_sideAt, Cond.selects RX1 yX1_sideAt yX1_sideAt, Cond.code yX1_sideAt cX1_sideAt 4 (some .int)]
def wsX5_far_r2 : List Cond := [Cond.fieldLink RX1 15 "CutOnce$Picture" "sideOfEdge" "[I", Cond.methodLink RX5 138 yX1_farness, Cond.instanceMethod yX1_farness, Cond.selects RX1 yX1_farness yX1_farness, Cond.code yX1_farness cX1_farness 7 (some .int), Cond.methodLink RX1 58 Lib.Math.abs.name, Cond.static Lib.Math.abs.name, Cond.initialized "java/lang/Math", Cond.code Lib.Math.abs.name Lib.Math.abs.code 1 (some .int), Cond.methodLink RX1 55 yX1_edgeHeight, Cond.instanceMethod yX1_edgeHeight, Cond.selects RX1 yX1_edgeHeight yX1_edgeHeight, Cond.code yX1_edgeHeight cX1_edgeHeight 5 (some .int), Cond.methodLink RX1 51 yX1_heightAt, Cond.instanceMethod yX1_heightAt, Cond.selects RX1 yX1_heightAt yX1_heightAt, Cond.code yX1_heightAt cX1_heightAt 5 (some .int), Cond.fieldLink RX1 9 "CutOnce$Picture" "heights" "[I"]
def wsX5_far : List Cond := .code yX5_far cX5_far 5 (some .int) :: ((wsX5_far_r1 ++ wsX5_far_r2) ++ wsX50 ++ wsX10)
def wsX5_lay_r1 : List Cond := [Cond.fieldLink RX5 12 "CutOnce" "thePicture" "LCutOnce$Picture;", Cond.fieldLink RX5 21 "CutOnce" "thePile" "LCutOnce$Pile;", Cond.fieldLink RX5 30 "CutOnce" "theSearch" "LCutOnce$Search;", Cond.methodLink RX5 154 yX1_hasPiece, Cond.instanceMethod yX1_hasPiece, Cond.selects RX1 yX1_hasPiece yX1_hasPiece, Cond.initialized RX1, Cond.code yX1_hasPiece cX1_hasPiece 2 (some .boolean), Cond.methodLink RX1 40 yX1_pieces, Cond.instanceMethod yX1_pieces, Cond.selects RX1 yX1_pieces yX1_pieces, Cond.code yX1_pieces cX1_pieces 1 (some .int), Cond.fieldLink RX1 22 "CutOnce$Picture" "w" "I", Cond.fieldLink RX1 26 "CutOnce$Picture" "h" "I", Cond.methodLink RX5 157 yX2_isFull, Cond.instanceMethod yX2_isFull, Cond.selects RX2 yX2_isFull yX2_isFull, Cond.initialized RX2, Cond.code yX2_isFull cX2_isFull 1 (some .boolean), Cond.fieldLink RX2 18 "CutOnce$Pile" "count" "I", Cond.methodLink RX5 160 yX2_append, Cond.instanceMethod yX2_append, Cond.selects RX2 yX2_append yX2_append, Cond.code yX2_append cX2_append 3 none]
def wsX5_lay_r2 : List Cond := [Cond.fieldLink RX2 9 "CutOnce$Pile" "pieceOf" "[I", Cond.fieldLink RX2 15 "CutOnce$Pile" "turnOf" "[I", Cond.methodLink RX2 26 yX2_isFull, Cond.methodLink RX5 55 yX3_forgetJoined, Cond.instanceMethod yX3_forgetJoined, Cond.selects RX3 yX3_forgetJoined yX3_forgetJoined, Cond.initialized RX3, Cond.code yX3_forgetJoined cX3_forgetJoined 1 none, Cond.fieldLink RX3 43 "CutOnce$Search" "joinedOnce" "Z", Cond.methodLink RX5 163 yX2_size, Cond.instanceMethod yX2_size, Cond.selects RX2 yX2_size yX2_size, Cond.code yX2_size cX2_size 1 (some .int)]
def wsX5_lay : List Cond := .code yX5_lay cX5_lay 3 (some .int) :: ((wsX5_lay_r1 ++ wsX5_lay_r2) ++ wsX50 ++ wsX10 ++ wsX20 ++ wsX30)
def wsX5_heap_r1 : List Cond := [Cond.fieldLink RX5 21 "CutOnce" "thePile" "LCutOnce$Pile;", Cond.fieldLink RX5 12 "CutOnce" "thePicture" "LCutOnce$Picture;", Cond.fieldLink RX5 37 "CutOnce" "theDraw" "LCutOnce$Draw;", Cond.fieldLink RX5 30 "CutOnce" "theSearch" "LCutOnce$Search;", Cond.methodLink RX5 52 yX2_clearAll, Cond.instanceMethod yX2_clearAll, Cond.selects RX2 yX2_clearAll yX2_clearAll, Cond.initialized RX2, Cond.code yX2_clearAll cX2_clearAll 1 none, Cond.fieldLink RX2 18 "CutOnce$Pile" "count" "I", Cond.methodLink RX5 166 yX1_pieces, Cond.instanceMethod yX1_pieces, Cond.selects RX1 yX1_pieces yX1_pieces, Cond.initialized RX1, Cond.code yX1_pieces cX1_pieces 1 (some .int), Cond.fieldLink RX1 22 "CutOnce$Picture" "w" "I", Cond.fieldLink RX1 26 "CutOnce$Picture" "h" "I", Cond.methodLink RX5 160 yX2_append, Cond.instanceMethod yX2_append, Cond.selects RX2 yX2_append yX2_append, Cond.code yX2_append cX2_append 3 none, Cond.fieldLink RX2 9 "CutOnce$Pile" "pieceOf" "[I", Cond.fieldLink RX2 15 "CutOnce$Pile" "turnOf" "[I", Cond.methodLink RX2 26 yX2_isFull]
def wsX5_heap_r2 : List Cond := [Cond.instanceMethod yX2_isFull, Cond.selects RX2 yX2_isFull yX2_isFull, Cond.code yX2_isFull cX2_isFull 1 (some .boolean), Cond.methodLink RX5 62 yX0_begin, Cond.instanceMethod yX0_begin, Cond.selects RX0 yX0_begin yX0_begin, Cond.initialized RX0, Cond.code yX0_begin cX0_begin 3 none, Cond.fieldLink RX0 7 "CutOnce$Draw" "now" "J", Cond.methodLink RX5 163 yX2_size, Cond.instanceMethod yX2_size, Cond.selects RX2 yX2_size yX2_size, Cond.code yX2_size cX2_size 1 (some .int), Cond.methodLink RX5 66 yX0_below, Cond.instanceMethod yX0_below, Cond.selects RX0 yX0_below yX0_below, Cond.code yX0_below cX0_below 2 (some .int), Cond.constantLong RX0 13 (6364136223846793005), Cond.constantLong RX0 15 (1442695040888963407), Cond.constantLong RX0 17 (2147483647), Cond.constantLong RX0 19 (4096), Cond.methodLink RX5 169 yX2_swapPieces, Cond.instanceMethod yX2_swapPieces, Cond.selects RX2 yX2_swapPieces yX2_swapPieces]
def wsX5_heap_r3 : List Cond := [Cond.code yX2_swapPieces cX2_swapPieces 4 none, Cond.methodLink RX2 22 yX2_hasPlace, Cond.instanceMethod yX2_hasPlace, Cond.selects RX2 yX2_hasPlace yX2_hasPlace, Cond.code yX2_hasPlace cX2_hasPlace 2 (some .boolean), Cond.methodLink RX5 172 yX2_setTurn, Cond.instanceMethod yX2_setTurn, Cond.selects RX2 yX2_setTurn yX2_setTurn, Cond.code yX2_setTurn cX2_setTurn 3 none, Cond.methodLink RX5 55 yX3_forgetJoined, Cond.instanceMethod yX3_forgetJoined, Cond.selects RX3 yX3_forgetJoined yX3_forgetJoined, Cond.initialized RX3, Cond.code yX3_forgetJoined cX3_forgetJoined 1 none, Cond.fieldLink RX3 43 "CutOnce$Search" "joinedOnce" "Z"]
def wsX5_heap : List Cond := .code yX5_heap cX5_heap 4 (some .int) :: ((wsX5_heap_r1 ++ (wsX5_heap_r2 ++ wsX5_heap_r3)) ++ wsX50 ++ wsX20 ++ wsX10 ++ wsX00 ++ wsX30)
def wsX5_take_r1 : List Cond := [Cond.fieldLink RX5 21 "CutOnce" "thePile" "LCutOnce$Pile;", Cond.fieldLink RX5 30 "CutOnce" "theSearch" "LCutOnce$Search;", Cond.methodLink RX5 175 yX2_hasPlace, Cond.instanceMethod yX2_hasPlace, Cond.selects RX2 yX2_hasPlace yX2_hasPlace, Cond.initialized RX2, Cond.code yX2_hasPlace cX2_hasPlace 2 (some .boolean), Cond.fieldLink RX2 18 "CutOnce$Pile" "count" "I", Cond.methodLink RX5 178 yX2_pieceAt, Cond.instanceMethod yX2_pieceAt, Cond.selects RX2 yX2_pieceAt yX2_pieceAt, Cond.code yX2_pieceAt cX2_pieceAt 2 (some .int), Cond.fieldLink RX2 9 "CutOnce$Pile" "pieceOf" "[I", Cond.methodLink RX2 22 yX2_hasPlace, Cond.methodLink RX5 181 yX2_removeAt, Cond.instanceMethod yX2_removeAt, Cond.selects RX2 yX2_removeAt yX2_removeAt, Cond.code yX2_removeAt cX2_removeAt 3 none, Cond.fieldLink RX2 15 "CutOnce$Pile" "turnOf" "[I", Cond.methodLink RX5 55 yX3_forgetJoined, Cond.instanceMethod yX3_forgetJoined, Cond.selects RX3 yX3_forgetJoined yX3_forgetJoined, Cond.initialized RX3, Cond.code yX3_forgetJoined cX3_forgetJoined 1 none]
def wsX5_take_r2 : List Cond := [Cond.fieldLink RX3 43 "CutOnce$Search" "joinedOnce" "Z"]
def wsX5_take : List Cond := .code yX5_take cX5_take 3 (some .int) :: ((wsX5_take_r1 ++ wsX5_take_r2) ++ wsX50 ++ wsX20 ++ wsX30)
def wsX5_heaped : List Cond := .code yX5_heaped cX5_heaped 3 (some .int) :: ([.fieldLink RX5 21 "CutOnce" "thePile" "LCutOnce$Pile;", .methodLink RX5 175 yX2_hasPlace, .instanceMethod yX2_hasPlace, .selects RX2 yX2_hasPlace yX2_hasPlace, .initialized RX2, .code yX2_hasPlace cX2_hasPlace 2 (some .boolean), .fieldLink RX2 18 "CutOnce$Pile" "count" "I", .methodLink RX5 178 yX2_pieceAt, .instanceMethod yX2_pieceAt, .selects RX2 yX2_pieceAt yX2_pieceAt, .code yX2_pieceAt cX2_pieceAt 2 (some .int), .fieldLink RX2 9 "CutOnce$Pile" "pieceOf" "[I", .methodLink RX2 22 yX2_hasPlace, .methodLink RX5 185 yX2_turnAt, .instanceMethod yX2_turnAt, .selects RX2 yX2_turnAt yX2_turnAt, .code yX2_turnAt cX2_turnAt 2 (some .int), .fieldLink RX2 15 "CutOnce$Pile" "turnOf" "[I"] ++ wsX50 ++ wsX20)
def wsX5_isMissingWhat : List Cond := .code yX5_isMissingWhat cX5_isMissingWhat 1 (some .boolean) :: ([])
def wsX5_isMissing : List Cond := .code yX5_isMissing cX5_isMissing 4 (some .boolean) :: ([.fieldLink RX5 21 "CutOnce" "thePile" "LCutOnce$Pile;", .methodLink RX5 215 yX2_timesOf, .instanceMethod yX2_timesOf, .selects RX2 yX2_timesOf yX2_timesOf, .initialized RX2, .code yX2_timesOf cX2_timesOf 4 (some .int), .fieldLink RX2 18 "CutOnce$Pile" "count" "I", .fieldLink RX2 9 "CutOnce$Pile" "pieceOf" "[I"] ++ wsX50 ++ wsX20)
def wsX5_countMissing : List Cond := .code yX5_countMissing cX5_countMissing 4 (some .int) :: ([.fieldLink RX5 12 "CutOnce" "thePicture" "LCutOnce$Picture;", .methodLink RX5 166 yX1_pieces, .instanceMethod yX1_pieces, .selects RX1 yX1_pieces yX1_pieces, .initialized RX1, .code yX1_pieces cX1_pieces 1 (some .int), .fieldLink RX1 22 "CutOnce$Picture" "w" "I", .fieldLink RX1 26 "CutOnce$Picture" "h" "I", .methodLink RX5 258 yX5_isMissing, .instanceMethod yX5_isMissing, .selects RX5 yX5_isMissing yX5_isMissing, .initialized RX5, .code yX5_isMissing cX5_isMissing 4 (some .boolean), .fieldLink RX5 21 "CutOnce" "thePile" "LCutOnce$Pile;", .methodLink RX5 215 yX2_timesOf, .instanceMethod yX2_timesOf, .selects RX2 yX2_timesOf yX2_timesOf, .initialized RX2, .code yX2_timesOf cX2_timesOf 4 (some .int), .fieldLink RX2 18 "CutOnce$Pile" "count" "I", .fieldLink RX2 9 "CutOnce$Pile" "pieceOf" "[I"] ++ wsX50 ++ wsX10 ++ wsX20)
def wsX5_missing_r1 : List Cond := [Cond.methodLink RX5 188 yX5_isMissingWhat, Cond.static yX5_isMissingWhat, Cond.initialized RX5, Cond.code yX5_isMissingWhat cX5_isMissingWhat 1 (some .boolean), Cond.methodLink RX5 191 yX5_countMissing, Cond.instanceMethod yX5_countMissing, Cond.selects RX5 yX5_countMissing yX5_countMissing, Cond.code yX5_countMissing cX5_countMissing 4 (some .int), Cond.fieldLink RX5 12 "CutOnce" "thePicture" "LCutOnce$Picture;", Cond.methodLink RX5 166 yX1_pieces, Cond.instanceMethod yX1_pieces, Cond.selects RX1 yX1_pieces yX1_pieces, Cond.initialized RX1, Cond.code yX1_pieces cX1_pieces 1 (some .int), Cond.fieldLink RX1 22 "CutOnce$Picture" "w" "I", Cond.fieldLink RX1 26 "CutOnce$Picture" "h" "I", Cond.methodLink RX5 258 yX5_isMissing, Cond.instanceMethod yX5_isMissing, Cond.selects RX5 yX5_isMissing yX5_isMissing, Cond.code yX5_isMissing cX5_isMissing 4 (some .boolean), Cond.fieldLink RX5 21 "CutOnce" "thePile" "LCutOnce$Pile;", Cond.methodLink RX5 215 yX2_timesOf, Cond.instanceMethod yX2_timesOf, Cond.selects RX2 yX2_timesOf yX2_timesOf]
def wsX5_missing_r2 : List Cond := [Cond.initialized RX2, Cond.code yX2_timesOf cX2_timesOf 4 (some .int), Cond.fieldLink RX2 18 "CutOnce$Pile" "count" "I", Cond.fieldLink RX2 9 "CutOnce$Pile" "pieceOf" "[I"]
def wsX5_missing : List Cond := .code yX5_missing cX5_missing 2 (some .int) :: ((wsX5_missing_r1 ++ wsX5_missing_r2) ++ wsX50 ++ wsX10 ++ wsX20)
def wsX5_missingPiece : List Cond := .code yX5_missingPiece cX5_missingPiece 5 (some .int) :: ([.fieldLink RX5 12 "CutOnce" "thePicture" "LCutOnce$Picture;", .methodLink RX5 166 yX1_pieces, .instanceMethod yX1_pieces, .selects RX1 yX1_pieces yX1_pieces, .initialized RX1, .code yX1_pieces cX1_pieces 1 (some .int), .fieldLink RX1 22 "CutOnce$Picture" "w" "I", .fieldLink RX1 26 "CutOnce$Picture" "h" "I", .methodLink RX5 258 yX5_isMissing, .instanceMethod yX5_isMissing, .selects RX5 yX5_isMissing yX5_isMissing, .initialized RX5, .code yX5_isMissing cX5_isMissing 4 (some .boolean), .fieldLink RX5 21 "CutOnce" "thePile" "LCutOnce$Pile;", .methodLink RX5 215 yX2_timesOf, .instanceMethod yX2_timesOf, .selects RX2 yX2_timesOf yX2_timesOf, .initialized RX2, .code yX2_timesOf cX2_timesOf 4 (some .int), .fieldLink RX2 18 "CutOnce$Pile" "count" "I", .fieldLink RX2 9 "CutOnce$Pile" "pieceOf" "[I"] ++ wsX50 ++ wsX10 ++ wsX20)
def wsX5_missed_r1 : List Cond := [Cond.methodLink RX5 188 yX5_isMissingWhat, Cond.static yX5_isMissingWhat, Cond.initialized RX5, Cond.code yX5_isMissingWhat cX5_isMissingWhat 1 (some .boolean), Cond.methodLink RX5 194 yX5_missingPiece, Cond.instanceMethod yX5_missingPiece, Cond.selects RX5 yX5_missingPiece yX5_missingPiece, Cond.code yX5_missingPiece cX5_missingPiece 5 (some .int), Cond.fieldLink RX5 12 "CutOnce" "thePicture" "LCutOnce$Picture;", Cond.methodLink RX5 166 yX1_pieces, Cond.instanceMethod yX1_pieces, Cond.selects RX1 yX1_pieces yX1_pieces, Cond.initialized RX1, Cond.code yX1_pieces cX1_pieces 1 (some .int), Cond.fieldLink RX1 22 "CutOnce$Picture" "w" "I", Cond.fieldLink RX1 26 "CutOnce$Picture" "h" "I", Cond.methodLink RX5 258 yX5_isMissing, Cond.instanceMethod yX5_isMissing, Cond.selects RX5 yX5_isMissing yX5_isMissing, Cond.code yX5_isMissing cX5_isMissing 4 (some .boolean), Cond.fieldLink RX5 21 "CutOnce" "thePile" "LCutOnce$Pile;", Cond.methodLink RX5 215 yX2_timesOf, Cond.instanceMethod yX2_timesOf, Cond.selects RX2 yX2_timesOf yX2_timesOf]
def wsX5_missed_r2 : List Cond := [Cond.initialized RX2, Cond.code yX2_timesOf cX2_timesOf 4 (some .int), Cond.fieldLink RX2 18 "CutOnce$Pile" "count" "I", Cond.fieldLink RX2 9 "CutOnce$Pile" "pieceOf" "[I"]
def wsX5_missed : List Cond := .code yX5_missed cX5_missed 3 (some .int) :: ((wsX5_missed_r1 ++ wsX5_missed_r2) ++ wsX50 ++ wsX10 ++ wsX20)
def wsX5_ways_r1 : List Cond := [Cond.fieldLink RX5 30 "CutOnce" "theSearch" "LCutOnce$Search;", Cond.methodLink RX5 197 yX3_countWays, Cond.instanceMethod yX3_countWays, Cond.selects RX3 yX3_countWays yX3_countWays, Cond.initialized RX3, Cond.code yX3_countWays cX3_countWays 1 (some .int), Cond.fieldLink RX3 55 "CutOnce$Search" "spent" "Z", Cond.fieldLink RX3 58 "CutOnce$Search" "found" "I", Cond.methodLink RX3 51 yX3_run, Cond.instanceMethod yX3_run, Cond.selects RX3 yX3_run yX3_run, Cond.code yX3_run cX3_run 3 none, Cond.fieldLink RX3 21 "CutOnce$Search" "used" "[Z", Cond.fieldLink RX3 35 "CutOnce$Search" "pile" "LCutOnce$Pile;", Cond.fieldLink RX3 80 "CutOnce$Search" "firstOnly" "Z", Cond.fieldLink RX3 39 "CutOnce$Search" "trialCount" "I", Cond.methodLink RX3 71 yX2_size, Cond.instanceMethod yX2_size, Cond.selects RX2 yX2_size yX2_size, Cond.initialized RX2, Cond.code yX2_size cX2_size 1 (some .int), Cond.fieldLink RX2 18 "CutOnce$Pile" "count" "I", Cond.methodLink RX3 76 yX3_readEdges, Cond.instanceMethod yX3_readEdges]
def wsX5_ways_r2 : List Cond := [Cond.selects RX3 yX3_readEdges yX3_readEdges, Cond.code yX3_readEdges cX3_readEdges 9 none, Cond.fieldLink RX3 31 "CutOnce$Search" "goal" "LCutOnce$Picture;", Cond.fieldLink RX3 9 "CutOnce$Search" "shown" "[I", Cond.fieldLink RX3 15 "CutOnce$Search" "fitting" "[I", Cond.methodLink RX3 86 yX2_pieceAt, Cond.instanceMethod yX2_pieceAt, Cond.selects RX2 yX2_pieceAt yX2_pieceAt, Cond.code yX2_pieceAt cX2_pieceAt 2 (some .int), Cond.fieldLink RX2 9 "CutOnce$Pile" "pieceOf" "[I", Cond.methodLink RX2 22 yX2_hasPlace, Cond.instanceMethod yX2_hasPlace, Cond.selects RX2 yX2_hasPlace yX2_hasPlace, Cond.code yX2_hasPlace cX2_hasPlace 2 (some .boolean), Cond.methodLink RX3 90 yX1_isFlat, Cond.instanceMethod yX1_isFlat, Cond.selects RX1 yX1_isFlat yX1_isFlat, Cond.initialized RX1, Cond.code yX1_isFlat cX1_isFlat 3 (some .boolean), Cond.methodLink RX1 47 yX1_sideAt, Cond.instanceMethod yX1_sideAt, Cond.selects RX1 yX1_sideAt yX1_sideAt, Cond.code yX1_sideAt cX1_sideAt 4 (some .int), Cond.fieldLink RX1 15 "CutOnce$Picture" "sideOfEdge" "[I"]
def wsX5_ways_r3 : List Cond := [Cond.methodLink RX3 94 yX3_codeOf, Cond.instanceMethod yX3_codeOf, Cond.selects RX3 yX3_codeOf yX3_codeOf, Cond.code yX3_codeOf cX3_codeOf 5 (some .int), Cond.methodLink RX3 104 yX1_edgeHeight, Cond.instanceMethod yX1_edgeHeight, Cond.selects RX1 yX1_edgeHeight yX1_edgeHeight, Cond.code yX1_edgeHeight cX1_edgeHeight 5 (some .int), Cond.methodLink RX1 51 yX1_heightAt, Cond.instanceMethod yX1_heightAt, Cond.selects RX1 yX1_heightAt yX1_heightAt, Cond.code yX1_heightAt cX1_heightAt 5 (some .int), Cond.fieldLink RX1 9 "CutOnce$Picture" "heights" "[I", Cond.methodLink RX3 98 yX3_mateOf, Cond.instanceMethod yX3_mateOf, Cond.selects RX3 yX3_mateOf yX3_mateOf, Cond.code yX3_mateOf cX3_mateOf 5 (some .int), Cond.methodLink RX3 101 yX2_turnAt, Cond.instanceMethod yX2_turnAt, Cond.selects RX2 yX2_turnAt yX2_turnAt, Cond.code yX2_turnAt cX2_turnAt 2 (some .int), Cond.fieldLink RX2 15 "CutOnce$Pile" "turnOf" "[I", Cond.methodLink RX3 67 yX3_note, Cond.static yX3_note]
def wsX5_ways_r4 : List Cond := [Cond.code yX3_note cX3_note 3 none, Cond.methodLink RX3 83 yX3_fillFrom, Cond.instanceMethod yX3_fillFrom, Cond.selects RX3 yX3_fillFrom yX3_fillFrom, Cond.code yX3_fillFrom cX3_fillFrom 5 none, Cond.methodLink RX3 111 Lib.Math.min.name, Cond.static Lib.Math.min.name, Cond.initialized "java/lang/Math", Cond.code Lib.Math.min.name Lib.Math.min.code 2 (some .int), Cond.constant RX3 116 (60000), Cond.fieldLink RX3 25 "CutOnce$Search" "lying" "[I", Cond.methodLink RX3 61 yX1_pieces, Cond.instanceMethod yX1_pieces, Cond.selects RX1 yX1_pieces yX1_pieces, Cond.code yX1_pieces cX1_pieces 1 (some .int), Cond.fieldLink RX1 22 "CutOnce$Picture" "w" "I", Cond.fieldLink RX1 26 "CutOnce$Picture" "h" "I", Cond.methodLink RX3 108 yX3_lookAround, Cond.instanceMethod yX3_lookAround, Cond.selects RX3 yX3_lookAround yX3_lookAround, Cond.code yX3_lookAround cX3_lookAround 6 none, Cond.fieldLink RX3 18 "CutOnce$Search" "wanted" "[I", Cond.methodLink RX3 120 yX1_nextTo, Cond.instanceMethod yX1_nextTo]
def wsX5_ways_r5 : List Cond := [Cond.selects RX1 yX1_nextTo yX1_nextTo, Cond.code yX1_nextTo cX1_nextTo 3 (some .int), Cond.methodLink RX3 47 yX3_look, Cond.static yX3_look, Cond.code yX3_look cX3_look 2 (some .int), Cond.methodLink RX3 117 yX3_fits, Cond.instanceMethod yX3_fits, Cond.selects RX3 yX3_fits yX3_fits, Cond.code yX3_fits cX3_fits 8 (some .boolean)]
def wsX5_ways : List Cond := .code yX5_ways cX5_ways 1 (some .int) :: ((wsX5_ways_r1 ++ (wsX5_ways_r2 ++ (wsX5_ways_r3 ++ (wsX5_ways_r4 ++ wsX5_ways_r5)))) ++ wsX50 ++ wsX30 ++ wsX20 ++ wsX10)
def wsX5_join_r1 : List Cond := [Cond.fieldLink RX5 30 "CutOnce" "theSearch" "LCutOnce$Search;", Cond.methodLink RX5 200 yX3_findFirst, Cond.instanceMethod yX3_findFirst, Cond.selects RX3 yX3_findFirst yX3_findFirst, Cond.initialized RX3, Cond.code yX3_findFirst cX3_findFirst 2 (some .int), Cond.fieldLink RX3 55 "CutOnce$Search" "spent" "Z", Cond.fieldLink RX3 58 "CutOnce$Search" "found" "I", Cond.fieldLink RX3 43 "CutOnce$Search" "joinedOnce" "Z", Cond.fieldLink RX3 31 "CutOnce$Search" "goal" "LCutOnce$Picture;", Cond.fieldLink RX3 28 "CutOnce$Search" "joinedLying" "[I", Cond.fieldLink RX3 25 "CutOnce$Search" "lying" "[I", Cond.methodLink RX3 51 yX3_run, Cond.instanceMethod yX3_run, Cond.selects RX3 yX3_run yX3_run, Cond.code yX3_run cX3_run 3 none, Cond.fieldLink RX3 21 "CutOnce$Search" "used" "[Z", Cond.fieldLink RX3 35 "CutOnce$Search" "pile" "LCutOnce$Pile;", Cond.fieldLink RX3 80 "CutOnce$Search" "firstOnly" "Z", Cond.fieldLink RX3 39 "CutOnce$Search" "trialCount" "I", Cond.methodLink RX3 71 yX2_size, Cond.instanceMethod yX2_size, Cond.selects RX2 yX2_size yX2_size, Cond.initialized RX2]
def wsX5_join_r2 : List Cond := [Cond.code yX2_size cX2_size 1 (some .int), Cond.fieldLink RX2 18 "CutOnce$Pile" "count" "I", Cond.methodLink RX3 76 yX3_readEdges, Cond.instanceMethod yX3_readEdges, Cond.selects RX3 yX3_readEdges yX3_readEdges, Cond.code yX3_readEdges cX3_readEdges 9 none, Cond.fieldLink RX3 9 "CutOnce$Search" "shown" "[I", Cond.fieldLink RX3 15 "CutOnce$Search" "fitting" "[I", Cond.methodLink RX3 86 yX2_pieceAt, Cond.instanceMethod yX2_pieceAt, Cond.selects RX2 yX2_pieceAt yX2_pieceAt, Cond.code yX2_pieceAt cX2_pieceAt 2 (some .int), Cond.fieldLink RX2 9 "CutOnce$Pile" "pieceOf" "[I", Cond.methodLink RX2 22 yX2_hasPlace, Cond.instanceMethod yX2_hasPlace, Cond.selects RX2 yX2_hasPlace yX2_hasPlace, Cond.code yX2_hasPlace cX2_hasPlace 2 (some .boolean), Cond.methodLink RX3 90 yX1_isFlat, Cond.instanceMethod yX1_isFlat, Cond.selects RX1 yX1_isFlat yX1_isFlat, Cond.initialized RX1, Cond.code yX1_isFlat cX1_isFlat 3 (some .boolean), Cond.methodLink RX1 47 yX1_sideAt, Cond.instanceMethod yX1_sideAt]
def wsX5_join_r3 : List Cond := [Cond.selects RX1 yX1_sideAt yX1_sideAt, Cond.code yX1_sideAt cX1_sideAt 4 (some .int), Cond.fieldLink RX1 15 "CutOnce$Picture" "sideOfEdge" "[I", Cond.methodLink RX3 94 yX3_codeOf, Cond.instanceMethod yX3_codeOf, Cond.selects RX3 yX3_codeOf yX3_codeOf, Cond.code yX3_codeOf cX3_codeOf 5 (some .int), Cond.methodLink RX3 104 yX1_edgeHeight, Cond.instanceMethod yX1_edgeHeight, Cond.selects RX1 yX1_edgeHeight yX1_edgeHeight, Cond.code yX1_edgeHeight cX1_edgeHeight 5 (some .int), Cond.methodLink RX1 51 yX1_heightAt, Cond.instanceMethod yX1_heightAt, Cond.selects RX1 yX1_heightAt yX1_heightAt, Cond.code yX1_heightAt cX1_heightAt 5 (some .int), Cond.fieldLink RX1 9 "CutOnce$Picture" "heights" "[I", Cond.methodLink RX3 98 yX3_mateOf, Cond.instanceMethod yX3_mateOf, Cond.selects RX3 yX3_mateOf yX3_mateOf, Cond.code yX3_mateOf cX3_mateOf 5 (some .int), Cond.methodLink RX3 101 yX2_turnAt, Cond.instanceMethod yX2_turnAt, Cond.selects RX2 yX2_turnAt yX2_turnAt, Cond.code yX2_turnAt cX2_turnAt 2 (some .int)]
def wsX5_join_r4 : List Cond := [Cond.fieldLink RX2 15 "CutOnce$Pile" "turnOf" "[I", Cond.methodLink RX3 67 yX3_note, Cond.static yX3_note, Cond.code yX3_note cX3_note 3 none, Cond.methodLink RX3 83 yX3_fillFrom, Cond.instanceMethod yX3_fillFrom, Cond.selects RX3 yX3_fillFrom yX3_fillFrom, Cond.code yX3_fillFrom cX3_fillFrom 5 none, Cond.methodLink RX3 111 Lib.Math.min.name, Cond.static Lib.Math.min.name, Cond.initialized "java/lang/Math", Cond.code Lib.Math.min.name Lib.Math.min.code 2 (some .int), Cond.constant RX3 116 (60000), Cond.methodLink RX3 61 yX1_pieces, Cond.instanceMethod yX1_pieces, Cond.selects RX1 yX1_pieces yX1_pieces, Cond.code yX1_pieces cX1_pieces 1 (some .int), Cond.fieldLink RX1 22 "CutOnce$Picture" "w" "I", Cond.fieldLink RX1 26 "CutOnce$Picture" "h" "I", Cond.methodLink RX3 108 yX3_lookAround, Cond.instanceMethod yX3_lookAround, Cond.selects RX3 yX3_lookAround yX3_lookAround, Cond.code yX3_lookAround cX3_lookAround 6 none, Cond.fieldLink RX3 18 "CutOnce$Search" "wanted" "[I"]
def wsX5_join_r5 : List Cond := [Cond.methodLink RX3 120 yX1_nextTo, Cond.instanceMethod yX1_nextTo, Cond.selects RX1 yX1_nextTo yX1_nextTo, Cond.code yX1_nextTo cX1_nextTo 3 (some .int), Cond.methodLink RX3 47 yX3_look, Cond.static yX3_look, Cond.code yX3_look cX3_look 2 (some .int), Cond.methodLink RX3 117 yX3_fits, Cond.instanceMethod yX3_fits, Cond.selects RX3 yX3_fits yX3_fits, Cond.code yX3_fits cX3_fits 8 (some .boolean)]
def wsX5_join : List Cond := .code yX5_join cX5_join 1 (some .int) :: ((wsX5_join_r1 ++ (wsX5_join_r2 ++ (wsX5_join_r3 ++ (wsX5_join_r4 ++ wsX5_join_r5)))) ++ wsX50 ++ wsX30 ++ wsX20 ++ wsX10)
def wsX5_joined_r1 : List Cond := [Cond.fieldLink RX5 30 "CutOnce" "theSearch" "LCutOnce$Search;", Cond.fieldLink RX5 12 "CutOnce" "thePicture" "LCutOnce$Picture;", Cond.methodLink RX5 203 yX3_hasJoined, Cond.instanceMethod yX3_hasJoined, Cond.selects RX3 yX3_hasJoined yX3_hasJoined, Cond.initialized RX3, Cond.code yX3_hasJoined cX3_hasJoined 1 (some .boolean), Cond.fieldLink RX3 43 "CutOnce$Search" "joinedOnce" "Z", Cond.methodLink RX5 154 yX1_hasPiece, Cond.instanceMethod yX1_hasPiece, Cond.selects RX1 yX1_hasPiece yX1_hasPiece, Cond.initialized RX1, Cond.code yX1_hasPiece cX1_hasPiece 2 (some .boolean), Cond.methodLink RX1 40 yX1_pieces, Cond.instanceMethod yX1_pieces, Cond.selects RX1 yX1_pieces yX1_pieces, Cond.code yX1_pieces cX1_pieces 1 (some .int), Cond.fieldLink RX1 22 "CutOnce$Picture" "w" "I", Cond.fieldLink RX1 26 "CutOnce$Picture" "h" "I", Cond.methodLink RX5 206 yX3_joinedFrom, Cond.instanceMethod yX3_joinedFrom, Cond.selects RX3 yX3_joinedFrom yX3_joinedFrom, Cond.code yX3_joinedFrom cX3_joinedFrom 2 (some .int), Cond.fieldLink RX3 28 "CutOnce$Search" "joinedLying" "[I"]
def wsX5_joined_r2 : List Cond := [Cond.methodLink RX3 47 yX3_look, Cond.static yX3_look, Cond.code yX3_look cX3_look 2 (some .int), Cond.methodLink RX5 209 yX3_joinedTurn, Cond.instanceMethod yX3_joinedTurn, Cond.selects RX3 yX3_joinedTurn yX3_joinedTurn, Cond.code yX3_joinedTurn cX3_joinedTurn 2 (some .int)]
def wsX5_joined : List Cond := .code yX5_joined cX5_joined 3 (some .int) :: ((wsX5_joined_r1 ++ wsX5_joined_r2) ++ wsX50 ++ wsX30 ++ wsX10)
def wsX5_trials : List Cond := .code yX5_trials cX5_trials 1 (some .int) :: ([.fieldLink RX5 30 "CutOnce" "theSearch" "LCutOnce$Search;", .methodLink RX5 212 yX3_trialsCounted, .instanceMethod yX3_trialsCounted, .selects RX3 yX3_trialsCounted yX3_trialsCounted, .initialized RX3, .code yX3_trialsCounted cX3_trialsCounted 1 (some .int), .fieldLink RX3 39 "CutOnce$Search" "trialCount" "I"] ++ wsX50 ++ wsX30)
def wsX5_known_r1 : List Cond := [Cond.fieldLink RX5 12 "CutOnce" "thePicture" "LCutOnce$Picture;", Cond.fieldLink RX5 21 "CutOnce" "thePile" "LCutOnce$Pile;", Cond.methodLink RX5 154 yX1_hasPiece, Cond.instanceMethod yX1_hasPiece, Cond.selects RX1 yX1_hasPiece yX1_hasPiece, Cond.initialized RX1, Cond.code yX1_hasPiece cX1_hasPiece 2 (some .boolean), Cond.methodLink RX1 40 yX1_pieces, Cond.instanceMethod yX1_pieces, Cond.selects RX1 yX1_pieces yX1_pieces, Cond.code yX1_pieces cX1_pieces 1 (some .int), Cond.fieldLink RX1 22 "CutOnce$Picture" "w" "I", Cond.fieldLink RX1 26 "CutOnce$Picture" "h" "I", Cond.methodLink RX5 215 yX2_timesOf, Cond.instanceMethod yX2_timesOf, Cond.selects RX2 yX2_timesOf yX2_timesOf, Cond.initialized RX2, Cond.code yX2_timesOf cX2_timesOf 4 (some .int), Cond.fieldLink RX2 18 "CutOnce$Pile" "count" "I", Cond.fieldLink RX2 9 "CutOnce$Pile" "pieceOf" "[I", Cond.methodLink RX5 132 yX1_isFlat, Cond.instanceMethod yX1_isFlat, Cond.selects RX1 yX1_isFlat yX1_isFlat, Cond.code yX1_isFlat cX1_isFlat 3 (some .boolean)]
def wsX5_known_r2 : List Cond := [Cond.methodLink RX1 47 yX1_sideAt, Cond.instanceMethod yX1_sideAt, Cond.selects RX1 yX1_sideAt yX1_sideAt, Cond.code yX1_sideAt cX1_sideAt 4 (some .int), Cond.fieldLink RX1 15 "CutOnce$Picture" "sideOfEdge" "[I", Cond.methodLink RX5 218 yX1_nextTo, Cond.instanceMethod yX1_nextTo, Cond.selects RX1 yX1_nextTo yX1_nextTo, Cond.code yX1_nextTo cX1_nextTo 3 (some .int)]
def wsX5_known : List Cond := .code yX5_known cX5_known 4 (some .int) :: ((wsX5_known_r1 ++ wsX5_known_r2) ++ wsX50 ++ wsX10 ++ wsX20)
def wsJ9_abs_0f7a4 : List Cond := .code yJ9_abs_0f7a4 cJ9_abs_0f7a4 1 (some .int) :: ([])
def wsJ9_min_7cf53 : List Cond := .code yJ9_min_7cf53 cJ9_min_7cf53 2 (some .int) :: ([])
def wsL_cell : List Cond := .code yL_cell cL_cell 2 (some .int) :: ([.constant RL 7 (15485863)])
def wsL_low : List Cond := .code yL_low cL_low 2 (some .int) :: ([.constant RL 8 (2147483647)])
def wsL_fits_r1 : List Cond := [Cond.methodLink RL 9 yX5_heaped, Cond.instanceMethod yX5_heaped, Cond.selects RX5 yX5_heaped yX5_heaped, Cond.initialized RX5, Cond.code yX5_heaped cX5_heaped 3 (some .int), Cond.fieldLink RX5 21 "CutOnce" "thePile" "LCutOnce$Pile;", Cond.methodLink RX5 175 yX2_hasPlace, Cond.instanceMethod yX2_hasPlace, Cond.selects RX2 yX2_hasPlace yX2_hasPlace, Cond.initialized RX2, Cond.code yX2_hasPlace cX2_hasPlace 2 (some .boolean), Cond.fieldLink RX2 18 "CutOnce$Pile" "count" "I", Cond.methodLink RX5 178 yX2_pieceAt, Cond.instanceMethod yX2_pieceAt, Cond.selects RX2 yX2_pieceAt yX2_pieceAt, Cond.code yX2_pieceAt cX2_pieceAt 2 (some .int), Cond.fieldLink RX2 9 "CutOnce$Pile" "pieceOf" "[I", Cond.methodLink RX2 22 yX2_hasPlace, Cond.methodLink RX5 185 yX2_turnAt, Cond.instanceMethod yX2_turnAt, Cond.selects RX2 yX2_turnAt yX2_turnAt, Cond.code yX2_turnAt cX2_turnAt 2 (some .int), Cond.fieldLink RX2 15 "CutOnce$Pile" "turnOf" "[I", Cond.methodLink RL 15 yX5_sideOf]
def wsL_fits_r2 : List Cond := [Cond.instanceMethod yX5_sideOf, Cond.selects RX5 yX5_sideOf yX5_sideOf, Cond.code yX5_sideOf cX5_sideOf 3 (some .int), Cond.fieldLink RX5 12 "CutOnce" "thePicture" "LCutOnce$Picture;", Cond.methodLink RX5 124 yX1_hasEdge, Cond.instanceMethod yX1_hasEdge, Cond.selects RX1 yX1_hasEdge yX1_hasEdge, Cond.initialized RX1, Cond.code yX1_hasEdge cX1_hasEdge 3 (some .boolean), Cond.methodLink RX1 43 yX1_hasPiece, Cond.instanceMethod yX1_hasPiece, Cond.selects RX1 yX1_hasPiece yX1_hasPiece, Cond.code yX1_hasPiece cX1_hasPiece 2 (some .boolean), Cond.methodLink RX1 40 yX1_pieces, Cond.instanceMethod yX1_pieces, Cond.selects RX1 yX1_pieces yX1_pieces, Cond.code yX1_pieces cX1_pieces 1 (some .int), Cond.fieldLink RX1 22 "CutOnce$Picture" "w" "I", Cond.fieldLink RX1 26 "CutOnce$Picture" "h" "I", Cond.methodLink RX5 128 yX1_sideAt, Cond.instanceMethod yX1_sideAt, Cond.selects RX1 yX1_sideAt yX1_sideAt, Cond.code yX1_sideAt cX1_sideAt 4 (some .int), Cond.fieldLink RX1 15 "CutOnce$Picture" "sideOfEdge" "[I"]
def wsL_fits_r3 : List Cond := [Cond.methodLink RL 18 yX5_far, Cond.instanceMethod yX5_far, Cond.selects RX5 yX5_far yX5_far, Cond.code yX5_far cX5_far 5 (some .int), Cond.methodLink RX5 132 yX1_isFlat, Cond.instanceMethod yX1_isFlat, Cond.selects RX1 yX1_isFlat yX1_isFlat, Cond.code yX1_isFlat cX1_isFlat 3 (some .boolean), Cond.methodLink RX1 47 yX1_sideAt, Cond.methodLink RX5 138 yX1_farness, Cond.instanceMethod yX1_farness, Cond.selects RX1 yX1_farness yX1_farness, Cond.code yX1_farness cX1_farness 7 (some .int), Cond.methodLink RX1 58 Lib.Math.abs.name, Cond.static Lib.Math.abs.name, Cond.initialized "java/lang/Math", Cond.code Lib.Math.abs.name Lib.Math.abs.code 1 (some .int), Cond.methodLink RX1 55 yX1_edgeHeight, Cond.instanceMethod yX1_edgeHeight, Cond.selects RX1 yX1_edgeHeight yX1_edgeHeight, Cond.code yX1_edgeHeight cX1_edgeHeight 5 (some .int), Cond.methodLink RX1 51 yX1_heightAt, Cond.instanceMethod yX1_heightAt, Cond.selects RX1 yX1_heightAt yX1_heightAt]
def wsL_fits_r4 : List Cond := [Cond.code yX1_heightAt cX1_heightAt 5 (some .int), Cond.fieldLink RX1 9 "CutOnce$Picture" "heights" "[I"]
def wsL_fits : List Cond := .code yL_fits cL_fits 14 (some .boolean) :: ((wsL_fits_r1 ++ (wsL_fits_r2 ++ (wsL_fits_r3 ++ wsL_fits_r4))) ++ wsX50 ++ wsX20 ++ wsX10)
def wsL_law_r1 : List Cond := [Cond.classLink RL 10 RX5, Cond.instantiable RX5 7, Cond.initialized RX5, Cond.constantLong RL 35 (65537), Cond.constantLong RL 45 (131), Cond.arrayClass .int, Cond.constant RL 63 (60000), Cond.methodLink RL 22 yX5_init, Cond.instanceMethod yX5_init, Cond.code yX5_init cX5_init 2 none, Cond.methodLink RX5 3 objectInit, Cond.instanceMethod objectInit, Cond.code objectInit ⟨#[0xb1]⟩ 1 none, Cond.classLink RX5 9 RX1, Cond.instantiable RX1 4, Cond.initialized RX1, Cond.fieldLink RX5 12 "CutOnce" "thePicture" "LCutOnce$Picture;", Cond.classLink RX5 18 RX2, Cond.instantiable RX2 3, Cond.initialized RX2, Cond.fieldLink RX5 21 "CutOnce" "thePile" "LCutOnce$Pile;", Cond.classLink RX5 25 RX3, Cond.instantiable RX3 13, Cond.initialized RX3]
def wsL_law_r2 : List Cond := [Cond.fieldLink RX5 30 "CutOnce" "theSearch" "LCutOnce$Search;", Cond.classLink RX5 34 RX0, Cond.instantiable RX0 1, Cond.initialized RX0, Cond.fieldLink RX5 37 "CutOnce" "theDraw" "LCutOnce$Draw;", Cond.classLink RX5 41 RX4, Cond.fieldLink RX5 43 "CutOnce" "sheets" "[LCutOnce$Sheet;", Cond.instantiable RX4 4, Cond.initialized RX4, Cond.methodLink RX5 11 yX1_init, Cond.instanceMethod yX1_init, Cond.code yX1_init cX1_init 1 none, Cond.methodLink RX1 3 objectInit, Cond.fieldLink RX1 9 "CutOnce$Picture" "heights" "[I", Cond.fieldLink RX1 15 "CutOnce$Picture" "sideOfEdge" "[I", Cond.methodLink RX1 18 yX1_cutAnew, Cond.instanceMethod yX1_cutAnew, Cond.selects RX1 yX1_cutAnew yX1_cutAnew, Cond.code yX1_cutAnew cX1_cutAnew 5 none, Cond.fieldLink RX1 22 "CutOnce$Picture" "w" "I", Cond.fieldLink RX1 26 "CutOnce$Picture" "h" "I", Cond.methodLink RX1 29 yX1_layEdges, Cond.instanceMethod yX1_layEdges, Cond.selects RX1 yX1_layEdges yX1_layEdges]
def wsL_law_r3 : List Cond := [Cond.code yX1_layEdges cX1_layEdges 6 none, Cond.methodLink RX1 32 yX1_setSide, Cond.instanceMethod yX1_setSide, Cond.selects RX1 yX1_setSide yX1_setSide, Cond.code yX1_setSide cX1_setSide 5 none, Cond.instanceMethod yX2_init, Cond.code yX2_init cX2_init 1 none, Cond.methodLink RX2 3 objectInit, Cond.fieldLink RX2 9 "CutOnce$Pile" "pieceOf" "[I", Cond.fieldLink RX2 15 "CutOnce$Pile" "turnOf" "[I", Cond.methodLink RX5 27 yX3_init, Cond.instanceMethod yX3_init, Cond.code yX3_init cX3_init 3 none, Cond.methodLink RX3 3 objectInit, Cond.fieldLink RX3 9 "CutOnce$Search" "shown" "[I", Cond.fieldLink RX3 15 "CutOnce$Search" "fitting" "[I", Cond.fieldLink RX3 18 "CutOnce$Search" "wanted" "[I", Cond.arrayClass .boolean, Cond.fieldLink RX3 21 "CutOnce$Search" "used" "[Z", Cond.fieldLink RX3 25 "CutOnce$Search" "lying" "[I", Cond.fieldLink RX3 28 "CutOnce$Search" "joinedLying" "[I", Cond.fieldLink RX3 31 "CutOnce$Search" "goal" "LCutOnce$Picture;", Cond.fieldLink RX3 35 "CutOnce$Search" "pile" "LCutOnce$Pile;", Cond.instanceMethod yX0_init]
def wsL_law_r4 : List Cond := [Cond.code yX0_init cX0_init 1 none, Cond.methodLink RX0 1 objectInit, Cond.instanceMethod yX4_init, Cond.code yX4_init cX4_init 1 none, Cond.methodLink RX4 3 objectInit, Cond.fieldLink RX4 9 "CutOnce$Sheet" "cells" "[I", Cond.methodLink RL 23 yL_cell, Cond.static yL_cell, Cond.initialized RL, Cond.code yL_cell cL_cell 2 (some .int), Cond.constant RL 7 (15485863), Cond.methodLink RL 29 yL_low, Cond.static yL_low, Cond.code yL_low cL_low 2 (some .int), Cond.constant RL 8 (2147483647), Cond.methodLink RL 32 yX5_picture, Cond.instanceMethod yX5_picture, Cond.selects RX5 yX5_picture yX5_picture, Cond.code yX5_picture cX5_picture 3 (some .int), Cond.methodLink RX5 48 yX1_cutAnew, Cond.methodLink RX5 52 yX2_clearAll, Cond.instanceMethod yX2_clearAll, Cond.selects RX2 yX2_clearAll yX2_clearAll, Cond.code yX2_clearAll cX2_clearAll 1 none]
def wsL_law_r5 : List Cond := [Cond.fieldLink RX2 18 "CutOnce$Pile" "count" "I", Cond.methodLink RX5 55 yX3_forgetJoined, Cond.instanceMethod yX3_forgetJoined, Cond.selects RX3 yX3_forgetJoined yX3_forgetJoined, Cond.code yX3_forgetJoined cX3_forgetJoined 1 none, Cond.fieldLink RX3 43 "CutOnce$Search" "joinedOnce" "Z", Cond.methodLink RX5 58 yX1_sides, Cond.instanceMethod yX1_sides, Cond.selects RX1 yX1_sides yX1_sides, Cond.code yX1_sides cX1_sides 1 (some .int), Cond.methodLink RL 37 yX5_make, Cond.instanceMethod yX5_make, Cond.selects RX5 yX5_make yX5_make, Cond.code yX5_make cX5_make 5 (some .int), Cond.methodLink RX5 62 yX0_begin, Cond.instanceMethod yX0_begin, Cond.selects RX0 yX0_begin yX0_begin, Cond.code yX0_begin cX0_begin 3 none, Cond.fieldLink RX0 7 "CutOnce$Draw" "now" "J", Cond.methodLink RX5 66 yX0_below, Cond.instanceMethod yX0_below, Cond.selects RX0 yX0_below yX0_below, Cond.code yX0_below cX0_below 2 (some .int), Cond.constantLong RX0 13 (6364136223846793005)]
def wsL_law_r6 : List Cond := [Cond.constantLong RX0 15 (1442695040888963407), Cond.constantLong RX0 17 (2147483647), Cond.constantLong RX0 19 (4096), Cond.methodLink RX5 70 yX1_setHeight, Cond.instanceMethod yX1_setHeight, Cond.selects RX1 yX1_setHeight yX1_setHeight, Cond.code yX1_setHeight cX1_setHeight 5 none, Cond.methodLink RL 41 yX5_bend, Cond.instanceMethod yX5_bend, Cond.selects RX5 yX5_bend yX5_bend, Cond.code yX5_bend cX5_bend 5 (some .long), Cond.constantLong RX5 84 (-9223372036854775808), Cond.methodLink RX5 74 yX1_hasSide, Cond.instanceMethod yX1_hasSide, Cond.selects RX1 yX1_hasSide yX1_hasSide, Cond.code yX1_hasSide cX1_hasSide 2 (some .boolean), Cond.methodLink RX1 36 yX1_sides, Cond.methodLink RX5 78 yX5_isHeightPlace, Cond.static yX5_isHeightPlace, Cond.code yX5_isHeightPlace cX5_isHeightPlace 1 (some .boolean), Cond.methodLink RX5 81 yX5_isHeight, Cond.static yX5_isHeight, Cond.code yX5_isHeight cX5_isHeight 1 (some .boolean), Cond.methodLink RX5 86 yX1_heightAt]
def wsL_law_r7 : List Cond := [Cond.instanceMethod yX1_heightAt, Cond.selects RX1 yX1_heightAt yX1_heightAt, Cond.code yX1_heightAt cX1_heightAt 5 (some .int), Cond.methodLink RL 47 yX5_heap, Cond.instanceMethod yX5_heap, Cond.selects RX5 yX5_heap yX5_heap, Cond.code yX5_heap cX5_heap 4 (some .int), Cond.methodLink RX5 166 yX1_pieces, Cond.instanceMethod yX1_pieces, Cond.selects RX1 yX1_pieces yX1_pieces, Cond.code yX1_pieces cX1_pieces 1 (some .int), Cond.methodLink RX5 160 yX2_append, Cond.instanceMethod yX2_append, Cond.selects RX2 yX2_append yX2_append, Cond.code yX2_append cX2_append 3 none, Cond.methodLink RX2 26 yX2_isFull, Cond.instanceMethod yX2_isFull, Cond.selects RX2 yX2_isFull yX2_isFull, Cond.code yX2_isFull cX2_isFull 1 (some .boolean), Cond.methodLink RX5 163 yX2_size, Cond.instanceMethod yX2_size, Cond.selects RX2 yX2_size yX2_size, Cond.code yX2_size cX2_size 1 (some .int), Cond.methodLink RX5 169 yX2_swapPieces]
def wsL_law_r8 : List Cond := [Cond.instanceMethod yX2_swapPieces, Cond.selects RX2 yX2_swapPieces yX2_swapPieces, Cond.code yX2_swapPieces cX2_swapPieces 4 none, Cond.methodLink RX2 22 yX2_hasPlace, Cond.instanceMethod yX2_hasPlace, Cond.selects RX2 yX2_hasPlace yX2_hasPlace, Cond.code yX2_hasPlace cX2_hasPlace 2 (some .boolean), Cond.methodLink RX5 172 yX2_setTurn, Cond.instanceMethod yX2_setTurn, Cond.selects RX2 yX2_setTurn yX2_setTurn, Cond.code yX2_setTurn cX2_setTurn 3 none, Cond.methodLink RL 50 yX5_lay, Cond.instanceMethod yX5_lay, Cond.selects RX5 yX5_lay yX5_lay, Cond.code yX5_lay cX5_lay 3 (some .int), Cond.methodLink RX5 154 yX1_hasPiece, Cond.instanceMethod yX1_hasPiece, Cond.selects RX1 yX1_hasPiece yX1_hasPiece, Cond.code yX1_hasPiece cX1_hasPiece 2 (some .boolean), Cond.methodLink RX1 40 yX1_pieces, Cond.methodLink RX5 157 yX2_isFull, Cond.methodLink RL 9 yX5_heaped, Cond.instanceMethod yX5_heaped, Cond.selects RX5 yX5_heaped yX5_heaped]
def wsL_law_r9 : List Cond := [Cond.code yX5_heaped cX5_heaped 3 (some .int), Cond.methodLink RX5 175 yX2_hasPlace, Cond.methodLink RX5 178 yX2_pieceAt, Cond.instanceMethod yX2_pieceAt, Cond.selects RX2 yX2_pieceAt yX2_pieceAt, Cond.code yX2_pieceAt cX2_pieceAt 2 (some .int), Cond.methodLink RX5 185 yX2_turnAt, Cond.instanceMethod yX2_turnAt, Cond.selects RX2 yX2_turnAt yX2_turnAt, Cond.code yX2_turnAt cX2_turnAt 2 (some .int), Cond.methodLink RL 15 yX5_sideOf, Cond.instanceMethod yX5_sideOf, Cond.selects RX5 yX5_sideOf yX5_sideOf, Cond.code yX5_sideOf cX5_sideOf 3 (some .int), Cond.methodLink RX5 124 yX1_hasEdge, Cond.instanceMethod yX1_hasEdge, Cond.selects RX1 yX1_hasEdge yX1_hasEdge, Cond.code yX1_hasEdge cX1_hasEdge 3 (some .boolean), Cond.methodLink RX1 43 yX1_hasPiece, Cond.methodLink RX5 128 yX1_sideAt, Cond.instanceMethod yX1_sideAt, Cond.selects RX1 yX1_sideAt yX1_sideAt, Cond.code yX1_sideAt cX1_sideAt 4 (some .int), Cond.methodLink RL 53 yX5_known]
def wsL_law_r10 : List Cond := [Cond.instanceMethod yX5_known, Cond.selects RX5 yX5_known yX5_known, Cond.code yX5_known cX5_known 4 (some .int), Cond.methodLink RX5 215 yX2_timesOf, Cond.instanceMethod yX2_timesOf, Cond.selects RX2 yX2_timesOf yX2_timesOf, Cond.code yX2_timesOf cX2_timesOf 4 (some .int), Cond.methodLink RX5 132 yX1_isFlat, Cond.instanceMethod yX1_isFlat, Cond.selects RX1 yX1_isFlat yX1_isFlat, Cond.code yX1_isFlat cX1_isFlat 3 (some .boolean), Cond.methodLink RX1 47 yX1_sideAt, Cond.methodLink RX5 218 yX1_nextTo, Cond.instanceMethod yX1_nextTo, Cond.selects RX1 yX1_nextTo yX1_nextTo, Cond.code yX1_nextTo cX1_nextTo 3 (some .int), Cond.methodLink RL 57 yX5_missed, Cond.instanceMethod yX5_missed, Cond.selects RX5 yX5_missed yX5_missed, Cond.code yX5_missed cX5_missed 3 (some .int), Cond.methodLink RX5 188 yX5_isMissingWhat, Cond.static yX5_isMissingWhat, Cond.code yX5_isMissingWhat cX5_isMissingWhat 1 (some .boolean), Cond.methodLink RX5 194 yX5_missingPiece]
def wsL_law_r11 : List Cond := [Cond.instanceMethod yX5_missingPiece, Cond.selects RX5 yX5_missingPiece yX5_missingPiece, Cond.code yX5_missingPiece cX5_missingPiece 5 (some .int), Cond.methodLink RX5 258 yX5_isMissing, Cond.instanceMethod yX5_isMissing, Cond.selects RX5 yX5_isMissing yX5_isMissing, Cond.code yX5_isMissing cX5_isMissing 4 (some .boolean), Cond.methodLink RL 60 yX5_missing, Cond.instanceMethod yX5_missing, Cond.selects RX5 yX5_missing yX5_missing, Cond.code yX5_missing cX5_missing 2 (some .int), Cond.methodLink RX5 191 yX5_countMissing, Cond.instanceMethod yX5_countMissing, Cond.selects RX5 yX5_countMissing yX5_countMissing, Cond.code yX5_countMissing cX5_countMissing 4 (some .int), Cond.methodLink RL 64 yL_fits, Cond.static yL_fits, Cond.code yL_fits cL_fits 14 (some .boolean), Cond.methodLink RL 18 yX5_far, Cond.instanceMethod yX5_far, Cond.selects RX5 yX5_far yX5_far, Cond.code yX5_far cX5_far 5 (some .int), Cond.methodLink RX5 138 yX1_farness, Cond.instanceMethod yX1_farness]
def wsL_law_r12 : List Cond := [Cond.selects RX1 yX1_farness yX1_farness, Cond.code yX1_farness cX1_farness 7 (some .int), Cond.methodLink RX1 58 Lib.Math.abs.name, Cond.static Lib.Math.abs.name, Cond.initialized "java/lang/Math", Cond.code Lib.Math.abs.name Lib.Math.abs.code 1 (some .int), Cond.methodLink RX1 55 yX1_edgeHeight, Cond.instanceMethod yX1_edgeHeight, Cond.selects RX1 yX1_edgeHeight yX1_edgeHeight, Cond.code yX1_edgeHeight cX1_edgeHeight 5 (some .int), Cond.methodLink RX1 51 yX1_heightAt, Cond.methodLink RL 68 yX5_ways, Cond.instanceMethod yX5_ways, Cond.selects RX5 yX5_ways yX5_ways, Cond.code yX5_ways cX5_ways 1 (some .int), Cond.methodLink RX5 197 yX3_countWays, Cond.instanceMethod yX3_countWays, Cond.selects RX3 yX3_countWays yX3_countWays, Cond.code yX3_countWays cX3_countWays 1 (some .int), Cond.fieldLink RX3 55 "CutOnce$Search" "spent" "Z", Cond.fieldLink RX3 58 "CutOnce$Search" "found" "I", Cond.methodLink RX3 51 yX3_run, Cond.instanceMethod yX3_run, Cond.selects RX3 yX3_run yX3_run]
def wsL_law_r13 : List Cond := [Cond.code yX3_run cX3_run 3 none, Cond.fieldLink RX3 80 "CutOnce$Search" "firstOnly" "Z", Cond.fieldLink RX3 39 "CutOnce$Search" "trialCount" "I", Cond.methodLink RX3 71 yX2_size, Cond.methodLink RX3 76 yX3_readEdges, Cond.instanceMethod yX3_readEdges, Cond.selects RX3 yX3_readEdges yX3_readEdges, Cond.code yX3_readEdges cX3_readEdges 9 none, Cond.methodLink RX3 86 yX2_pieceAt, Cond.methodLink RX3 90 yX1_isFlat, Cond.methodLink RX3 94 yX3_codeOf, Cond.instanceMethod yX3_codeOf, Cond.selects RX3 yX3_codeOf yX3_codeOf, Cond.code yX3_codeOf cX3_codeOf 5 (some .int), Cond.methodLink RX3 104 yX1_edgeHeight, Cond.methodLink RX3 98 yX3_mateOf, Cond.instanceMethod yX3_mateOf, Cond.selects RX3 yX3_mateOf yX3_mateOf, Cond.code yX3_mateOf cX3_mateOf 5 (some .int), Cond.methodLink RX3 101 yX2_turnAt, Cond.methodLink RX3 67 yX3_note, Cond.static yX3_note, Cond.code yX3_note cX3_note 3 none, Cond.methodLink RX3 83 yX3_fillFrom]
def wsL_law_r14 : List Cond := [Cond.instanceMethod yX3_fillFrom, Cond.selects RX3 yX3_fillFrom yX3_fillFrom, Cond.code yX3_fillFrom cX3_fillFrom 5 none, Cond.methodLink RX3 111 Lib.Math.min.name, Cond.static Lib.Math.min.name, Cond.code Lib.Math.min.name Lib.Math.min.code 2 (some .int), Cond.constant RX3 116 (60000), Cond.methodLink RX3 61 yX1_pieces, Cond.methodLink RX3 108 yX3_lookAround, Cond.instanceMethod yX3_lookAround, Cond.selects RX3 yX3_lookAround yX3_lookAround, Cond.code yX3_lookAround cX3_lookAround 6 none, Cond.methodLink RX3 120 yX1_nextTo, Cond.methodLink RX3 47 yX3_look, Cond.static yX3_look, Cond.code yX3_look cX3_look 2 (some .int), Cond.methodLink RX3 117 yX3_fits, Cond.instanceMethod yX3_fits, Cond.selects RX3 yX3_fits yX3_fits, Cond.code yX3_fits cX3_fits 8 (some .boolean), Cond.methodLink RL 72 yX5_trials, Cond.instanceMethod yX5_trials, Cond.selects RX5 yX5_trials yX5_trials, Cond.code yX5_trials cX5_trials 1 (some .int)]
def wsL_law_r15 : List Cond := [Cond.methodLink RX5 212 yX3_trialsCounted, Cond.instanceMethod yX3_trialsCounted, Cond.selects RX3 yX3_trialsCounted yX3_trialsCounted, Cond.code yX3_trialsCounted cX3_trialsCounted 1 (some .int), Cond.methodLink RL 75 yX5_join, Cond.instanceMethod yX5_join, Cond.selects RX5 yX5_join yX5_join, Cond.code yX5_join cX5_join 1 (some .int), Cond.methodLink RX5 200 yX3_findFirst, Cond.instanceMethod yX3_findFirst, Cond.selects RX3 yX3_findFirst yX3_findFirst, Cond.code yX3_findFirst cX3_findFirst 2 (some .int), Cond.methodLink RL 78 yX5_joined, Cond.instanceMethod yX5_joined, Cond.selects RX5 yX5_joined yX5_joined, Cond.code yX5_joined cX5_joined 3 (some .int), Cond.methodLink RX5 203 yX3_hasJoined, Cond.instanceMethod yX3_hasJoined, Cond.selects RX3 yX3_hasJoined yX3_hasJoined, Cond.code yX3_hasJoined cX3_hasJoined 1 (some .boolean), Cond.methodLink RX5 206 yX3_joinedFrom, Cond.instanceMethod yX3_joinedFrom, Cond.selects RX3 yX3_joinedFrom yX3_joinedFrom, Cond.code yX3_joinedFrom cX3_joinedFrom 2 (some .int)]
def wsL_law_r16 : List Cond := [Cond.methodLink RX5 209 yX3_joinedTurn, Cond.instanceMethod yX3_joinedTurn, Cond.selects RX3 yX3_joinedTurn yX3_joinedTurn, Cond.code yX3_joinedTurn cX3_joinedTurn 2 (some .int), Cond.methodLink RL 81 yX5_take, Cond.instanceMethod yX5_take, Cond.selects RX5 yX5_take yX5_take, Cond.code yX5_take cX5_take 3 (some .int), Cond.methodLink RX5 181 yX2_removeAt, Cond.instanceMethod yX2_removeAt, Cond.selects RX2 yX2_removeAt yX2_removeAt, Cond.code yX2_removeAt cX2_removeAt 3 none]
def wsL_law : List Cond := (wsL_law_r1 ++ (wsL_law_r2 ++ (wsL_law_r3 ++ (wsL_law_r4 ++ (wsL_law_r5 ++ (wsL_law_r6 ++ (wsL_law_r7 ++ (wsL_law_r8 ++ (wsL_law_r9 ++ (wsL_law_r10 ++ (wsL_law_r11 ++ (wsL_law_r12 ++ (wsL_law_r13 ++ (wsL_law_r14 ++ (wsL_law_r15 ++ wsL_law_r16))))))))))))))) ++ wsX50 ++ wsX10 ++ wsX20 ++ wsX30 ++ wsX00 ++ wsX40 ++ ([] : List Cond)
theorem inJ9 : ∀ w ∈ wsJ90, w ∈ lw_tbl := by decide +kernel
theorem dJ9_abs_0f7a4_0 : decode cJ9_abs_0f7a4 0 = .ok (.iload_n 0, 1) := by decide +kernel
theorem dJ9_abs_0f7a4_1 : decode cJ9_abs_0f7a4 1 = .ok (.ifCond .ge 8, 3) := by decide +kernel
theorem dJ9_abs_0f7a4_4 : decode cJ9_abs_0f7a4 4 = .ok (.iload_n 0, 1) := by decide +kernel
theorem dJ9_abs_0f7a4_5 : decode cJ9_abs_0f7a4 5 = .ok (.ineg, 1) := by decide +kernel
theorem dJ9_abs_0f7a4_6 : decode cJ9_abs_0f7a4 6 = .ok (.goto 4, 3) := by decide +kernel
theorem dJ9_abs_0f7a4_9 : decode cJ9_abs_0f7a4 9 = .ok (.iload_n 0, 1) := by decide +kernel
theorem dJ9_abs_0f7a4_10 : decode cJ9_abs_0f7a4 10 = .ok (.ireturn, 1) := by decide +kernel
theorem dJ9_min_7cf53_0 : decode cJ9_min_7cf53 0 = .ok (.iload_n 0, 1) := by decide +kernel
theorem dJ9_min_7cf53_1 : decode cJ9_min_7cf53 1 = .ok (.iload_n 1, 1) := by decide +kernel
theorem dJ9_min_7cf53_2 : decode cJ9_min_7cf53 2 = .ok (.if_icmp .gt 7, 3) := by decide +kernel
theorem dJ9_min_7cf53_5 : decode cJ9_min_7cf53 5 = .ok (.iload_n 0, 1) := by decide +kernel
theorem dJ9_min_7cf53_6 : decode cJ9_min_7cf53 6 = .ok (.goto 4, 3) := by decide +kernel
theorem dJ9_min_7cf53_9 : decode cJ9_min_7cf53 9 = .ok (.iload_n 1, 1) := by decide +kernel
theorem dJ9_min_7cf53_10 : decode cJ9_min_7cf53 10 = .ok (.ireturn, 1) := by decide +kernel
abbrev vwCl : List vw_C := [(RX0, TX0, 1), (RX1, TX1, 4), (RX2, TX2, 3), (RX3, TX3, 13), (RX4, TX4, 4), (RX5, TX5, 7)]
end
section
theorem dX0_init_0 : decode cX0_init 0 = .ok (.aload_n 0, 1) := by decide +kernel
theorem dX0_init_1 : decode cX0_init 1 = .ok (.invokespecial 1, 3) := by decide +kernel
theorem dX0_init_4 : decode cX0_init 4 = .ok (.return_, 1) := by decide +kernel
theorem dX0_begin_0 : decode cX0_begin 0 = .ok (.aload_n 0, 1) := by decide +kernel
theorem dX0_begin_1 : decode cX0_begin 1 = .ok (.lload_n 1, 1) := by decide +kernel
theorem dX0_begin_2 : decode cX0_begin 2 = .ok (.putfield 7, 3) := by decide +kernel
theorem dX0_begin_5 : decode cX0_begin 5 = .ok (.return_, 1) := by decide +kernel
theorem dX0_below_0 : decode cX0_below 0 = .ok (.aload_n 0, 1) := by decide +kernel
theorem dX0_below_1 : decode cX0_below 1 = .ok (.aload_n 0, 1) := by decide +kernel
theorem dX0_below_2 : decode cX0_below 2 = .ok (.getfield 7, 3) := by decide +kernel
theorem dX0_below_5 : decode cX0_below 5 = .ok (.ldc2_w 13, 3) := by decide +kernel
theorem dX0_below_8 : decode cX0_below 8 = .ok (.lmul, 1) := by decide +kernel
theorem dX0_below_9 : decode cX0_below 9 = .ok (.ldc2_w 15, 3) := by decide +kernel
theorem dX0_below_12 : decode cX0_below 12 = .ok (.ladd, 1) := by decide +kernel
theorem dX0_below_13 : decode cX0_below 13 = .ok (.putfield 7, 3) := by decide +kernel
theorem dX0_below_16 : decode cX0_below 16 = .ok (.iload_n 1, 1) := by decide +kernel
theorem dX0_below_17 : decode cX0_below 17 = .ok (.iconst 1, 1) := by decide +kernel
theorem dX0_below_18 : decode cX0_below 18 = .ok (.if_icmp .ge 7, 3) := by decide +kernel
theorem dX0_below_21 : decode cX0_below 21 = .ok (.iconst 0, 1) := by decide +kernel
theorem dX0_below_22 : decode cX0_below 22 = .ok (.goto 19, 3) := by decide +kernel
theorem dX0_below_25 : decode cX0_below 25 = .ok (.aload_n 0, 1) := by decide +kernel
theorem dX0_below_26 : decode cX0_below 26 = .ok (.getfield 7, 3) := by decide +kernel
theorem dX0_below_29 : decode cX0_below 29 = .ok (.ldc2_w 17, 3) := by decide +kernel
theorem dX0_below_32 : decode cX0_below 32 = .ok (.land, 1) := by decide +kernel
theorem dX0_below_33 : decode cX0_below 33 = .ok (.ldc2_w 19, 3) := by decide +kernel
theorem dX0_below_36 : decode cX0_below 36 = .ok (.ldiv, 1) := by decide +kernel
theorem dX0_below_37 : decode cX0_below 37 = .ok (.iload_n 1, 1) := by decide +kernel
theorem dX0_below_38 : decode cX0_below 38 = .ok (.i2l, 1) := by decide +kernel
theorem dX0_below_39 : decode cX0_below 39 = .ok (.lrem, 1) := by decide +kernel
theorem dX0_below_40 : decode cX0_below 40 = .ok (.l2i, 1) := by decide +kernel
theorem dX0_below_41 : decode cX0_below 41 = .ok (.ireturn, 1) := by decide +kernel
set_option maxRecDepth 20000 in
theorem ggX1_init_X1_cutAnew : GoodIn wsX1_init wsX1_cutAnew := goodIn_r _ [11, 12, 13, 5, 14, 15, 16, 10, 17, 18, 19, 20, 21, 6, 22, 23, 24, 25] (by decide +kernel) (by decide +kernel)
set_option maxRecDepth 20000 in
theorem gX1_init_X1_cutAnew : GoodIn wsX1_init (wsV RX1 18 RX1 yX1_cutAnew wsX1_cutAnew) := goodIn_app (goodIn_of _ (by decide +kernel)) ggX1_init_X1_cutAnew
theorem dX1_init_0 : decode cX1_init 0 = .ok (.aload_n 0, 1) := by decide +kernel
theorem dX1_init_1 : decode cX1_init 1 = .ok (.invokespecial 3, 3) := by decide +kernel
theorem dX1_init_4 : decode cX1_init 4 = .ok (.aload_n 0, 1) := by decide +kernel
theorem dX1_init_5 : decode cX1_init 5 = .ok (.sipush 200, 3) := by decide +kernel
theorem dX1_init_8 : decode cX1_init 8 = .ok (.newarray .int, 2) := by decide +kernel
theorem dX1_init_10 : decode cX1_init 10 = .ok (.putfield 9, 3) := by decide +kernel
theorem dX1_init_13 : decode cX1_init 13 = .ok (.aload_n 0, 1) := by decide +kernel
theorem dX1_init_14 : decode cX1_init 14 = .ok (.bipush 100, 2) := by decide +kernel
theorem dX1_init_16 : decode cX1_init 16 = .ok (.newarray .int, 2) := by decide +kernel
theorem dX1_init_18 : decode cX1_init 18 = .ok (.putfield 15, 3) := by decide +kernel
theorem dX1_init_21 : decode cX1_init 21 = .ok (.aload_n 0, 1) := by decide +kernel
theorem dX1_init_22 : decode cX1_init 22 = .ok (.iconst 1, 1) := by decide +kernel
theorem dX1_init_23 : decode cX1_init 23 = .ok (.iconst 1, 1) := by decide +kernel
theorem dX1_init_24 : decode cX1_init 24 = .ok (.invokevirtual 18, 3) := by decide +kernel
theorem dX1_init_27 : decode cX1_init 27 = .ok (.return_, 1) := by decide +kernel
set_option maxRecDepth 20000 in
theorem ggX1_cutAnew_X1_layEdges : GoodIn wsX1_cutAnew wsX1_layEdges := goodIn_r _ [8, 1, 2, 9, 10, 11, 7, 12, 13, 14, 15, 16, 17] (by decide +kernel) (by decide +kernel)
set_option maxRecDepth 20000 in
theorem gX1_cutAnew_X1_layEdges : GoodIn wsX1_cutAnew (wsV RX1 29 RX1 yX1_layEdges wsX1_layEdges) := goodIn_app (goodIn_of _ (by decide +kernel)) ggX1_cutAnew_X1_layEdges
theorem dX1_cutAnew_0 : decode cX1_cutAnew 0 = .ok (.aload_n 0, 1) := by decide +kernel
theorem dX1_cutAnew_1 : decode cX1_cutAnew 1 = .ok (.iload_n 1, 1) := by decide +kernel
theorem dX1_cutAnew_2 : decode cX1_cutAnew 2 = .ok (.putfield 22, 3) := by decide +kernel
theorem dX1_cutAnew_5 : decode cX1_cutAnew 5 = .ok (.aload_n 0, 1) := by decide +kernel
theorem dX1_cutAnew_6 : decode cX1_cutAnew 6 = .ok (.iload_n 2, 1) := by decide +kernel
theorem dX1_cutAnew_7 : decode cX1_cutAnew 7 = .ok (.putfield 26, 3) := by decide +kernel
theorem dX1_cutAnew_10 : decode cX1_cutAnew 10 = .ok (.iconst 0, 1) := by decide +kernel
theorem dX1_cutAnew_11 : decode cX1_cutAnew 11 = .ok (.istore_n 3, 1) := by decide +kernel
theorem dX1_cutAnew_12 : decode cX1_cutAnew 12 = .ok (.iload_n 3, 1) := by decide +kernel
theorem dX1_cutAnew_13 : decode cX1_cutAnew 13 = .ok (.aload_n 0, 1) := by decide +kernel
theorem dX1_cutAnew_14 : decode cX1_cutAnew 14 = .ok (.getfield 9, 3) := by decide +kernel
theorem dX1_cutAnew_17 : decode cX1_cutAnew 17 = .ok (.arraylength, 1) := by decide +kernel
theorem dX1_cutAnew_18 : decode cX1_cutAnew 18 = .ok (.if_icmp .ge 16, 3) := by decide +kernel
theorem dX1_cutAnew_21 : decode cX1_cutAnew 21 = .ok (.aload_n 0, 1) := by decide +kernel
theorem dX1_cutAnew_22 : decode cX1_cutAnew 22 = .ok (.getfield 9, 3) := by decide +kernel
theorem dX1_cutAnew_25 : decode cX1_cutAnew 25 = .ok (.iload_n 3, 1) := by decide +kernel
theorem dX1_cutAnew_26 : decode cX1_cutAnew 26 = .ok (.iconst 0, 1) := by decide +kernel
theorem dX1_cutAnew_27 : decode cX1_cutAnew 27 = .ok (.iastore, 1) := by decide +kernel
theorem dX1_cutAnew_28 : decode cX1_cutAnew 28 = .ok (.iinc 3 1, 3) := by decide +kernel
theorem dX1_cutAnew_31 : decode cX1_cutAnew 31 = .ok (.goto (-19), 3) := by decide +kernel
theorem dX1_cutAnew_34 : decode cX1_cutAnew 34 = .ok (.iconst 0, 1) := by decide +kernel
theorem dX1_cutAnew_35 : decode cX1_cutAnew 35 = .ok (.istore_n 3, 1) := by decide +kernel
theorem dX1_cutAnew_36 : decode cX1_cutAnew 36 = .ok (.iload_n 3, 1) := by decide +kernel
theorem dX1_cutAnew_37 : decode cX1_cutAnew 37 = .ok (.aload_n 0, 1) := by decide +kernel
theorem dX1_cutAnew_38 : decode cX1_cutAnew 38 = .ok (.getfield 26, 3) := by decide +kernel
theorem dX1_cutAnew_41 : decode cX1_cutAnew 41 = .ok (.if_icmp .ge 34, 3) := by decide +kernel
theorem dX1_cutAnew_44 : decode cX1_cutAnew 44 = .ok (.iconst 0, 1) := by decide +kernel
theorem dX1_cutAnew_45 : decode cX1_cutAnew 45 = .ok (.istore 4, 2) := by decide +kernel
theorem dX1_cutAnew_47 : decode cX1_cutAnew 47 = .ok (.iload 4, 2) := by decide +kernel
theorem dX1_cutAnew_49 : decode cX1_cutAnew 49 = .ok (.aload_n 0, 1) := by decide +kernel
theorem dX1_cutAnew_50 : decode cX1_cutAnew 50 = .ok (.getfield 22, 3) := by decide +kernel
theorem dX1_cutAnew_53 : decode cX1_cutAnew 53 = .ok (.if_icmp .ge 16, 3) := by decide +kernel
theorem dX1_cutAnew_56 : decode cX1_cutAnew 56 = .ok (.aload_n 0, 1) := by decide +kernel
theorem dX1_cutAnew_57 : decode cX1_cutAnew 57 = .ok (.iload 4, 2) := by decide +kernel
theorem dX1_cutAnew_59 : decode cX1_cutAnew 59 = .ok (.iload_n 3, 1) := by decide +kernel
theorem dX1_cutAnew_60 : decode cX1_cutAnew 60 = .ok (.invokevirtual 29, 3) := by decide +kernel
theorem dX1_cutAnew_63 : decode cX1_cutAnew 63 = .ok (.iinc 4 1, 3) := by decide +kernel
theorem dX1_cutAnew_66 : decode cX1_cutAnew 66 = .ok (.goto (-19), 3) := by decide +kernel
theorem dX1_cutAnew_69 : decode cX1_cutAnew 69 = .ok (.iinc 3 1, 3) := by decide +kernel
theorem dX1_cutAnew_72 : decode cX1_cutAnew 72 = .ok (.goto (-36), 3) := by decide +kernel
theorem dX1_cutAnew_75 : decode cX1_cutAnew 75 = .ok (.return_, 1) := by decide +kernel
set_option maxRecDepth 20000 in
theorem ggX1_layEdges_X1_setSide : GoodIn wsX1_layEdges wsX1_setSide := goodIn_r _ [7, 8, 9, 10, 11, 12] (by decide +kernel) (by decide +kernel)
set_option maxRecDepth 20000 in
theorem gX1_layEdges_X1_setSide : GoodIn wsX1_layEdges (wsV RX1 32 RX1 yX1_setSide wsX1_setSide) := goodIn_app (goodIn_of _ (by decide +kernel)) ggX1_layEdges_X1_setSide
theorem dX1_layEdges_0 : decode cX1_layEdges 0 = .ok (.aload_n 0, 1) := by decide +kernel
theorem dX1_layEdges_1 : decode cX1_layEdges 1 = .ok (.getfield 22, 3) := by decide +kernel
theorem dX1_layEdges_4 : decode cX1_layEdges 4 = .ok (.iload_n 2, 1) := by decide +kernel
theorem dX1_layEdges_5 : decode cX1_layEdges 5 = .ok (.imul, 1) := by decide +kernel
theorem dX1_layEdges_6 : decode cX1_layEdges 6 = .ok (.iload_n 1, 1) := by decide +kernel
theorem dX1_layEdges_7 : decode cX1_layEdges 7 = .ok (.iadd, 1) := by decide +kernel
theorem dX1_layEdges_8 : decode cX1_layEdges 8 = .ok (.istore_n 3, 1) := by decide +kernel
theorem dX1_layEdges_9 : decode cX1_layEdges 9 = .ok (.aload_n 0, 1) := by decide +kernel
theorem dX1_layEdges_10 : decode cX1_layEdges 10 = .ok (.getfield 22, 3) := by decide +kernel
theorem dX1_layEdges_13 : decode cX1_layEdges 13 = .ok (.iconst 1, 1) := by decide +kernel
theorem dX1_layEdges_14 : decode cX1_layEdges 14 = .ok (.isub, 1) := by decide +kernel
theorem dX1_layEdges_15 : decode cX1_layEdges 15 = .ok (.iload_n 2, 1) := by decide +kernel
theorem dX1_layEdges_16 : decode cX1_layEdges 16 = .ok (.imul, 1) := by decide +kernel
theorem dX1_layEdges_17 : decode cX1_layEdges 17 = .ok (.iload_n 1, 1) := by decide +kernel
theorem dX1_layEdges_18 : decode cX1_layEdges 18 = .ok (.iadd, 1) := by decide +kernel
theorem dX1_layEdges_19 : decode cX1_layEdges 19 = .ok (.istore 4, 2) := by decide +kernel
theorem dX1_layEdges_21 : decode cX1_layEdges 21 = .ok (.aload_n 0, 1) := by decide +kernel
theorem dX1_layEdges_22 : decode cX1_layEdges 22 = .ok (.getfield 22, 3) := by decide +kernel
theorem dX1_layEdges_25 : decode cX1_layEdges 25 = .ok (.iconst 1, 1) := by decide +kernel
theorem dX1_layEdges_26 : decode cX1_layEdges 26 = .ok (.isub, 1) := by decide +kernel
theorem dX1_layEdges_27 : decode cX1_layEdges 27 = .ok (.aload_n 0, 1) := by decide +kernel
theorem dX1_layEdges_28 : decode cX1_layEdges 28 = .ok (.getfield 26, 3) := by decide +kernel
theorem dX1_layEdges_31 : decode cX1_layEdges 31 = .ok (.imul, 1) := by decide +kernel
theorem dX1_layEdges_32 : decode cX1_layEdges 32 = .ok (.aload_n 0, 1) := by decide +kernel
theorem dX1_layEdges_33 : decode cX1_layEdges 33 = .ok (.getfield 22, 3) := by decide +kernel
theorem dX1_layEdges_36 : decode cX1_layEdges 36 = .ok (.iload_n 2, 1) := by decide +kernel
theorem dX1_layEdges_37 : decode cX1_layEdges 37 = .ok (.imul, 1) := by decide +kernel
theorem dX1_layEdges_38 : decode cX1_layEdges 38 = .ok (.iadd, 1) := by decide +kernel
theorem dX1_layEdges_39 : decode cX1_layEdges 39 = .ok (.iload_n 1, 1) := by decide +kernel
theorem dX1_layEdges_40 : decode cX1_layEdges 40 = .ok (.iadd, 1) := by decide +kernel
theorem dX1_layEdges_41 : decode cX1_layEdges 41 = .ok (.istore 5, 2) := by decide +kernel
theorem dX1_layEdges_43 : decode cX1_layEdges 43 = .ok (.aload_n 0, 1) := by decide +kernel
theorem dX1_layEdges_44 : decode cX1_layEdges 44 = .ok (.iload_n 3, 1) := by decide +kernel
theorem dX1_layEdges_45 : decode cX1_layEdges 45 = .ok (.iconst 0, 1) := by decide +kernel
theorem dX1_layEdges_46 : decode cX1_layEdges 46 = .ok (.iload_n 2, 1) := by decide +kernel
theorem dX1_layEdges_47 : decode cX1_layEdges 47 = .ok (.ifCond .ne 8, 3) := by decide +kernel
theorem dX1_layEdges_50 : decode cX1_layEdges 50 = .ok (.bipush (-9), 2) := by decide +kernel
theorem dX1_layEdges_52 : decode cX1_layEdges 52 = .ok (.goto 10, 3) := by decide +kernel
theorem dX1_layEdges_55 : decode cX1_layEdges 55 = .ok (.iload 5, 2) := by decide +kernel
theorem dX1_layEdges_57 : decode cX1_layEdges 57 = .ok (.aload_n 0, 1) := by decide +kernel
theorem dX1_layEdges_58 : decode cX1_layEdges 58 = .ok (.getfield 22, 3) := by decide +kernel
theorem dX1_layEdges_61 : decode cX1_layEdges 61 = .ok (.isub, 1) := by decide +kernel
theorem dX1_layEdges_62 : decode cX1_layEdges 62 = .ok (.invokevirtual 32, 3) := by decide +kernel
theorem dX1_layEdges_65 : decode cX1_layEdges 65 = .ok (.aload_n 0, 1) := by decide +kernel
theorem dX1_layEdges_66 : decode cX1_layEdges 66 = .ok (.iload_n 3, 1) := by decide +kernel
theorem dX1_layEdges_67 : decode cX1_layEdges 67 = .ok (.iconst 1, 1) := by decide +kernel
theorem dX1_layEdges_68 : decode cX1_layEdges 68 = .ok (.iload_n 1, 1) := by decide +kernel
theorem dX1_layEdges_69 : decode cX1_layEdges 69 = .ok (.aload_n 0, 1) := by decide +kernel
theorem dX1_layEdges_70 : decode cX1_layEdges 70 = .ok (.getfield 22, 3) := by decide +kernel
theorem dX1_layEdges_73 : decode cX1_layEdges 73 = .ok (.iconst 1, 1) := by decide +kernel
theorem dX1_layEdges_74 : decode cX1_layEdges 74 = .ok (.isub, 1) := by decide +kernel
theorem dX1_layEdges_75 : decode cX1_layEdges 75 = .ok (.if_icmp .ne 8, 3) := by decide +kernel
theorem dX1_layEdges_78 : decode cX1_layEdges 78 = .ok (.bipush (-9), 2) := by decide +kernel
theorem dX1_layEdges_80 : decode cX1_layEdges 80 = .ok (.goto 5, 3) := by decide +kernel
theorem dX1_layEdges_83 : decode cX1_layEdges 83 = .ok (.iload 4, 2) := by decide +kernel
theorem dX1_layEdges_85 : decode cX1_layEdges 85 = .ok (.invokevirtual 32, 3) := by decide +kernel
theorem dX1_layEdges_88 : decode cX1_layEdges 88 = .ok (.aload_n 0, 1) := by decide +kernel
theorem dX1_layEdges_89 : decode cX1_layEdges 89 = .ok (.iload_n 3, 1) := by decide +kernel
theorem dX1_layEdges_90 : decode cX1_layEdges 90 = .ok (.iconst 2, 1) := by decide +kernel
theorem dX1_layEdges_91 : decode cX1_layEdges 91 = .ok (.iload_n 2, 1) := by decide +kernel
theorem dX1_layEdges_92 : decode cX1_layEdges 92 = .ok (.aload_n 0, 1) := by decide +kernel
theorem dX1_layEdges_93 : decode cX1_layEdges 93 = .ok (.getfield 26, 3) := by decide +kernel
theorem dX1_layEdges_96 : decode cX1_layEdges 96 = .ok (.iconst 1, 1) := by decide +kernel
theorem dX1_layEdges_97 : decode cX1_layEdges 97 = .ok (.isub, 1) := by decide +kernel
theorem dX1_layEdges_98 : decode cX1_layEdges 98 = .ok (.if_icmp .ne 8, 3) := by decide +kernel
theorem dX1_layEdges_101 : decode cX1_layEdges 101 = .ok (.bipush (-9), 2) := by decide +kernel
theorem dX1_layEdges_103 : decode cX1_layEdges 103 = .ok (.goto 5, 3) := by decide +kernel
theorem dX1_layEdges_106 : decode cX1_layEdges 106 = .ok (.iload 5, 2) := by decide +kernel
theorem dX1_layEdges_108 : decode cX1_layEdges 108 = .ok (.invokevirtual 32, 3) := by decide +kernel
theorem dX1_layEdges_111 : decode cX1_layEdges 111 = .ok (.aload_n 0, 1) := by decide +kernel
theorem dX1_layEdges_112 : decode cX1_layEdges 112 = .ok (.iload_n 3, 1) := by decide +kernel
theorem dX1_layEdges_113 : decode cX1_layEdges 113 = .ok (.iconst 3, 1) := by decide +kernel
theorem dX1_layEdges_114 : decode cX1_layEdges 114 = .ok (.iload_n 1, 1) := by decide +kernel
theorem dX1_layEdges_115 : decode cX1_layEdges 115 = .ok (.ifCond .ne 8, 3) := by decide +kernel
theorem dX1_layEdges_118 : decode cX1_layEdges 118 = .ok (.bipush (-9), 2) := by decide +kernel
theorem dX1_layEdges_120 : decode cX1_layEdges 120 = .ok (.goto 7, 3) := by decide +kernel
theorem dX1_layEdges_123 : decode cX1_layEdges 123 = .ok (.iload 4, 2) := by decide +kernel
theorem dX1_layEdges_125 : decode cX1_layEdges 125 = .ok (.iconst 1, 1) := by decide +kernel
theorem dX1_layEdges_126 : decode cX1_layEdges 126 = .ok (.isub, 1) := by decide +kernel
theorem dX1_layEdges_127 : decode cX1_layEdges 127 = .ok (.invokevirtual 32, 3) := by decide +kernel
theorem dX1_layEdges_130 : decode cX1_layEdges 130 = .ok (.return_, 1) := by decide +kernel
theorem dX1_setSide_0 : decode cX1_setSide 0 = .ok (.iload_n 1, 1) := by decide +kernel
theorem dX1_setSide_1 : decode cX1_setSide 1 = .ok (.iconst 4, 1) := by decide +kernel
theorem dX1_setSide_2 : decode cX1_setSide 2 = .ok (.imul, 1) := by decide +kernel
theorem dX1_setSide_3 : decode cX1_setSide 3 = .ok (.iload_n 2, 1) := by decide +kernel
theorem dX1_setSide_4 : decode cX1_setSide 4 = .ok (.iadd, 1) := by decide +kernel
theorem dX1_setSide_5 : decode cX1_setSide 5 = .ok (.istore 4, 2) := by decide +kernel
theorem dX1_setSide_7 : decode cX1_setSide 7 = .ok (.iload 4, 2) := by decide +kernel
theorem dX1_setSide_9 : decode cX1_setSide 9 = .ok (.ifCond .lt 21, 3) := by decide +kernel
theorem dX1_setSide_12 : decode cX1_setSide 12 = .ok (.iload 4, 2) := by decide +kernel
theorem dX1_setSide_14 : decode cX1_setSide 14 = .ok (.aload_n 0, 1) := by decide +kernel
theorem dX1_setSide_15 : decode cX1_setSide 15 = .ok (.getfield 15, 3) := by decide +kernel
theorem dX1_setSide_18 : decode cX1_setSide 18 = .ok (.arraylength, 1) := by decide +kernel
theorem dX1_setSide_19 : decode cX1_setSide 19 = .ok (.if_icmp .ge 11, 3) := by decide +kernel
theorem dX1_setSide_22 : decode cX1_setSide 22 = .ok (.aload_n 0, 1) := by decide +kernel
theorem dX1_setSide_23 : decode cX1_setSide 23 = .ok (.getfield 15, 3) := by decide +kernel
theorem dX1_setSide_26 : decode cX1_setSide 26 = .ok (.iload 4, 2) := by decide +kernel
theorem dX1_setSide_28 : decode cX1_setSide 28 = .ok (.iload_n 3, 1) := by decide +kernel
theorem dX1_setSide_29 : decode cX1_setSide 29 = .ok (.iastore, 1) := by decide +kernel
theorem dX1_setSide_30 : decode cX1_setSide 30 = .ok (.return_, 1) := by decide +kernel
theorem dX1_pieces_0 : decode cX1_pieces 0 = .ok (.aload_n 0, 1) := by decide +kernel
theorem dX1_pieces_1 : decode cX1_pieces 1 = .ok (.getfield 22, 3) := by decide +kernel
theorem dX1_pieces_4 : decode cX1_pieces 4 = .ok (.aload_n 0, 1) := by decide +kernel
theorem dX1_pieces_5 : decode cX1_pieces 5 = .ok (.getfield 26, 3) := by decide +kernel
theorem dX1_pieces_8 : decode cX1_pieces 8 = .ok (.imul, 1) := by decide +kernel
theorem dX1_pieces_9 : decode cX1_pieces 9 = .ok (.ireturn, 1) := by decide +kernel
theorem dX1_sides_0 : decode cX1_sides 0 = .ok (.aload_n 0, 1) := by decide +kernel
theorem dX1_sides_1 : decode cX1_sides 1 = .ok (.getfield 22, 3) := by decide +kernel
theorem dX1_sides_4 : decode cX1_sides 4 = .ok (.iconst 1, 1) := by decide +kernel
theorem dX1_sides_5 : decode cX1_sides 5 = .ok (.isub, 1) := by decide +kernel
theorem dX1_sides_6 : decode cX1_sides 6 = .ok (.aload_n 0, 1) := by decide +kernel
theorem dX1_sides_7 : decode cX1_sides 7 = .ok (.getfield 26, 3) := by decide +kernel
theorem dX1_sides_10 : decode cX1_sides 10 = .ok (.imul, 1) := by decide +kernel
theorem dX1_sides_11 : decode cX1_sides 11 = .ok (.aload_n 0, 1) := by decide +kernel
theorem dX1_sides_12 : decode cX1_sides 12 = .ok (.getfield 22, 3) := by decide +kernel
theorem dX1_sides_15 : decode cX1_sides 15 = .ok (.aload_n 0, 1) := by decide +kernel
theorem dX1_sides_16 : decode cX1_sides 16 = .ok (.getfield 26, 3) := by decide +kernel
theorem dX1_sides_19 : decode cX1_sides 19 = .ok (.iconst 1, 1) := by decide +kernel
theorem dX1_sides_20 : decode cX1_sides 20 = .ok (.isub, 1) := by decide +kernel
theorem dX1_sides_21 : decode cX1_sides 21 = .ok (.imul, 1) := by decide +kernel
theorem dX1_sides_22 : decode cX1_sides 22 = .ok (.iadd, 1) := by decide +kernel
theorem dX1_sides_23 : decode cX1_sides 23 = .ok (.ireturn, 1) := by decide +kernel
set_option maxRecDepth 20000 in
theorem ggX1_hasSide_X1_sides : GoodIn wsX1_hasSide wsX1_sides := goodIn_r _ [5, 6, 7, 8, 9, 10, 11] (by decide +kernel) (by decide +kernel)
set_option maxRecDepth 20000 in
theorem gX1_hasSide_X1_sides : GoodIn wsX1_hasSide (wsV RX1 36 RX1 yX1_sides wsX1_sides) := goodIn_app (goodIn_of _ (by decide +kernel)) ggX1_hasSide_X1_sides
theorem dX1_hasSide_0 : decode cX1_hasSide 0 = .ok (.iload_n 1, 1) := by decide +kernel
theorem dX1_hasSide_1 : decode cX1_hasSide 1 = .ok (.ifCond .lt 15, 3) := by decide +kernel
theorem dX1_hasSide_4 : decode cX1_hasSide 4 = .ok (.iload_n 1, 1) := by decide +kernel
theorem dX1_hasSide_5 : decode cX1_hasSide 5 = .ok (.aload_n 0, 1) := by decide +kernel
theorem dX1_hasSide_6 : decode cX1_hasSide 6 = .ok (.invokevirtual 36, 3) := by decide +kernel
theorem dX1_hasSide_9 : decode cX1_hasSide 9 = .ok (.if_icmp .ge 7, 3) := by decide +kernel
theorem dX1_hasSide_12 : decode cX1_hasSide 12 = .ok (.iconst 1, 1) := by decide +kernel
theorem dX1_hasSide_13 : decode cX1_hasSide 13 = .ok (.goto 4, 3) := by decide +kernel
theorem dX1_hasSide_16 : decode cX1_hasSide 16 = .ok (.iconst 0, 1) := by decide +kernel
theorem dX1_hasSide_17 : decode cX1_hasSide 17 = .ok (.ireturn, 1) := by decide +kernel
set_option maxRecDepth 20000 in
theorem ggX1_hasPiece_X1_pieces : GoodIn wsX1_hasPiece wsX1_pieces := goodIn_r _ [5, 6, 7, 8, 9, 10, 11] (by decide +kernel) (by decide +kernel)
set_option maxRecDepth 20000 in
theorem gX1_hasPiece_X1_pieces : GoodIn wsX1_hasPiece (wsV RX1 40 RX1 yX1_pieces wsX1_pieces) := goodIn_app (goodIn_of _ (by decide +kernel)) ggX1_hasPiece_X1_pieces
theorem dX1_hasPiece_0 : decode cX1_hasPiece 0 = .ok (.iload_n 1, 1) := by decide +kernel
theorem dX1_hasPiece_1 : decode cX1_hasPiece 1 = .ok (.ifCond .lt 15, 3) := by decide +kernel
theorem dX1_hasPiece_4 : decode cX1_hasPiece 4 = .ok (.iload_n 1, 1) := by decide +kernel
theorem dX1_hasPiece_5 : decode cX1_hasPiece 5 = .ok (.aload_n 0, 1) := by decide +kernel
theorem dX1_hasPiece_6 : decode cX1_hasPiece 6 = .ok (.invokevirtual 40, 3) := by decide +kernel
theorem dX1_hasPiece_9 : decode cX1_hasPiece 9 = .ok (.if_icmp .ge 7, 3) := by decide +kernel
theorem dX1_hasPiece_12 : decode cX1_hasPiece 12 = .ok (.iconst 1, 1) := by decide +kernel
theorem dX1_hasPiece_13 : decode cX1_hasPiece 13 = .ok (.goto 4, 3) := by decide +kernel
theorem dX1_hasPiece_16 : decode cX1_hasPiece 16 = .ok (.iconst 0, 1) := by decide +kernel
theorem dX1_hasPiece_17 : decode cX1_hasPiece 17 = .ok (.ireturn, 1) := by decide +kernel
set_option maxRecDepth 20000 in
theorem ggX1_hasEdge_X1_hasPiece : GoodIn wsX1_hasEdge wsX1_hasPiece := goodIn_r _ [5, 6, 7, 8, 4, 9, 10, 11, 12, 13, 14, 15] (by decide +kernel) (by decide +kernel)
set_option maxRecDepth 20000 in
theorem gX1_hasEdge_X1_hasPiece : GoodIn wsX1_hasEdge (wsV RX1 43 RX1 yX1_hasPiece wsX1_hasPiece) := goodIn_app (goodIn_of _ (by decide +kernel)) ggX1_hasEdge_X1_hasPiece
theorem dX1_hasEdge_0 : decode cX1_hasEdge 0 = .ok (.aload_n 0, 1) := by decide +kernel
theorem dX1_hasEdge_1 : decode cX1_hasEdge 1 = .ok (.iload_n 1, 1) := by decide +kernel
theorem dX1_hasEdge_2 : decode cX1_hasEdge 2 = .ok (.invokevirtual 43, 3) := by decide +kernel
theorem dX1_hasEdge_5 : decode cX1_hasEdge 5 = .ok (.ifCond .eq 16, 3) := by decide +kernel
theorem dX1_hasEdge_8 : decode cX1_hasEdge 8 = .ok (.iload_n 2, 1) := by decide +kernel
theorem dX1_hasEdge_9 : decode cX1_hasEdge 9 = .ok (.ifCond .lt 12, 3) := by decide +kernel
theorem dX1_hasEdge_12 : decode cX1_hasEdge 12 = .ok (.iload_n 2, 1) := by decide +kernel
theorem dX1_hasEdge_13 : decode cX1_hasEdge 13 = .ok (.iconst 4, 1) := by decide +kernel
theorem dX1_hasEdge_14 : decode cX1_hasEdge 14 = .ok (.if_icmp .ge 7, 3) := by decide +kernel
theorem dX1_hasEdge_17 : decode cX1_hasEdge 17 = .ok (.iconst 1, 1) := by decide +kernel
theorem dX1_hasEdge_18 : decode cX1_hasEdge 18 = .ok (.goto 4, 3) := by decide +kernel
theorem dX1_hasEdge_21 : decode cX1_hasEdge 21 = .ok (.iconst 0, 1) := by decide +kernel
theorem dX1_hasEdge_22 : decode cX1_hasEdge 22 = .ok (.ireturn, 1) := by decide +kernel
theorem dX1_sideAt_0 : decode cX1_sideAt 0 = .ok (.iload_n 1, 1) := by decide +kernel
theorem dX1_sideAt_1 : decode cX1_sideAt 1 = .ok (.iconst 4, 1) := by decide +kernel
theorem dX1_sideAt_2 : decode cX1_sideAt 2 = .ok (.imul, 1) := by decide +kernel
theorem dX1_sideAt_3 : decode cX1_sideAt 3 = .ok (.iload_n 2, 1) := by decide +kernel
theorem dX1_sideAt_4 : decode cX1_sideAt 4 = .ok (.iadd, 1) := by decide +kernel
theorem dX1_sideAt_5 : decode cX1_sideAt 5 = .ok (.istore_n 3, 1) := by decide +kernel
theorem dX1_sideAt_6 : decode cX1_sideAt 6 = .ok (.iload_n 3, 1) := by decide +kernel
theorem dX1_sideAt_7 : decode cX1_sideAt 7 = .ok (.ifCond .lt 21, 3) := by decide +kernel
theorem dX1_sideAt_10 : decode cX1_sideAt 10 = .ok (.iload_n 3, 1) := by decide +kernel
theorem dX1_sideAt_11 : decode cX1_sideAt 11 = .ok (.aload_n 0, 1) := by decide +kernel
theorem dX1_sideAt_12 : decode cX1_sideAt 12 = .ok (.getfield 15, 3) := by decide +kernel
theorem dX1_sideAt_15 : decode cX1_sideAt 15 = .ok (.arraylength, 1) := by decide +kernel
theorem dX1_sideAt_16 : decode cX1_sideAt 16 = .ok (.if_icmp .ge 12, 3) := by decide +kernel
theorem dX1_sideAt_19 : decode cX1_sideAt 19 = .ok (.aload_n 0, 1) := by decide +kernel
theorem dX1_sideAt_20 : decode cX1_sideAt 20 = .ok (.getfield 15, 3) := by decide +kernel
theorem dX1_sideAt_23 : decode cX1_sideAt 23 = .ok (.iload_n 3, 1) := by decide +kernel
theorem dX1_sideAt_24 : decode cX1_sideAt 24 = .ok (.iaload, 1) := by decide +kernel
theorem dX1_sideAt_25 : decode cX1_sideAt 25 = .ok (.goto 5, 3) := by decide +kernel
theorem dX1_sideAt_28 : decode cX1_sideAt 28 = .ok (.bipush (-9), 2) := by decide +kernel
theorem dX1_sideAt_30 : decode cX1_sideAt 30 = .ok (.ireturn, 1) := by decide +kernel
set_option maxRecDepth 20000 in
theorem ggX1_isFlat_X1_sideAt : GoodIn wsX1_isFlat wsX1_sideAt := goodIn_r _ [5, 6, 7, 8, 9, 10] (by decide +kernel) (by decide +kernel)
set_option maxRecDepth 20000 in
theorem gX1_isFlat_X1_sideAt : GoodIn wsX1_isFlat (wsV RX1 47 RX1 yX1_sideAt wsX1_sideAt) := goodIn_app (goodIn_of _ (by decide +kernel)) ggX1_isFlat_X1_sideAt
theorem dX1_isFlat_0 : decode cX1_isFlat 0 = .ok (.aload_n 0, 1) := by decide +kernel
theorem dX1_isFlat_1 : decode cX1_isFlat 1 = .ok (.iload_n 1, 1) := by decide +kernel
theorem dX1_isFlat_2 : decode cX1_isFlat 2 = .ok (.iload_n 2, 1) := by decide +kernel
theorem dX1_isFlat_3 : decode cX1_isFlat 3 = .ok (.invokevirtual 47, 3) := by decide +kernel
theorem dX1_isFlat_6 : decode cX1_isFlat 6 = .ok (.bipush (-9), 2) := by decide +kernel
theorem dX1_isFlat_8 : decode cX1_isFlat 8 = .ok (.if_icmp .ne 7, 3) := by decide +kernel
theorem dX1_isFlat_11 : decode cX1_isFlat 11 = .ok (.iconst 1, 1) := by decide +kernel
theorem dX1_isFlat_12 : decode cX1_isFlat 12 = .ok (.goto 4, 3) := by decide +kernel
theorem dX1_isFlat_15 : decode cX1_isFlat 15 = .ok (.iconst 0, 1) := by decide +kernel
theorem dX1_isFlat_16 : decode cX1_isFlat 16 = .ok (.ireturn, 1) := by decide +kernel
theorem dX1_nextTo_0 : decode cX1_nextTo 0 = .ok (.iload_n 2, 1) := by decide +kernel
theorem dX1_nextTo_1 : decode cX1_nextTo 1 = .ok (.tableswitch 45 0 2 #[27, 34, 38], 27) := by decide +kernel
theorem dX1_nextTo_28 : decode cX1_nextTo 28 = .ok (.iload_n 1, 1) := by decide +kernel
theorem dX1_nextTo_29 : decode cX1_nextTo 29 = .ok (.aload_n 0, 1) := by decide +kernel
theorem dX1_nextTo_30 : decode cX1_nextTo 30 = .ok (.getfield 22, 3) := by decide +kernel
theorem dX1_nextTo_33 : decode cX1_nextTo 33 = .ok (.isub, 1) := by decide +kernel
theorem dX1_nextTo_34 : decode cX1_nextTo 34 = .ok (.ireturn, 1) := by decide +kernel
theorem dX1_nextTo_35 : decode cX1_nextTo 35 = .ok (.iload_n 1, 1) := by decide +kernel
theorem dX1_nextTo_36 : decode cX1_nextTo 36 = .ok (.iconst 1, 1) := by decide +kernel
theorem dX1_nextTo_37 : decode cX1_nextTo 37 = .ok (.iadd, 1) := by decide +kernel
theorem dX1_nextTo_38 : decode cX1_nextTo 38 = .ok (.ireturn, 1) := by decide +kernel
theorem dX1_nextTo_39 : decode cX1_nextTo 39 = .ok (.iload_n 1, 1) := by decide +kernel
theorem dX1_nextTo_40 : decode cX1_nextTo 40 = .ok (.aload_n 0, 1) := by decide +kernel
theorem dX1_nextTo_41 : decode cX1_nextTo 41 = .ok (.getfield 22, 3) := by decide +kernel
theorem dX1_nextTo_44 : decode cX1_nextTo 44 = .ok (.iadd, 1) := by decide +kernel
theorem dX1_nextTo_45 : decode cX1_nextTo 45 = .ok (.ireturn, 1) := by decide +kernel
theorem dX1_nextTo_46 : decode cX1_nextTo 46 = .ok (.iload_n 1, 1) := by decide +kernel
theorem dX1_nextTo_47 : decode cX1_nextTo 47 = .ok (.iconst 1, 1) := by decide +kernel
theorem dX1_nextTo_48 : decode cX1_nextTo 48 = .ok (.isub, 1) := by decide +kernel
theorem dX1_nextTo_49 : decode cX1_nextTo 49 = .ok (.ireturn, 1) := by decide +kernel
theorem dX1_setHeight_0 : decode cX1_setHeight 0 = .ok (.iload_n 1, 1) := by decide +kernel
theorem dX1_setHeight_1 : decode cX1_setHeight 1 = .ok (.iconst 5, 1) := by decide +kernel
theorem dX1_setHeight_2 : decode cX1_setHeight 2 = .ok (.imul, 1) := by decide +kernel
theorem dX1_setHeight_3 : decode cX1_setHeight 3 = .ok (.iload_n 2, 1) := by decide +kernel
theorem dX1_setHeight_4 : decode cX1_setHeight 4 = .ok (.iadd, 1) := by decide +kernel
theorem dX1_setHeight_5 : decode cX1_setHeight 5 = .ok (.istore 4, 2) := by decide +kernel
theorem dX1_setHeight_7 : decode cX1_setHeight 7 = .ok (.iload 4, 2) := by decide +kernel
theorem dX1_setHeight_9 : decode cX1_setHeight 9 = .ok (.ifCond .lt 21, 3) := by decide +kernel
theorem dX1_setHeight_12 : decode cX1_setHeight 12 = .ok (.iload 4, 2) := by decide +kernel
theorem dX1_setHeight_14 : decode cX1_setHeight 14 = .ok (.aload_n 0, 1) := by decide +kernel
theorem dX1_setHeight_15 : decode cX1_setHeight 15 = .ok (.getfield 9, 3) := by decide +kernel
theorem dX1_setHeight_18 : decode cX1_setHeight 18 = .ok (.arraylength, 1) := by decide +kernel
theorem dX1_setHeight_19 : decode cX1_setHeight 19 = .ok (.if_icmp .ge 11, 3) := by decide +kernel
theorem dX1_setHeight_22 : decode cX1_setHeight 22 = .ok (.aload_n 0, 1) := by decide +kernel
theorem dX1_setHeight_23 : decode cX1_setHeight 23 = .ok (.getfield 9, 3) := by decide +kernel
theorem dX1_setHeight_26 : decode cX1_setHeight 26 = .ok (.iload 4, 2) := by decide +kernel
theorem dX1_setHeight_28 : decode cX1_setHeight 28 = .ok (.iload_n 3, 1) := by decide +kernel
theorem dX1_setHeight_29 : decode cX1_setHeight 29 = .ok (.iastore, 1) := by decide +kernel
theorem dX1_setHeight_30 : decode cX1_setHeight 30 = .ok (.return_, 1) := by decide +kernel
theorem dX1_heightAt_0 : decode cX1_heightAt 0 = .ok (.iload_n 1, 1) := by decide +kernel
theorem dX1_heightAt_1 : decode cX1_heightAt 1 = .ok (.iconst 5, 1) := by decide +kernel
theorem dX1_heightAt_2 : decode cX1_heightAt 2 = .ok (.imul, 1) := by decide +kernel
theorem dX1_heightAt_3 : decode cX1_heightAt 3 = .ok (.iload_n 3, 1) := by decide +kernel
theorem dX1_heightAt_4 : decode cX1_heightAt 4 = .ok (.ifCond .ne 7, 3) := by decide +kernel
theorem dX1_heightAt_7 : decode cX1_heightAt 7 = .ok (.iload_n 2, 1) := by decide +kernel
theorem dX1_heightAt_8 : decode cX1_heightAt 8 = .ok (.goto 6, 3) := by decide +kernel
theorem dX1_heightAt_11 : decode cX1_heightAt 11 = .ok (.iconst 4, 1) := by decide +kernel
theorem dX1_heightAt_12 : decode cX1_heightAt 12 = .ok (.iload_n 2, 1) := by decide +kernel
theorem dX1_heightAt_13 : decode cX1_heightAt 13 = .ok (.isub, 1) := by decide +kernel
theorem dX1_heightAt_14 : decode cX1_heightAt 14 = .ok (.iadd, 1) := by decide +kernel
theorem dX1_heightAt_15 : decode cX1_heightAt 15 = .ok (.istore 4, 2) := by decide +kernel
theorem dX1_heightAt_17 : decode cX1_heightAt 17 = .ok (.iload 4, 2) := by decide +kernel
theorem dX1_heightAt_19 : decode cX1_heightAt 19 = .ok (.ifCond .lt 13, 3) := by decide +kernel
theorem dX1_heightAt_22 : decode cX1_heightAt 22 = .ok (.iload 4, 2) := by decide +kernel
theorem dX1_heightAt_24 : decode cX1_heightAt 24 = .ok (.aload_n 0, 1) := by decide +kernel
theorem dX1_heightAt_25 : decode cX1_heightAt 25 = .ok (.getfield 9, 3) := by decide +kernel
theorem dX1_heightAt_28 : decode cX1_heightAt 28 = .ok (.arraylength, 1) := by decide +kernel
theorem dX1_heightAt_29 : decode cX1_heightAt 29 = .ok (.if_icmp .lt 5, 3) := by decide +kernel
theorem dX1_heightAt_32 : decode cX1_heightAt 32 = .ok (.iconst 0, 1) := by decide +kernel
theorem dX1_heightAt_33 : decode cX1_heightAt 33 = .ok (.ireturn, 1) := by decide +kernel
theorem dX1_heightAt_34 : decode cX1_heightAt 34 = .ok (.iload_n 3, 1) := by decide +kernel
theorem dX1_heightAt_35 : decode cX1_heightAt 35 = .ok (.ifCond .ne 13, 3) := by decide +kernel
theorem dX1_heightAt_38 : decode cX1_heightAt 38 = .ok (.aload_n 0, 1) := by decide +kernel
theorem dX1_heightAt_39 : decode cX1_heightAt 39 = .ok (.getfield 9, 3) := by decide +kernel
theorem dX1_heightAt_42 : decode cX1_heightAt 42 = .ok (.iload 4, 2) := by decide +kernel
theorem dX1_heightAt_44 : decode cX1_heightAt 44 = .ok (.iaload, 1) := by decide +kernel
theorem dX1_heightAt_45 : decode cX1_heightAt 45 = .ok (.goto 11, 3) := by decide +kernel
theorem dX1_heightAt_48 : decode cX1_heightAt 48 = .ok (.aload_n 0, 1) := by decide +kernel
theorem dX1_heightAt_49 : decode cX1_heightAt 49 = .ok (.getfield 9, 3) := by decide +kernel
theorem dX1_heightAt_52 : decode cX1_heightAt 52 = .ok (.iload 4, 2) := by decide +kernel
theorem dX1_heightAt_54 : decode cX1_heightAt 54 = .ok (.iaload, 1) := by decide +kernel
theorem dX1_heightAt_55 : decode cX1_heightAt 55 = .ok (.ineg, 1) := by decide +kernel
theorem dX1_heightAt_56 : decode cX1_heightAt 56 = .ok (.ireturn, 1) := by decide +kernel
set_option maxRecDepth 20000 in
theorem ggX1_edgeHeight_X1_sideAt : GoodIn wsX1_edgeHeight wsX1_sideAt := goodIn_r _ [5, 6, 12, 13, 14, 15] (by decide +kernel) (by decide +kernel)
set_option maxRecDepth 20000 in
theorem gX1_edgeHeight_X1_sideAt : GoodIn wsX1_edgeHeight (wsV RX1 47 RX1 yX1_sideAt wsX1_sideAt) := goodIn_app (goodIn_of _ (by decide +kernel)) ggX1_edgeHeight_X1_sideAt
set_option maxRecDepth 20000 in
theorem ggX1_edgeHeight_X1_heightAt : GoodIn wsX1_edgeHeight wsX1_heightAt := goodIn_r _ [10, 11, 12, 13, 14, 15] (by decide +kernel) (by decide +kernel)
set_option maxRecDepth 20000 in
theorem gX1_edgeHeight_X1_heightAt : GoodIn wsX1_edgeHeight (wsV RX1 51 RX1 yX1_heightAt wsX1_heightAt) := goodIn_app (goodIn_of _ (by decide +kernel)) ggX1_edgeHeight_X1_heightAt
theorem dX1_edgeHeight_0 : decode cX1_edgeHeight 0 = .ok (.iload_n 2, 1) := by decide +kernel
theorem dX1_edgeHeight_1 : decode cX1_edgeHeight 1 = .ok (.iconst 1, 1) := by decide +kernel
theorem dX1_edgeHeight_2 : decode cX1_edgeHeight 2 = .ok (.if_icmp .eq 8, 3) := by decide +kernel
theorem dX1_edgeHeight_5 : decode cX1_edgeHeight 5 = .ok (.iload_n 2, 1) := by decide +kernel
theorem dX1_edgeHeight_6 : decode cX1_edgeHeight 6 = .ok (.iconst 2, 1) := by decide +kernel
theorem dX1_edgeHeight_7 : decode cX1_edgeHeight 7 = .ok (.if_icmp .ne 7, 3) := by decide +kernel
theorem dX1_edgeHeight_10 : decode cX1_edgeHeight 10 = .ok (.iconst 0, 1) := by decide +kernel
theorem dX1_edgeHeight_11 : decode cX1_edgeHeight 11 = .ok (.goto 4, 3) := by decide +kernel
theorem dX1_edgeHeight_14 : decode cX1_edgeHeight 14 = .ok (.iconst 1, 1) := by decide +kernel
theorem dX1_edgeHeight_15 : decode cX1_edgeHeight 15 = .ok (.istore 4, 2) := by decide +kernel
theorem dX1_edgeHeight_17 : decode cX1_edgeHeight 17 = .ok (.aload_n 0, 1) := by decide +kernel
theorem dX1_edgeHeight_18 : decode cX1_edgeHeight 18 = .ok (.aload_n 0, 1) := by decide +kernel
theorem dX1_edgeHeight_19 : decode cX1_edgeHeight 19 = .ok (.iload_n 1, 1) := by decide +kernel
theorem dX1_edgeHeight_20 : decode cX1_edgeHeight 20 = .ok (.iload_n 2, 1) := by decide +kernel
theorem dX1_edgeHeight_21 : decode cX1_edgeHeight 21 = .ok (.invokevirtual 47, 3) := by decide +kernel
theorem dX1_edgeHeight_24 : decode cX1_edgeHeight 24 = .ok (.iload_n 3, 1) := by decide +kernel
theorem dX1_edgeHeight_25 : decode cX1_edgeHeight 25 = .ok (.iload 4, 2) := by decide +kernel
theorem dX1_edgeHeight_27 : decode cX1_edgeHeight 27 = .ok (.invokevirtual 51, 3) := by decide +kernel
theorem dX1_edgeHeight_30 : decode cX1_edgeHeight 30 = .ok (.ireturn, 1) := by decide +kernel
set_option maxRecDepth 20000 in
theorem ggX1_farness_X1_edgeHeight : GoodIn wsX1_farness wsX1_edgeHeight := goodIn_r _ [9, 10, 11, 12, 8, 13, 14, 15, 16, 17, 18, 19, 20, 21, 22, 23] (by decide +kernel) (by decide +kernel)
set_option maxRecDepth 20000 in
theorem gX1_farness_X1_edgeHeight : GoodIn wsX1_farness (wsV RX1 55 RX1 yX1_edgeHeight wsX1_edgeHeight) := goodIn_app (goodIn_of _ (by decide +kernel)) ggX1_farness_X1_edgeHeight
theorem dX1_farness_0 : decode cX1_farness 0 = .ok (.iconst 0, 1) := by decide +kernel
theorem dX1_farness_1 : decode cX1_farness 1 = .ok (.istore 5, 2) := by decide +kernel
theorem dX1_farness_3 : decode cX1_farness 3 = .ok (.iconst 0, 1) := by decide +kernel
theorem dX1_farness_4 : decode cX1_farness 4 = .ok (.istore 6, 2) := by decide +kernel
theorem dX1_farness_6 : decode cX1_farness 6 = .ok (.iload 6, 2) := by decide +kernel
theorem dX1_farness_8 : decode cX1_farness 8 = .ok (.iconst 5, 1) := by decide +kernel
theorem dX1_farness_9 : decode cX1_farness 9 = .ok (.if_icmp .ge 37, 3) := by decide +kernel
theorem dX1_farness_12 : decode cX1_farness 12 = .ok (.iload 5, 2) := by decide +kernel
theorem dX1_farness_14 : decode cX1_farness 14 = .ok (.aload_n 0, 1) := by decide +kernel
theorem dX1_farness_15 : decode cX1_farness 15 = .ok (.iload_n 1, 1) := by decide +kernel
theorem dX1_farness_16 : decode cX1_farness 16 = .ok (.iload_n 2, 1) := by decide +kernel
theorem dX1_farness_17 : decode cX1_farness 17 = .ok (.iload 6, 2) := by decide +kernel
theorem dX1_farness_19 : decode cX1_farness 19 = .ok (.invokevirtual 55, 3) := by decide +kernel
theorem dX1_farness_22 : decode cX1_farness 22 = .ok (.aload_n 0, 1) := by decide +kernel
theorem dX1_farness_23 : decode cX1_farness 23 = .ok (.iload_n 3, 1) := by decide +kernel
theorem dX1_farness_24 : decode cX1_farness 24 = .ok (.iload 4, 2) := by decide +kernel
theorem dX1_farness_26 : decode cX1_farness 26 = .ok (.iconst 4, 1) := by decide +kernel
theorem dX1_farness_27 : decode cX1_farness 27 = .ok (.iload 6, 2) := by decide +kernel
theorem dX1_farness_29 : decode cX1_farness 29 = .ok (.isub, 1) := by decide +kernel
theorem dX1_farness_30 : decode cX1_farness 30 = .ok (.invokevirtual 55, 3) := by decide +kernel
theorem dX1_farness_33 : decode cX1_farness 33 = .ok (.iadd, 1) := by decide +kernel
theorem dX1_farness_34 : decode cX1_farness 34 = .ok (.invokestatic 58, 3) := by decide +kernel
theorem dX1_farness_37 : decode cX1_farness 37 = .ok (.iadd, 1) := by decide +kernel
theorem dX1_farness_38 : decode cX1_farness 38 = .ok (.istore 5, 2) := by decide +kernel
theorem dX1_farness_40 : decode cX1_farness 40 = .ok (.iinc 6 1, 3) := by decide +kernel
theorem dX1_farness_43 : decode cX1_farness 43 = .ok (.goto (-37), 3) := by decide +kernel
theorem dX1_farness_46 : decode cX1_farness 46 = .ok (.iload 5, 2) := by decide +kernel
theorem dX1_farness_48 : decode cX1_farness 48 = .ok (.ireturn, 1) := by decide +kernel
theorem dX2_init_0 : decode cX2_init 0 = .ok (.aload_n 0, 1) := by decide +kernel
theorem dX2_init_1 : decode cX2_init 1 = .ok (.invokespecial 3, 3) := by decide +kernel
theorem dX2_init_4 : decode cX2_init 4 = .ok (.aload_n 0, 1) := by decide +kernel
theorem dX2_init_5 : decode cX2_init 5 = .ok (.bipush 25, 2) := by decide +kernel
theorem dX2_init_7 : decode cX2_init 7 = .ok (.newarray .int, 2) := by decide +kernel
theorem dX2_init_9 : decode cX2_init 9 = .ok (.putfield 9, 3) := by decide +kernel
theorem dX2_init_12 : decode cX2_init 12 = .ok (.aload_n 0, 1) := by decide +kernel
theorem dX2_init_13 : decode cX2_init 13 = .ok (.bipush 25, 2) := by decide +kernel
theorem dX2_init_15 : decode cX2_init 15 = .ok (.newarray .int, 2) := by decide +kernel
theorem dX2_init_17 : decode cX2_init 17 = .ok (.putfield 15, 3) := by decide +kernel
theorem dX2_init_20 : decode cX2_init 20 = .ok (.return_, 1) := by decide +kernel
theorem dX2_size_0 : decode cX2_size 0 = .ok (.aload_n 0, 1) := by decide +kernel
theorem dX2_size_1 : decode cX2_size 1 = .ok (.getfield 18, 3) := by decide +kernel
theorem dX2_size_4 : decode cX2_size 4 = .ok (.ireturn, 1) := by decide +kernel
theorem dX2_isFull_0 : decode cX2_isFull 0 = .ok (.aload_n 0, 1) := by decide +kernel
theorem dX2_isFull_1 : decode cX2_isFull 1 = .ok (.getfield 18, 3) := by decide +kernel
theorem dX2_isFull_4 : decode cX2_isFull 4 = .ok (.bipush 25, 2) := by decide +kernel
theorem dX2_isFull_6 : decode cX2_isFull 6 = .ok (.if_icmp .lt 7, 3) := by decide +kernel
theorem dX2_isFull_9 : decode cX2_isFull 9 = .ok (.iconst 1, 1) := by decide +kernel
theorem dX2_isFull_10 : decode cX2_isFull 10 = .ok (.goto 4, 3) := by decide +kernel
theorem dX2_isFull_13 : decode cX2_isFull 13 = .ok (.iconst 0, 1) := by decide +kernel
theorem dX2_isFull_14 : decode cX2_isFull 14 = .ok (.ireturn, 1) := by decide +kernel
theorem dX2_hasPlace_0 : decode cX2_hasPlace 0 = .ok (.iload_n 1, 1) := by decide +kernel
theorem dX2_hasPlace_1 : decode cX2_hasPlace 1 = .ok (.ifCond .lt 15, 3) := by decide +kernel
theorem dX2_hasPlace_4 : decode cX2_hasPlace 4 = .ok (.iload_n 1, 1) := by decide +kernel
theorem dX2_hasPlace_5 : decode cX2_hasPlace 5 = .ok (.aload_n 0, 1) := by decide +kernel
theorem dX2_hasPlace_6 : decode cX2_hasPlace 6 = .ok (.getfield 18, 3) := by decide +kernel
theorem dX2_hasPlace_9 : decode cX2_hasPlace 9 = .ok (.if_icmp .ge 7, 3) := by decide +kernel
theorem dX2_hasPlace_12 : decode cX2_hasPlace 12 = .ok (.iconst 1, 1) := by decide +kernel
theorem dX2_hasPlace_13 : decode cX2_hasPlace 13 = .ok (.goto 4, 3) := by decide +kernel
theorem dX2_hasPlace_16 : decode cX2_hasPlace 16 = .ok (.iconst 0, 1) := by decide +kernel
theorem dX2_hasPlace_17 : decode cX2_hasPlace 17 = .ok (.ireturn, 1) := by decide +kernel
set_option maxRecDepth 20000 in
theorem ggX2_pieceAt_X2_hasPlace : GoodIn wsX2_pieceAt wsX2_hasPlace := goodIn_r _ [6, 7, 8, 9, 10] (by decide +kernel) (by decide +kernel)
set_option maxRecDepth 20000 in
theorem gX2_pieceAt_X2_hasPlace : GoodIn wsX2_pieceAt (wsV RX2 22 RX2 yX2_hasPlace wsX2_hasPlace) := goodIn_app (goodIn_of _ (by decide +kernel)) ggX2_pieceAt_X2_hasPlace
theorem dX2_pieceAt_0 : decode cX2_pieceAt 0 = .ok (.aload_n 0, 1) := by decide +kernel
theorem dX2_pieceAt_1 : decode cX2_pieceAt 1 = .ok (.iload_n 1, 1) := by decide +kernel
theorem dX2_pieceAt_2 : decode cX2_pieceAt 2 = .ok (.invokevirtual 22, 3) := by decide +kernel
theorem dX2_pieceAt_5 : decode cX2_pieceAt 5 = .ok (.ifCond .eq 12, 3) := by decide +kernel
theorem dX2_pieceAt_8 : decode cX2_pieceAt 8 = .ok (.aload_n 0, 1) := by decide +kernel
theorem dX2_pieceAt_9 : decode cX2_pieceAt 9 = .ok (.getfield 9, 3) := by decide +kernel
theorem dX2_pieceAt_12 : decode cX2_pieceAt 12 = .ok (.iload_n 1, 1) := by decide +kernel
theorem dX2_pieceAt_13 : decode cX2_pieceAt 13 = .ok (.iaload, 1) := by decide +kernel
theorem dX2_pieceAt_14 : decode cX2_pieceAt 14 = .ok (.goto 5, 3) := by decide +kernel
theorem dX2_pieceAt_17 : decode cX2_pieceAt 17 = .ok (.bipush (-9), 2) := by decide +kernel
theorem dX2_pieceAt_19 : decode cX2_pieceAt 19 = .ok (.ireturn, 1) := by decide +kernel
set_option maxRecDepth 20000 in
theorem ggX2_turnAt_X2_hasPlace : GoodIn wsX2_turnAt wsX2_hasPlace := goodIn_r _ [6, 7, 8, 9, 10] (by decide +kernel) (by decide +kernel)
set_option maxRecDepth 20000 in
theorem gX2_turnAt_X2_hasPlace : GoodIn wsX2_turnAt (wsV RX2 22 RX2 yX2_hasPlace wsX2_hasPlace) := goodIn_app (goodIn_of _ (by decide +kernel)) ggX2_turnAt_X2_hasPlace
theorem dX2_turnAt_0 : decode cX2_turnAt 0 = .ok (.aload_n 0, 1) := by decide +kernel
theorem dX2_turnAt_1 : decode cX2_turnAt 1 = .ok (.iload_n 1, 1) := by decide +kernel
theorem dX2_turnAt_2 : decode cX2_turnAt 2 = .ok (.invokevirtual 22, 3) := by decide +kernel
theorem dX2_turnAt_5 : decode cX2_turnAt 5 = .ok (.ifCond .eq 12, 3) := by decide +kernel
theorem dX2_turnAt_8 : decode cX2_turnAt 8 = .ok (.aload_n 0, 1) := by decide +kernel
theorem dX2_turnAt_9 : decode cX2_turnAt 9 = .ok (.getfield 15, 3) := by decide +kernel
theorem dX2_turnAt_12 : decode cX2_turnAt 12 = .ok (.iload_n 1, 1) := by decide +kernel
theorem dX2_turnAt_13 : decode cX2_turnAt 13 = .ok (.iaload, 1) := by decide +kernel
theorem dX2_turnAt_14 : decode cX2_turnAt 14 = .ok (.goto 4, 3) := by decide +kernel
theorem dX2_turnAt_17 : decode cX2_turnAt 17 = .ok (.iconst 0, 1) := by decide +kernel
theorem dX2_turnAt_18 : decode cX2_turnAt 18 = .ok (.ireturn, 1) := by decide +kernel
theorem dX2_clearAll_0 : decode cX2_clearAll 0 = .ok (.aload_n 0, 1) := by decide +kernel
theorem dX2_clearAll_1 : decode cX2_clearAll 1 = .ok (.iconst 0, 1) := by decide +kernel
theorem dX2_clearAll_2 : decode cX2_clearAll 2 = .ok (.putfield 18, 3) := by decide +kernel
theorem dX2_clearAll_5 : decode cX2_clearAll 5 = .ok (.return_, 1) := by decide +kernel
set_option maxRecDepth 20000 in
theorem ggX2_append_X2_isFull : GoodIn wsX2_append wsX2_isFull := goodIn_r _ [8, 2, 9, 10, 11] (by decide +kernel) (by decide +kernel)
set_option maxRecDepth 20000 in
theorem gX2_append_X2_isFull : GoodIn wsX2_append (wsV RX2 26 RX2 yX2_isFull wsX2_isFull) := goodIn_app (goodIn_of _ (by decide +kernel)) ggX2_append_X2_isFull
theorem dX2_append_0 : decode cX2_append 0 = .ok (.aload_n 0, 1) := by decide +kernel
theorem dX2_append_1 : decode cX2_append 1 = .ok (.invokevirtual 26, 3) := by decide +kernel
theorem dX2_append_4 : decode cX2_append 4 = .ok (.ifCond .ne 33, 3) := by decide +kernel
theorem dX2_append_7 : decode cX2_append 7 = .ok (.aload_n 0, 1) := by decide +kernel
theorem dX2_append_8 : decode cX2_append 8 = .ok (.getfield 9, 3) := by decide +kernel
theorem dX2_append_11 : decode cX2_append 11 = .ok (.aload_n 0, 1) := by decide +kernel
theorem dX2_append_12 : decode cX2_append 12 = .ok (.getfield 18, 3) := by decide +kernel
theorem dX2_append_15 : decode cX2_append 15 = .ok (.iload_n 1, 1) := by decide +kernel
theorem dX2_append_16 : decode cX2_append 16 = .ok (.iastore, 1) := by decide +kernel
theorem dX2_append_17 : decode cX2_append 17 = .ok (.aload_n 0, 1) := by decide +kernel
theorem dX2_append_18 : decode cX2_append 18 = .ok (.getfield 15, 3) := by decide +kernel
theorem dX2_append_21 : decode cX2_append 21 = .ok (.aload_n 0, 1) := by decide +kernel
theorem dX2_append_22 : decode cX2_append 22 = .ok (.getfield 18, 3) := by decide +kernel
theorem dX2_append_25 : decode cX2_append 25 = .ok (.iload_n 2, 1) := by decide +kernel
theorem dX2_append_26 : decode cX2_append 26 = .ok (.iastore, 1) := by decide +kernel
theorem dX2_append_27 : decode cX2_append 27 = .ok (.aload_n 0, 1) := by decide +kernel
theorem dX2_append_28 : decode cX2_append 28 = .ok (.dup, 1) := by decide +kernel
theorem dX2_append_29 : decode cX2_append 29 = .ok (.getfield 18, 3) := by decide +kernel
theorem dX2_append_32 : decode cX2_append 32 = .ok (.iconst 1, 1) := by decide +kernel
theorem dX2_append_33 : decode cX2_append 33 = .ok (.iadd, 1) := by decide +kernel
theorem dX2_append_34 : decode cX2_append 34 = .ok (.putfield 18, 3) := by decide +kernel
theorem dX2_append_37 : decode cX2_append 37 = .ok (.return_, 1) := by decide +kernel
set_option maxRecDepth 20000 in
theorem ggX2_setTurn_X2_hasPlace : GoodIn wsX2_setTurn wsX2_hasPlace := goodIn_r _ [6, 7, 8, 9, 10] (by decide +kernel) (by decide +kernel)
set_option maxRecDepth 20000 in
theorem gX2_setTurn_X2_hasPlace : GoodIn wsX2_setTurn (wsV RX2 22 RX2 yX2_hasPlace wsX2_hasPlace) := goodIn_app (goodIn_of _ (by decide +kernel)) ggX2_setTurn_X2_hasPlace
theorem dX2_setTurn_0 : decode cX2_setTurn 0 = .ok (.aload_n 0, 1) := by decide +kernel
theorem dX2_setTurn_1 : decode cX2_setTurn 1 = .ok (.iload_n 1, 1) := by decide +kernel
theorem dX2_setTurn_2 : decode cX2_setTurn 2 = .ok (.invokevirtual 22, 3) := by decide +kernel
theorem dX2_setTurn_5 : decode cX2_setTurn 5 = .ok (.ifCond .eq 10, 3) := by decide +kernel
theorem dX2_setTurn_8 : decode cX2_setTurn 8 = .ok (.aload_n 0, 1) := by decide +kernel
theorem dX2_setTurn_9 : decode cX2_setTurn 9 = .ok (.getfield 15, 3) := by decide +kernel
theorem dX2_setTurn_12 : decode cX2_setTurn 12 = .ok (.iload_n 1, 1) := by decide +kernel
theorem dX2_setTurn_13 : decode cX2_setTurn 13 = .ok (.iload_n 2, 1) := by decide +kernel
theorem dX2_setTurn_14 : decode cX2_setTurn 14 = .ok (.iastore, 1) := by decide +kernel
theorem dX2_setTurn_15 : decode cX2_setTurn 15 = .ok (.return_, 1) := by decide +kernel
set_option maxRecDepth 20000 in
theorem ggX2_swapPieces_X2_hasPlace : GoodIn wsX2_swapPieces wsX2_hasPlace := goodIn_r _ [6, 7, 8, 9, 10] (by decide +kernel) (by decide +kernel)
set_option maxRecDepth 20000 in
theorem gX2_swapPieces_X2_hasPlace : GoodIn wsX2_swapPieces (wsV RX2 22 RX2 yX2_hasPlace wsX2_hasPlace) := goodIn_app (goodIn_of _ (by decide +kernel)) ggX2_swapPieces_X2_hasPlace
theorem dX2_swapPieces_0 : decode cX2_swapPieces 0 = .ok (.aload_n 0, 1) := by decide +kernel
theorem dX2_swapPieces_1 : decode cX2_swapPieces 1 = .ok (.iload_n 1, 1) := by decide +kernel
theorem dX2_swapPieces_2 : decode cX2_swapPieces 2 = .ok (.invokevirtual 22, 3) := by decide +kernel
theorem dX2_swapPieces_5 : decode cX2_swapPieces 5 = .ok (.ifCond .eq 37, 3) := by decide +kernel
theorem dX2_swapPieces_8 : decode cX2_swapPieces 8 = .ok (.aload_n 0, 1) := by decide +kernel
theorem dX2_swapPieces_9 : decode cX2_swapPieces 9 = .ok (.iload_n 2, 1) := by decide +kernel
theorem dX2_swapPieces_10 : decode cX2_swapPieces 10 = .ok (.invokevirtual 22, 3) := by decide +kernel
theorem dX2_swapPieces_13 : decode cX2_swapPieces 13 = .ok (.ifCond .eq 29, 3) := by decide +kernel
theorem dX2_swapPieces_16 : decode cX2_swapPieces 16 = .ok (.aload_n 0, 1) := by decide +kernel
theorem dX2_swapPieces_17 : decode cX2_swapPieces 17 = .ok (.getfield 9, 3) := by decide +kernel
theorem dX2_swapPieces_20 : decode cX2_swapPieces 20 = .ok (.iload_n 1, 1) := by decide +kernel
theorem dX2_swapPieces_21 : decode cX2_swapPieces 21 = .ok (.iaload, 1) := by decide +kernel
theorem dX2_swapPieces_22 : decode cX2_swapPieces 22 = .ok (.istore_n 3, 1) := by decide +kernel
theorem dX2_swapPieces_23 : decode cX2_swapPieces 23 = .ok (.aload_n 0, 1) := by decide +kernel
theorem dX2_swapPieces_24 : decode cX2_swapPieces 24 = .ok (.getfield 9, 3) := by decide +kernel
theorem dX2_swapPieces_27 : decode cX2_swapPieces 27 = .ok (.iload_n 1, 1) := by decide +kernel
theorem dX2_swapPieces_28 : decode cX2_swapPieces 28 = .ok (.aload_n 0, 1) := by decide +kernel
theorem dX2_swapPieces_29 : decode cX2_swapPieces 29 = .ok (.getfield 9, 3) := by decide +kernel
theorem dX2_swapPieces_32 : decode cX2_swapPieces 32 = .ok (.iload_n 2, 1) := by decide +kernel
theorem dX2_swapPieces_33 : decode cX2_swapPieces 33 = .ok (.iaload, 1) := by decide +kernel
theorem dX2_swapPieces_34 : decode cX2_swapPieces 34 = .ok (.iastore, 1) := by decide +kernel
theorem dX2_swapPieces_35 : decode cX2_swapPieces 35 = .ok (.aload_n 0, 1) := by decide +kernel
theorem dX2_swapPieces_36 : decode cX2_swapPieces 36 = .ok (.getfield 9, 3) := by decide +kernel
theorem dX2_swapPieces_39 : decode cX2_swapPieces 39 = .ok (.iload_n 2, 1) := by decide +kernel
theorem dX2_swapPieces_40 : decode cX2_swapPieces 40 = .ok (.iload_n 3, 1) := by decide +kernel
theorem dX2_swapPieces_41 : decode cX2_swapPieces 41 = .ok (.iastore, 1) := by decide +kernel
theorem dX2_swapPieces_42 : decode cX2_swapPieces 42 = .ok (.return_, 1) := by decide +kernel
set_option maxRecDepth 20000 in
theorem ggX2_removeAt_X2_hasPlace : GoodIn wsX2_removeAt wsX2_hasPlace := goodIn_r _ [8, 1, 9, 10, 11] (by decide +kernel) (by decide +kernel)
set_option maxRecDepth 20000 in
theorem gX2_removeAt_X2_hasPlace : GoodIn wsX2_removeAt (wsV RX2 22 RX2 yX2_hasPlace wsX2_hasPlace) := goodIn_app (goodIn_of _ (by decide +kernel)) ggX2_removeAt_X2_hasPlace
theorem dX2_removeAt_0 : decode cX2_removeAt 0 = .ok (.aload_n 0, 1) := by decide +kernel
theorem dX2_removeAt_1 : decode cX2_removeAt 1 = .ok (.iload_n 1, 1) := by decide +kernel
theorem dX2_removeAt_2 : decode cX2_removeAt 2 = .ok (.invokevirtual 22, 3) := by decide +kernel
theorem dX2_removeAt_5 : decode cX2_removeAt 5 = .ok (.ifCond .eq 59, 3) := by decide +kernel
theorem dX2_removeAt_8 : decode cX2_removeAt 8 = .ok (.iload_n 1, 1) := by decide +kernel
theorem dX2_removeAt_9 : decode cX2_removeAt 9 = .ok (.iconst 1, 1) := by decide +kernel
theorem dX2_removeAt_10 : decode cX2_removeAt 10 = .ok (.iadd, 1) := by decide +kernel
theorem dX2_removeAt_11 : decode cX2_removeAt 11 = .ok (.istore_n 2, 1) := by decide +kernel
theorem dX2_removeAt_12 : decode cX2_removeAt 12 = .ok (.iload_n 2, 1) := by decide +kernel
theorem dX2_removeAt_13 : decode cX2_removeAt 13 = .ok (.aload_n 0, 1) := by decide +kernel
theorem dX2_removeAt_14 : decode cX2_removeAt 14 = .ok (.getfield 18, 3) := by decide +kernel
theorem dX2_removeAt_17 : decode cX2_removeAt 17 = .ok (.if_icmp .ge 37, 3) := by decide +kernel
theorem dX2_removeAt_20 : decode cX2_removeAt 20 = .ok (.aload_n 0, 1) := by decide +kernel
theorem dX2_removeAt_21 : decode cX2_removeAt 21 = .ok (.getfield 9, 3) := by decide +kernel
theorem dX2_removeAt_24 : decode cX2_removeAt 24 = .ok (.iload_n 2, 1) := by decide +kernel
theorem dX2_removeAt_25 : decode cX2_removeAt 25 = .ok (.iconst 1, 1) := by decide +kernel
theorem dX2_removeAt_26 : decode cX2_removeAt 26 = .ok (.isub, 1) := by decide +kernel
theorem dX2_removeAt_27 : decode cX2_removeAt 27 = .ok (.aload_n 0, 1) := by decide +kernel
theorem dX2_removeAt_28 : decode cX2_removeAt 28 = .ok (.getfield 9, 3) := by decide +kernel
theorem dX2_removeAt_31 : decode cX2_removeAt 31 = .ok (.iload_n 2, 1) := by decide +kernel
theorem dX2_removeAt_32 : decode cX2_removeAt 32 = .ok (.iaload, 1) := by decide +kernel
theorem dX2_removeAt_33 : decode cX2_removeAt 33 = .ok (.iastore, 1) := by decide +kernel
theorem dX2_removeAt_34 : decode cX2_removeAt 34 = .ok (.aload_n 0, 1) := by decide +kernel
theorem dX2_removeAt_35 : decode cX2_removeAt 35 = .ok (.getfield 15, 3) := by decide +kernel
theorem dX2_removeAt_38 : decode cX2_removeAt 38 = .ok (.iload_n 2, 1) := by decide +kernel
theorem dX2_removeAt_39 : decode cX2_removeAt 39 = .ok (.iconst 1, 1) := by decide +kernel
theorem dX2_removeAt_40 : decode cX2_removeAt 40 = .ok (.isub, 1) := by decide +kernel
theorem dX2_removeAt_41 : decode cX2_removeAt 41 = .ok (.aload_n 0, 1) := by decide +kernel
theorem dX2_removeAt_42 : decode cX2_removeAt 42 = .ok (.getfield 15, 3) := by decide +kernel
theorem dX2_removeAt_45 : decode cX2_removeAt 45 = .ok (.iload_n 2, 1) := by decide +kernel
theorem dX2_removeAt_46 : decode cX2_removeAt 46 = .ok (.iaload, 1) := by decide +kernel
theorem dX2_removeAt_47 : decode cX2_removeAt 47 = .ok (.iastore, 1) := by decide +kernel
theorem dX2_removeAt_48 : decode cX2_removeAt 48 = .ok (.iinc 2 1, 3) := by decide +kernel
theorem dX2_removeAt_51 : decode cX2_removeAt 51 = .ok (.goto (-39), 3) := by decide +kernel
theorem dX2_removeAt_54 : decode cX2_removeAt 54 = .ok (.aload_n 0, 1) := by decide +kernel
theorem dX2_removeAt_55 : decode cX2_removeAt 55 = .ok (.dup, 1) := by decide +kernel
theorem dX2_removeAt_56 : decode cX2_removeAt 56 = .ok (.getfield 18, 3) := by decide +kernel
theorem dX2_removeAt_59 : decode cX2_removeAt 59 = .ok (.iconst 1, 1) := by decide +kernel
theorem dX2_removeAt_60 : decode cX2_removeAt 60 = .ok (.isub, 1) := by decide +kernel
theorem dX2_removeAt_61 : decode cX2_removeAt 61 = .ok (.putfield 18, 3) := by decide +kernel
theorem dX2_removeAt_64 : decode cX2_removeAt 64 = .ok (.return_, 1) := by decide +kernel
theorem dX2_timesOf_0 : decode cX2_timesOf 0 = .ok (.iconst 0, 1) := by decide +kernel
theorem dX2_timesOf_1 : decode cX2_timesOf 1 = .ok (.istore_n 2, 1) := by decide +kernel
theorem dX2_timesOf_2 : decode cX2_timesOf 2 = .ok (.iconst 0, 1) := by decide +kernel
theorem dX2_timesOf_3 : decode cX2_timesOf 3 = .ok (.istore_n 3, 1) := by decide +kernel
theorem dX2_timesOf_4 : decode cX2_timesOf 4 = .ok (.iload_n 3, 1) := by decide +kernel
theorem dX2_timesOf_5 : decode cX2_timesOf 5 = .ok (.aload_n 0, 1) := by decide +kernel
theorem dX2_timesOf_6 : decode cX2_timesOf 6 = .ok (.getfield 18, 3) := by decide +kernel
theorem dX2_timesOf_9 : decode cX2_timesOf 9 = .ok (.if_icmp .ge 22, 3) := by decide +kernel
theorem dX2_timesOf_12 : decode cX2_timesOf 12 = .ok (.aload_n 0, 1) := by decide +kernel
theorem dX2_timesOf_13 : decode cX2_timesOf 13 = .ok (.getfield 9, 3) := by decide +kernel
theorem dX2_timesOf_16 : decode cX2_timesOf 16 = .ok (.iload_n 3, 1) := by decide +kernel
theorem dX2_timesOf_17 : decode cX2_timesOf 17 = .ok (.iaload, 1) := by decide +kernel
theorem dX2_timesOf_18 : decode cX2_timesOf 18 = .ok (.iload_n 1, 1) := by decide +kernel
theorem dX2_timesOf_19 : decode cX2_timesOf 19 = .ok (.if_icmp .ne 6, 3) := by decide +kernel
theorem dX2_timesOf_22 : decode cX2_timesOf 22 = .ok (.iinc 2 1, 3) := by decide +kernel
theorem dX2_timesOf_25 : decode cX2_timesOf 25 = .ok (.iinc 3 1, 3) := by decide +kernel
theorem dX2_timesOf_28 : decode cX2_timesOf 28 = .ok (.goto (-24), 3) := by decide +kernel
theorem dX2_timesOf_31 : decode cX2_timesOf 31 = .ok (.iload_n 2, 1) := by decide +kernel
theorem dX2_timesOf_32 : decode cX2_timesOf 32 = .ok (.ireturn, 1) := by decide +kernel
theorem dX4_init_0 : decode cX4_init 0 = .ok (.aload_n 0, 1) := by decide +kernel
theorem dX4_init_1 : decode cX4_init 1 = .ok (.invokespecial 3, 3) := by decide +kernel
theorem dX4_init_4 : decode cX4_init 4 = .ok (.aload_n 0, 1) := by decide +kernel
theorem dX4_init_5 : decode cX4_init 5 = .ok (.bipush 50, 2) := by decide +kernel
theorem dX4_init_7 : decode cX4_init 7 = .ok (.newarray .int, 2) := by decide +kernel
theorem dX4_init_9 : decode cX4_init 9 = .ok (.putfield 9, 3) := by decide +kernel
theorem dX4_init_12 : decode cX4_init 12 = .ok (.return_, 1) := by decide +kernel
end
section
/-! whole numbers as the machine's ints and longs -/
def iI (z : Int) : Int32 := Int32.ofInt z
def lI (z : Int) : Int64 := Int64.ofInt z
theorem iI_toInt {z : Int} (h1 : -2147483648 ≤ z) (h2 : z < 2147483648) : (iI z).toInt = z := Int32.toInt_ofInt_of_le h1 h2
theorem lI_toInt {z : Int} (h1 : -9223372036854775808 ≤ z) (h2 : z < 9223372036854775808) : (lI z).toInt = z := Int64.toInt_ofInt_of_le h1 h2
theorem iI_of (x : Int32) : iI x.toInt = x := Int32.ofInt_toInt x
theorem iI_add (a b : Int) : iI a + iI b = iI (a + b) := (Int32.ofInt_add a b).symm
theorem iI_sub (a b : Int) : iI a - iI b = iI (a - b) := (Int32.ofInt_sub a b).symm
theorem iI_mul (a b : Int) : iI a * iI b = iI (a * b) := (Int32.ofInt_mul a b).symm
theorem iI_neg (a : Int) : - iI a = iI (-a) := (Int32.ofInt_neg a).symm
theorem lI_add (a b : Int) : lI a + lI b = lI (a + b) := (Int64.ofInt_add a b).symm
theorem lI_sub (a b : Int) : lI a - lI b = lI (a - b) := (Int64.ofInt_sub a b).symm
theorem lI_mul (a b : Int) : lI a * lI b = lI (a * b) := (Int64.ofInt_mul a b).symm
theorem iI_inj {a b : Int} (a1 : -2147483648 ≤ a) (a2 : a < 2147483648) (b1 : -2147483648 ≤ b) (b2 : b < 2147483648) : (iI a = iI b) ↔ a = b := by
  constructor
  · intro h
    have := congrArg Int32.toInt h
    rwa [iI_toInt a1 a2, iI_toInt b1 b2] at this
  · intro h; rw [h]
theorem iI_le {a b : Int} (a1 : -2147483648 ≤ a) (a2 : a < 2147483648) (b1 : -2147483648 ≤ b) (b2 : b < 2147483648) : (iI a ≤ iI b) ↔ a ≤ b := by
  rw [Int32.le_iff_toInt_le, iI_toInt a1 a2, iI_toInt b1 b2]
theorem iI_lt {a b : Int} (a1 : -2147483648 ≤ a) (a2 : a < 2147483648) (b1 : -2147483648 ≤ b) (b2 : b < 2147483648) : (iI a < iI b) ↔ a < b := by
  rw [Int32.lt_iff_toInt_lt, iI_toInt a1 a2, iI_toInt b1 b2]
theorem lI_inj {a b : Int} (a1 : -9223372036854775808 ≤ a) (a2 : a < 9223372036854775808) (b1 : -9223372036854775808 ≤ b) (b2 : b < 9223372036854775808) : (lI a = lI b) ↔ a = b := by
  constructor
  · intro h
    have := congrArg Int64.toInt h
    rwa [lI_toInt a1 a2, lI_toInt b1 b2] at this
  · intro h; rw [h]
theorem lI_lt {a b : Int} (a1 : -9223372036854775808 ≤ a) (a2 : a < 9223372036854775808) (b1 : -9223372036854775808 ≤ b) (b2 : b < 9223372036854775808) : (lI a < lI b) ↔ a < b := by
  rw [Int64.lt_iff_toInt_lt, lI_toInt a1 a2, lI_toInt b1 b2]
theorem iI_0 : iI 0 = 0 := rfl
theorem iI_nat (k : Nat) (h : k < 2147483648) : (iI (k : Int)).toNatClampNeg = k := by
  rw [Int32.toNatClampNeg, iI_toInt (by omega) (by omega)]; rfl
theorem iI_clamp {z : Int} (h1 : 0 ≤ z) (h2 : z < 2147483648) : (iI z).toNatClampNeg = z.toNat := by
  rw [Int32.toNatClampNeg, iI_toInt (by omega) (by omega)]
theorem iI_in {z : Int} {n : Nat} (h1 : 0 ≤ z) (h2 : z < n) (hn : n < 2147483648) : vp_in (iI z) n := by
  intro h
  rcases h with h | h
  · rw [show (0 : Int32) = iI 0 from rfl, iI_lt (by omega) (by omega) (by omega) (by omega)] at h; omega
  · rw [iI_clamp h1 (by omega)] at h; omega
theorem iI_div {a b : Int} (a1 : 0 ≤ a) (a2 : a < 2147483648) (b1 : 0 < b) (b2 : b < 2147483648) : iI a / iI b = iI (a / b) := by
  have hb := Int.ediv_le_self b a1
  have h0 := Int.ediv_nonneg a1 (Int.le_of_lt b1)
  apply Int32.toInt_inj.mp
  have hne : iI b ≠ -1 := fun h => by
    have h2 := congrArg Int32.toInt h
    rw [iI_toInt (by omega) (by omega)] at h2
    have e : (-1 : Int32).toInt = -1 := by decide
    omega
  rw [Int32.toInt_div_of_ne_right _ _ hne, iI_toInt (by omega) (by omega), iI_toInt (by omega) (by omega), iI_toInt (by omega) (by omega), Int.tdiv_eq_ediv_of_nonneg a1]
theorem iI_rem {a b : Int} (a1 : 0 ≤ a) (a2 : a < 2147483648) (b1 : 0 < b) (b2 : b < 2147483648) : iI a - iI a / iI b * iI b = iI (a % b) := by
  rw [iI_div a1 a2 b1 b2, iI_mul, iI_sub, Int.emod_def, Int.mul_comm]
theorem iI_ne0 {b : Int} (b1 : 0 < b) (b2 : b < 2147483648) : ¬ iI b = 0 := by
  rw [show (0 : Int32) = iI 0 from rfl, iI_inj (by omega) (by omega) (by omega) (by omega)]; omega
theorem iI_long {a : Int} (a1 : -2147483648 ≤ a) (a2 : a < 2147483648) : (iI a).toInt64 = lI a := by
  apply Int64.toInt_inj.mp
  rw [Int32.toInt_toInt64, iI_toInt a1 a2, lI_toInt (by omega) (by omega)]
theorem lI_int {a : Int} : (lI a).toInt32 = iI a := Int64.toInt32_ofInt
def bI (b : Bool) : Int := if b then 1 else 0
theorem bI_t : bI true = 1 := rfl
theorem bI_f : bI false = 0 := rfl
end
section
/-! THE WALK'S OWN LAYER: a state of the walk is a list of cells, a list of locals, a place, a stack; heaps and slots are quantified away -/
abbrev gE : Type := va_G × ClassId × ClassId × ClassId
def gTy (E : gE) : List (ClassId × FieldType) := [(E.2.1, .int), (E.2.2.1, .boolean), (E.2.2.2, .object RX4)]
/-- what the tables say of the kinds -/
def gK (E : gE) (U : State) : Prop := va_K E.1 vwCl (gTy E) U ∧ va_AO RX4 U
theorem gK.moved {E : gE} {u U : State} (hvm : u.vm.Alike U.vm) (h : gK E u) : gK E U := ⟨va_K.moved hvm h.1, va_AO.moved hvm h.2⟩
/-- a row of ints, of booleans, of sheets -/
def aI (E : gE) (n : Nat) (f : Int → Int) : va_E := .inl (E.2.1, n, .inl (fun k : Nat => iI (f (k : Int))))
def aZ (E : gE) (n : Nat) (f : Int → Int) : va_E := .inl (E.2.2.1, n, .inl (fun k : Nat => iI (f (k : Int))))
def aQ (E : gE) (n : Nat) (f : Int → Option Nat) : va_E := .inl (E.2.2.2, n, .inr (.inr (.inr (.inr (fun k : Nat => f (k : Int))))))
def uI (f : Int → Int) (z v : Int) : Int → Int := fun j => if j = z then v else f j
def uQ (f : Int → Option Nat) (z : Int) (v : Option Nat) : Int → Option Nat := fun j => if j = z then v else f j
def gPost (E : gE) (A : Nat → Prop) (post : Option Value → va_W → Prop) : Array Value → State → Outcome → State → Prop := fun _ st oc t => (∃ (v : Option Value) (w : va_W), oc = .returned v ∧ post v w ∧ va_P E.1 vwCl w t.heap ∧ gK E t ∧ va_D A w) ∧ va_F A st t
def gMet (E : gE) (l : Launch) (y : MethodName) (ws : List Cond) (rm : Room) (mc ms : Nat) (as : List Value) (wIn : va_W) (post : Option Value → va_W → Prop) : Prop := ∀ sz : Nat, Met l y ws rm (va_Pc as (fun U => U.heap.size = sz ∧ va_P E.1 vwCl wIn U.heap ∧ gK E U ∧ va_D (fun _ => True) wIn)) (gPost E (va_A wIn sz) post) mc ms (va_A wIn sz)
/-- a method that changes nothing and answers v -/
def gFun (E : gE) (l : Launch) (y : MethodName) (ws : List Cond) (rm : Room) (as : List Value) (wIn : va_W) (v : Value) : Prop := gMet E l y ws rm 0 0 as wIn (fun r w => r = some v ∧ w = wIn)
/-- a method that answers v and leaves the cells w1 -/
def gUpd (E : gE) (l : Launch) (y : MethodName) (ws : List Cond) (rm : Room) (as : List Value) (wIn : va_W) (v : Option Value) (w1 : va_W) : Prop := gMet E l y ws rm 0 0 as wIn (fun r w => r = v ∧ w = w1)
def gC (p : Program) (s : State) (m : MethodId) (args : Array Value) (meth : Method) (c : Code) (cc : ByteArray) (nL : Nat) (own : String) (Ts : List Cond) (E : gE) (A : Nat → Prop) : Prop :=
  p.tables.exec = Jvm.exec ∧ c.code = cc ∧ c.maxLocals = nL ∧ s.vm.findClass own = some m.cls ∧ (∀ w ∈ Ts, w.before args s = true) ∧ gK E s ∧ (∀ q : Nat, s.heap.size ≤ q → A q) ∧ meth.locks = false
def gJ (p : Program) (l : Launch) (e : Env) (R : Room) (s : State) (m : MethodId) (args : Array Value) (below : List Frame) (meth : Method) (c : Code) (cells slots : Nat) (Q : State → Prop) (E : gE) (A : Nat → Prop) (nL : Nat) (ws : va_W) (lv : List (Nat × Value)) (pc : Nat) (st : List Value) : Prop :=
  ∀ (H : Heap) (locs : List Loc) (ls : Array Slot), va_P E.1 vwCl ws H → va_D A ws → va_S A s.heap H locs → lv_has ls nL lv → W p l e R s m args below meth c H locs cells slots Q (F0 m pc ls st)
section GL
variable {p : Program} {l : Launch} {e : Env} {R : Room} {s : State} {m : MethodId} {args : Array Value} {below : List Frame} {meth : Method} {c : Code} {cells slots : Nat} {Q : State → Prop} {E : gE} {A : Nat → Prop} {nL : Nat} {ws : va_W} {lv : List (Nat × Value)} {pc : Nat} {st : List Value} {cc : ByteArray} {own : String} {Ts : List Cond}
theorem g_start {y : MethodName} {wsy ws' : List Cond} {rm : Room} {mc ms maxL : Nat} {ret : Option FieldType} {as : List Value} {wIn : va_W} {post : Option Value → va_W → Prop} (hy : plainName y.cls = true) (hw : wsy = Cond.code y cc maxL ret :: ws') (hn : (lg_sl as).length ≤ maxL)
    (body : ∀ (p : Program) (e : Env) (s : State) (m : MethodId) (args : Array Value) (below : List Frame) (meth : Method) (c : Code) (A : Nat → Prop), gC p s m args meth c cc maxL y.cls wsy E A → meth.sig.returnType = ret → meth.name = y.name →
      gJ p l e rm s m args below meth c 0 0 (MQ below (gPost E A post) args s mc ms A) E A maxL wIn (lv_args 0 as) 0 []) : gMet E l y wsy rm mc ms as wIn post := by
  intro sz
  refine Met.ofW (cc := cc) (maxL := maxL) (ret := ret) hy hw ?_
  intro p e s m args below meth c s₁ B hml hv
  obtain ⟨rfl, hsz, hP, hK, hD0⟩ := hv
  subst hsz
  have hD := hD0.self (sz := s.heap.size)
  rw [lg_entry_eq]
  exact body p e s m _ below meth c (va_A wIn s.heap.size) ⟨B.exec, B.bytes, hml, findClass_of_methodNamed B.named, atoms_spec (ws := wsy) B.pre, hK, fun q h => Or.inr h, B.notSynchronized⟩ B.returns (name_of_methodNamed B.named B.method).1 s.heap [] _ hP hD va_S.rf (lv_entry as hn)
theorem g_w {ws' : va_W} {lv' : List (Nat × Value)} (ks : List Nat) (hw : ws = ws') (hl : lv_pick lv ks = lv') (kk : gJ p l e R s m args below meth c cells slots Q E A nL ws' lv' pc st) : gJ p l e R s m args below meth c cells slots Q E A nL ws lv pc st := by
  intro H locs ls hP hD hS hl0
  subst hw
  exact kk H locs ls hP hD hS (lv_sub hl0 ks hl)
theorem g_perm {ws' : va_W} (is : List Nat) (hw : is.map (fun i => ws[i]?) = ws'.map some) (hn : va_nd is = true) (kk : gJ p l e R s m args below meth c cells slots Q E A nL ws' lv pc st) : gJ p l e R s m args below meth c cells slots Q E A nL ws lv pc st := by
  intro H locs ls hP hD hS hl0
  refine kk H locs ls (fun k q hk => ?_) (hD.sub is hn hw) hS hl0
  have h1 : (is.map (fun i => ws[i]?))[k]? = some (some q) := by rw [hw, List.getElem?_map, hk]; rfl
  rw [List.getElem?_map] at h1
  cases hi : is[k]? with
  | none => rw [hi] at h1; cases h1
  | some i => rw [hi] at h1; exact hP i q (Option.some.inj h1)
theorem g_loop {α : Type} (F : α → va_W) (L : α → List (Nat × Value)) (I : α → Prop) (μ : α → Nat) (a0 : α) (h0 : I a0) (ks : List Nat) (hw : ws = F a0) (hl : lv_pick lv ks = L a0)
    (body : ∀ a : α, I a → (∀ b : α, I b → μ b < μ a → gJ p l e R s m args below meth c cells slots Q E A nL (F b) (L b) pc []) → gJ p l e R s m args below meth c cells slots Q E A nL (F a) (L a) pc []) : gJ p l e R s m args below meth c cells slots Q E A nL ws lv pc [] := by
  refine g_w ks hw hl ?_
  have key : ∀ (n : Nat) (a : α), μ a < n → I a → gJ p l e R s m args below meth c cells slots Q E A nL (F a) (L a) pc [] := by
    intro n
    induction n with
    | zero => intro a h; exact absurd h (Nat.not_lt_zero _)
    | succ n ih => exact fun a h hI => body a hI (fun b hb hlt => ih b (by omega) hb)
  exact key _ a0 (Nat.lt_succ_self _) h0
theorem g_join {α : Type} (F : α → va_W) (L : α → List (Nat × Value)) (S : α → List Value) (t : Nat) (I : α → Prop) (body : ∀ a : α, I a → gJ p l e R s m args below meth c cells slots Q E A nL (F a) (L a) t (S a))
    (kk : (∀ a : α, I a → gJ p l e R s m args below meth c cells slots Q E A nL (F a) (L a) t (S a)) → gJ p l e R s m args below meth c cells slots Q E A nL ws lv pc st) : gJ p l e R s m args below meth c cells slots Q E A nL ws lv pc st := kk body
-- constants, locals, the stack
theorem g_iconst (n' : Nat) (C : gC p s m args meth c cc nL own Ts E A) {n : Int} (hdg : decode cc pc = .ok (.iconst n, 1)) (hp : pc + 1 = n') (kk : gJ p l e R s m args below meth c cells slots Q E A nL ws lv n' (.int (iI n) :: st)) : gJ p l e R s m args below meth c cells slots Q E A nL ws lv pc st := by
  intro H locs ls hP hD hS hl
  subst hp
  exact lv_iconst C.1 C.2.1 hdg rfl (kk H locs ls hP hD hS hl)
theorem g_bipush (n' : Nat) (C : gC p s m args meth c cc nL own Ts E A) {n : Int} (hdg : decode cc pc = .ok (.bipush n, 2)) (hp : pc + 2 = n') (hv : (Int8.ofInt n).toInt32 = iI n) (kk : gJ p l e R s m args below meth c cells slots Q E A nL ws lv n' (.int (iI n) :: st)) : gJ p l e R s m args below meth c cells slots Q E A nL ws lv pc st := by
  intro H locs ls hP hD hS hl
  subst hp
  exact lv_bipush C.1 C.2.1 hdg hv (kk H locs ls hP hD hS hl)
theorem g_sipush (n' : Nat) (C : gC p s m args meth c cc nL own Ts E A) {n : Int} (hdg : decode cc pc = .ok (.sipush n, 3)) (hp : pc + 3 = n') (hv : (Int16.ofInt n).toInt32 = iI n) (kk : gJ p l e R s m args below meth c cells slots Q E A nL ws lv n' (.int (iI n) :: st)) : gJ p l e R s m args below meth c cells slots Q E A nL ws lv pc st := by
  intro H locs ls hP hD hS hl
  subst hp
  exact lv_sipush C.1 C.2.1 hdg hv (kk H locs ls hP hD hS hl)
theorem g_ldc (n' : Nat) (C : gC p s m args meth c cc nL own Ts E A) {index : Nat} {v : Int32} (z : Int) (hdg : decode cc pc = .ok (.ldc index, 2)) (hp : pc + 2 = n') (hm : Cond.constant own index v ∈ Ts) (hv : v = iI z) (kk : gJ p l e R s m args below meth c cells slots Q E A nL ws lv n' (.int (iI z) :: st)) : gJ p l e R s m args below meth c cells slots Q E A nL ws lv pc st := by
  intro H locs ls hP hD hS hl
  subst hp
  subst hv
  exact lv_ldc C.1 C.2.1 C.2.2.2.1 (C.2.2.2.2.1 _ hm) hdg (kk H locs ls hP hD hS hl)
theorem g_ldc2 (n' : Nat) (C : gC p s m args meth c cc nL own Ts E A) {index : Nat} {v : Int64} (z : Int) (hdg : decode cc pc = .ok (.ldc2_w index, 3)) (hp : pc + 3 = n') (hm : Cond.constantLong own index v ∈ Ts) (hv : v = lI z) (kk : gJ p l e R s m args below meth c cells slots Q E A nL ws lv n' (.long (lI z) :: st)) : gJ p l e R s m args below meth c cells slots Q E A nL ws lv pc st := by
  intro H locs ls hP hD hS hl
  subst hp
  subst hv
  exact lv_ldc2 C.1 C.2.1 C.2.2.2.1 (C.2.2.2.2.1 _ hm) hdg (kk H locs ls hP hD hS hl)
theorem g_lconst (n' : Nat) (C : gC p s m args meth c cc nL own Ts E A) {n : Fin 2} (z : Int) (hdg : decode cc pc = .ok (.lconst n, 1)) (hp : pc + 1 = n') (hv : Int64.ofNat (n : Nat) = lI z) (kk : gJ p l e R s m args below meth c cells slots Q E A nL ws lv n' (.long (lI z) :: st)) : gJ p l e R s m args below meth c cells slots Q E A nL ws lv pc st := by
  intro H locs ls hP hD hS hl
  subst hp
  exact lv_lconst C.1 C.2.1 hdg hv (kk H locs ls hP hD hS hl)
theorem g_iload_n (n' : Nat) (C : gC p s m args meth c cc nL own Ts E A) (k : Nat) {kf : Fin 4} {x : Int32} (hdg : decode cc pc = .ok (.iload_n kf, 1)) (hp : pc + 1 = n') (hk : lv[k]? = some ((kf : Nat), .int x)) (kk : gJ p l e R s m args below meth c cells slots Q E A nL ws lv n' (.int x :: st)) : gJ p l e R s m args below meth c cells slots Q E A nL ws lv pc st := by
  intro H locs ls hP hD hS hl
  subst hp
  exact lv_iload_n C.1 C.2.1 hdg rfl (lv_at hl k hk) (kk H locs ls hP hD hS hl)
theorem g_iload (n' : Nat) (C : gC p s m args meth c cc nL own Ts E A) (k : Nat) {i : Nat} {x : Int32} (hdg : decode cc pc = .ok (.iload i, 2)) (hp : pc + 2 = n') (hk : lv[k]? = some (i, .int x)) (kk : gJ p l e R s m args below meth c cells slots Q E A nL ws lv n' (.int x :: st)) : gJ p l e R s m args below meth c cells slots Q E A nL ws lv pc st := by
  intro H locs ls hP hD hS hl
  subst hp
  exact lv_iload C.1 C.2.1 hdg (lv_at hl k hk) (kk H locs ls hP hD hS hl)
theorem g_aload_n (n' : Nat) (C : gC p s m args meth c cc nL own Ts E A) (k : Nat) {kf : Fin 4} {x : Nat} (hdg : decode cc pc = .ok (.aload_n kf, 1)) (hp : pc + 1 = n') (hk : lv[k]? = some ((kf : Nat), .ref x)) (kk : gJ p l e R s m args below meth c cells slots Q E A nL ws lv n' (.ref x :: st)) : gJ p l e R s m args below meth c cells slots Q E A nL ws lv pc st := by
  intro H locs ls hP hD hS hl
  subst hp
  exact lv_aload_n C.1 C.2.1 hdg rfl (lv_at hl k hk) (kk H locs ls hP hD hS hl)
theorem g_aload (n' : Nat) (C : gC p s m args meth c cc nL own Ts E A) (k : Nat) {i : Nat} {x : Nat} (hdg : decode cc pc = .ok (.aload i, 2)) (hp : pc + 2 = n') (hk : lv[k]? = some (i, .ref x)) (kk : gJ p l e R s m args below meth c cells slots Q E A nL ws lv n' (.ref x :: st)) : gJ p l e R s m args below meth c cells slots Q E A nL ws lv pc st := by
  intro H locs ls hP hD hS hl
  subst hp
  exact lv_aload C.1 C.2.1 hdg (lv_at hl k hk) (kk H locs ls hP hD hS hl)
theorem g_lload_n (n' : Nat) (C : gC p s m args meth c cc nL own Ts E A) (k : Nat) {kf : Fin 4} {x : Int64} (hdg : decode cc pc = .ok (.lload_n kf, 1)) (hp : pc + 1 = n') (hk : lv[k]? = some ((kf : Nat), .long x)) (kk : gJ p l e R s m args below meth c cells slots Q E A nL ws lv n' (.long x :: st)) : gJ p l e R s m args below meth c cells slots Q E A nL ws lv pc st := by
  intro H locs ls hP hD hS hl
  subst hp
  exact lv_lload_n C.1 C.2.1 hdg rfl (lv_at hl k hk) (kk H locs ls hP hD hS hl)
theorem g_lload (n' : Nat) (C : gC p s m args meth c cc nL own Ts E A) (k : Nat) {i : Nat} {x : Int64} (hdg : decode cc pc = .ok (.lload i, 2)) (hp : pc + 2 = n') (hk : lv[k]? = some (i, .long x)) (kk : gJ p l e R s m args below meth c cells slots Q E A nL ws lv n' (.long x :: st)) : gJ p l e R s m args below meth c cells slots Q E A nL ws lv pc st := by
  intro H locs ls hP hD hS hl
  subst hp
  exact lv_lload C.1 C.2.1 hdg (lv_at hl k hk) (kk H locs ls hP hD hS hl)
theorem g_istore_n (n' : Nat) (C : gC p s m args meth c cc nL own Ts E A) {kf : Fin 4} {i : Nat} {x : Int32} {lv' : List (Nat × Value)} (hdg : decode cc pc = .ok (.istore_n kf, 1)) (hp : pc + 1 = n') (hi : (kf : Nat) = i) (hn : i < nL) (hlv : (i, Value.int x) :: lv.filter (fun q => !(q.1 == i) && !(q.1 + 1 == i && q.2.category == 2)) = lv') (kk : gJ p l e R s m args below meth c cells slots Q E A nL ws lv' n' st) : gJ p l e R s m args below meth c cells slots Q E A nL ws lv pc (.int x :: st) := by
  intro H locs ls hP hD hS hl
  subst hp
  exact lv_istore_n C.1 C.2.1 hdg hi hl hn hlv (fun ls' hl' => kk H locs ls' hP hD hS hl')
theorem g_istore (n' : Nat) (C : gC p s m args meth c cc nL own Ts E A) {i : Nat} {x : Int32} {lv' : List (Nat × Value)} (hdg : decode cc pc = .ok (.istore i, 2)) (hp : pc + 2 = n') (hn : i < nL) (hlv : (i, Value.int x) :: lv.filter (fun q => !(q.1 == i) && !(q.1 + 1 == i && q.2.category == 2)) = lv') (kk : gJ p l e R s m args below meth c cells slots Q E A nL ws lv' n' st) : gJ p l e R s m args below meth c cells slots Q E A nL ws lv pc (.int x :: st) := by
  intro H locs ls hP hD hS hl
  subst hp
  exact lv_istore C.1 C.2.1 hdg hl hn hlv (fun ls' hl' => kk H locs ls' hP hD hS hl')
theorem g_astore_n (n' : Nat) (C : gC p s m args meth c cc nL own Ts E A) {kf : Fin 4} {i : Nat} {x : Nat} {lv' : List (Nat × Value)} (hdg : decode cc pc = .ok (.astore_n kf, 1)) (hp : pc + 1 = n') (hi : (kf : Nat) = i) (hn : i < nL) (hlv : (i, Value.ref x) :: lv.filter (fun q => !(q.1 == i) && !(q.1 + 1 == i && q.2.category == 2)) = lv') (kk : gJ p l e R s m args below meth c cells slots Q E A nL ws lv' n' st) : gJ p l e R s m args below meth c cells slots Q E A nL ws lv pc (.ref x :: st) := by
  intro H locs ls hP hD hS hl
  subst hp
  exact lv_astore_n C.1 C.2.1 hdg hi hl hn hlv (fun ls' hl' => kk H locs ls' hP hD hS hl')
theorem g_astore (n' : Nat) (C : gC p s m args meth c cc nL own Ts E A) {i : Nat} {x : Nat} {lv' : List (Nat × Value)} (hdg : decode cc pc = .ok (.astore i, 2)) (hp : pc + 2 = n') (hn : i < nL) (hlv : (i, Value.ref x) :: lv.filter (fun q => !(q.1 == i) && !(q.1 + 1 == i && q.2.category == 2)) = lv') (kk : gJ p l e R s m args below meth c cells slots Q E A nL ws lv' n' st) : gJ p l e R s m args below meth c cells slots Q E A nL ws lv pc (.ref x :: st) := by
  intro H locs ls hP hD hS hl
  subst hp
  exact lv_astore C.1 C.2.1 hdg hl hn hlv (fun ls' hl' => kk H locs ls' hP hD hS hl')
theorem g_lstore (n' : Nat) (C : gC p s m args meth c cc nL own Ts E A) {i : Nat} {x : Int64} {lv' : List (Nat × Value)} (hdg : decode cc pc = .ok (.lstore i, 2)) (hp : pc + 2 = n') (hn : i + 1 < nL) (hlv : (i, Value.long x) :: lv.filter (fun q => !(q.1 == i) && (!(q.1 == i + 1) && !(q.1 + 1 == i && q.2.category == 2))) = lv') (kk : gJ p l e R s m args below meth c cells slots Q E A nL ws lv' n' st) : gJ p l e R s m args below meth c cells slots Q E A nL ws lv pc (.long x :: st) := by
  intro H locs ls hP hD hS hl
  subst hp
  exact lv_lstore C.1 C.2.1 hdg hl hn hlv (fun ls' hl' => kk H locs ls' hP hD hS hl')
theorem g_lstore_n (n' : Nat) (C : gC p s m args meth c cc nL own Ts E A) {kf : Fin 4} {i : Nat} {x : Int64} {lv' : List (Nat × Value)} (hdg : decode cc pc = .ok (.lstore_n kf, 1)) (hp : pc + 1 = n') (hi : (kf : Nat) = i) (hn : i + 1 < nL) (hlv : (i, Value.long x) :: lv.filter (fun q => !(q.1 == i) && (!(q.1 == i + 1) && !(q.1 + 1 == i && q.2.category == 2))) = lv') (kk : gJ p l e R s m args below meth c cells slots Q E A nL ws lv' n' st) : gJ p l e R s m args below meth c cells slots Q E A nL ws lv pc (.long x :: st) := by
  intro H locs ls hP hD hS hl
  subst hp
  exact lv_lstore_n C.1 C.2.1 hdg hi hl hn hlv (fun ls' hl' => kk H locs ls' hP hD hS hl')
theorem g_iinc (n' : Nat) (C : gC p s m args meth c cc nL own Ts E A) (k : Nat) {i : Nat} {n z : Int} {lv' : List (Nat × Value)} (hdg : decode cc pc = .ok (.iinc i n, 3)) (hp : pc + 3 = n') (hk : lv[k]? = some (i, .int (iI z))) (hn : i < nL) (hlv : (i, Value.int (iI (z + n))) :: lv.filter (fun q => !(q.1 == i) && !(q.1 + 1 == i && q.2.category == 2)) = lv') (kk : gJ p l e R s m args below meth c cells slots Q E A nL ws lv' n' st) : gJ p l e R s m args below meth c cells slots Q E A nL ws lv pc st := by
  intro H locs ls hP hD hS hl
  subst hp
  exact lv_iinc C.1 C.2.1 hdg hl hk (iI_add z n) hn hlv (fun ls' hl' => kk H locs ls' hP hD hS hl')
theorem g_iadd (n' : Nat) (C : gC p s m args meth c cc nL own Ts E A) {a b : Int} (hdg : decode cc pc = .ok (.iadd, 1)) (hp : pc + 1 = n') (kk : gJ p l e R s m args below meth c cells slots Q E A nL ws lv n' (.int (iI (a + b)) :: st)) : gJ p l e R s m args below meth c cells slots Q E A nL ws lv pc (.int (iI b) :: .int (iI a) :: st) := by
  intro H locs ls hP hD hS hl
  subst hp
  exact lv_iadd C.1 C.2.1 hdg (by rw [iI_add]; exact kk H locs ls hP hD hS hl)
theorem g_isub (n' : Nat) (C : gC p s m args meth c cc nL own Ts E A) {a b : Int} (hdg : decode cc pc = .ok (.isub, 1)) (hp : pc + 1 = n') (kk : gJ p l e R s m args below meth c cells slots Q E A nL ws lv n' (.int (iI (a - b)) :: st)) : gJ p l e R s m args below meth c cells slots Q E A nL ws lv pc (.int (iI b) :: .int (iI a) :: st) := by
  intro H locs ls hP hD hS hl
  subst hp
  exact lv_isub C.1 C.2.1 hdg (by rw [iI_sub]; exact kk H locs ls hP hD hS hl)
theorem g_imul (n' : Nat) (C : gC p s m args meth c cc nL own Ts E A) {a b : Int} (hdg : decode cc pc = .ok (.imul, 1)) (hp : pc + 1 = n') (kk : gJ p l e R s m args below meth c cells slots Q E A nL ws lv n' (.int (iI (a * b)) :: st)) : gJ p l e R s m args below meth c cells slots Q E A nL ws lv pc (.int (iI b) :: .int (iI a) :: st) := by
  intro H locs ls hP hD hS hl
  subst hp
  exact lv_imul C.1 C.2.1 hdg (by rw [iI_mul]; exact kk H locs ls hP hD hS hl)
theorem g_ladd (n' : Nat) (C : gC p s m args meth c cc nL own Ts E A) {a b : Int} (hdg : decode cc pc = .ok (.ladd, 1)) (hp : pc + 1 = n') (kk : gJ p l e R s m args below meth c cells slots Q E A nL ws lv n' (.long (lI (a + b)) :: st)) : gJ p l e R s m args below meth c cells slots Q E A nL ws lv pc (.long (lI b) :: .long (lI a) :: st) := by
  intro H locs ls hP hD hS hl
  subst hp
  exact lv_ladd C.1 C.2.1 hdg (by rw [lI_add]; exact kk H locs ls hP hD hS hl)
theorem g_lsub (n' : Nat) (C : gC p s m args meth c cc nL own Ts E A) {a b : Int} (hdg : decode cc pc = .ok (.lsub, 1)) (hp : pc + 1 = n') (kk : gJ p l e R s m args below meth c cells slots Q E A nL ws lv n' (.long (lI (a - b)) :: st)) : gJ p l e R s m args below meth c cells slots Q E A nL ws lv pc (.long (lI b) :: .long (lI a) :: st) := by
  intro H locs ls hP hD hS hl
  subst hp
  exact lv_lsub C.1 C.2.1 hdg (by rw [lI_sub]; exact kk H locs ls hP hD hS hl)
theorem g_lmul (n' : Nat) (C : gC p s m args meth c cc nL own Ts E A) {a b : Int} (hdg : decode cc pc = .ok (.lmul, 1)) (hp : pc + 1 = n') (kk : gJ p l e R s m args below meth c cells slots Q E A nL ws lv n' (.long (lI (a * b)) :: st)) : gJ p l e R s m args below meth c cells slots Q E A nL ws lv pc (.long (lI b) :: .long (lI a) :: st) := by
  intro H locs ls hP hD hS hl
  subst hp
  exact lv_lmul C.1 C.2.1 hdg (by rw [lI_mul]; exact kk H locs ls hP hD hS hl)
theorem g_ladd_r (n' : Nat) (C : gC p s m args meth c cc nL own Ts E A) {a b : Int64} (hdg : decode cc pc = .ok (.ladd, 1)) (hp : pc + 1 = n') (kk : gJ p l e R s m args below meth c cells slots Q E A nL ws lv n' (.long (a + b) :: st)) : gJ p l e R s m args below meth c cells slots Q E A nL ws lv pc (.long b :: .long a :: st) := by
  intro H locs ls hP hD hS hl
  subst hp
  exact lv_ladd C.1 C.2.1 hdg (kk H locs ls hP hD hS hl)
theorem g_lmul_r (n' : Nat) (C : gC p s m args meth c cc nL own Ts E A) {a b : Int64} (hdg : decode cc pc = .ok (.lmul, 1)) (hp : pc + 1 = n') (kk : gJ p l e R s m args below meth c cells slots Q E A nL ws lv n' (.long (a * b) :: st)) : gJ p l e R s m args below meth c cells slots Q E A nL ws lv pc (.long b :: .long a :: st) := by
  intro H locs ls hP hD hS hl
  subst hp
  exact lv_lmul C.1 C.2.1 hdg (kk H locs ls hP hD hS hl)
theorem g_land_r (n' : Nat) (C : gC p s m args meth c cc nL own Ts E A) {a b : Int64} (hdg : decode cc pc = .ok (.land, 1)) (hp : pc + 1 = n') (kk : gJ p l e R s m args below meth c cells slots Q E A nL ws lv n' (.long (a &&& b) :: st)) : gJ p l e R s m args below meth c cells slots Q E A nL ws lv pc (.long b :: .long a :: st) := by
  intro H locs ls hP hD hS hl
  subst hp
  exact lv_land C.1 C.2.1 hdg (kk H locs ls hP hD hS hl)
theorem g_lor_r (n' : Nat) (C : gC p s m args meth c cc nL own Ts E A) {a b : Int64} (hdg : decode cc pc = .ok (.lor, 1)) (hp : pc + 1 = n') (kk : gJ p l e R s m args below meth c cells slots Q E A nL ws lv n' (.long (a ||| b) :: st)) : gJ p l e R s m args below meth c cells slots Q E A nL ws lv pc (.long b :: .long a :: st) := by
  intro H locs ls hP hD hS hl
  subst hp
  exact lv_lor C.1 C.2.1 hdg (kk H locs ls hP hD hS hl)
theorem g_ldiv_r (n' : Nat) (C : gC p s m args meth c cc nL own Ts E A) {a b : Int64} (hdg : decode cc pc = .ok (.ldiv, 1)) (hp : pc + 1 = n') (h0 : ¬ b = 0) (kk : gJ p l e R s m args below meth c cells slots Q E A nL ws lv n' (.long (a / b) :: st)) : gJ p l e R s m args below meth c cells slots Q E A nL ws lv pc (.long b :: .long a :: st) := by
  intro H locs ls hP hD hS hl
  subst hp
  exact lv_ldiv C.1 C.2.1 hdg h0 (kk H locs ls hP hD hS hl)
theorem g_lrem_r (n' : Nat) (C : gC p s m args meth c cc nL own Ts E A) {a b : Int64} (hdg : decode cc pc = .ok (.lrem, 1)) (hp : pc + 1 = n') (h0 : ¬ b = 0) (kk : gJ p l e R s m args below meth c cells slots Q E A nL ws lv n' (.long (a - a / b * b) :: st)) : gJ p l e R s m args below meth c cells slots Q E A nL ws lv pc (.long b :: .long a :: st) := by
  intro H locs ls hP hD hS hl
  subst hp
  exact lv_lrem C.1 C.2.1 hdg h0 (kk H locs ls hP hD hS hl)
theorem g_lshl_r (n' : Nat) (C : gC p s m args meth c cc nL own Ts E A) {a : Int64} {y : Int32} (hdg : decode cc pc = .ok (.lshl, 1)) (hp : pc + 1 = n') (kk : gJ p l e R s m args below meth c cells slots Q E A nL ws lv n' (.long (a <<< (y.toInt64 &&& 63)) :: st)) : gJ p l e R s m args below meth c cells slots Q E A nL ws lv pc (.int y :: .long a :: st) := by
  intro H locs ls hP hD hS hl
  subst hp
  exact lv_lshl C.1 C.2.1 hdg rfl (kk H locs ls hP hD hS hl)
theorem g_ineg (n' : Nat) (C : gC p s m args meth c cc nL own Ts E A) {a : Int} (hdg : decode cc pc = .ok (.ineg, 1)) (hp : pc + 1 = n') (kk : gJ p l e R s m args below meth c cells slots Q E A nL ws lv n' (.int (iI (-a)) :: st)) : gJ p l e R s m args below meth c cells slots Q E A nL ws lv pc (.int (iI a) :: st) := by
  intro H locs ls hP hD hS hl
  subst hp
  exact lv_ineg C.1 C.2.1 hdg (by rw [iI_neg]; exact kk H locs ls hP hD hS hl)
theorem g_idiv (n' : Nat) (C : gC p s m args meth c cc nL own Ts E A) {a b : Int} (hdg : decode cc pc = .ok (.idiv, 1)) (hp : pc + 1 = n') (hr : 0 ≤ a ∧ a < 2147483648 ∧ 0 < b ∧ b < 2147483648) (kk : gJ p l e R s m args below meth c cells slots Q E A nL ws lv n' (.int (iI (a / b)) :: st)) : gJ p l e R s m args below meth c cells slots Q E A nL ws lv pc (.int (iI b) :: .int (iI a) :: st) := by
  intro H locs ls hP hD hS hl
  subst hp
  exact lv_idiv C.1 C.2.1 hdg (iI_ne0 hr.2.2.1 hr.2.2.2) (by rw [iI_div hr.1 hr.2.1 hr.2.2.1 hr.2.2.2]; exact kk H locs ls hP hD hS hl)
theorem g_irem (n' : Nat) (C : gC p s m args meth c cc nL own Ts E A) {a b : Int} (hdg : decode cc pc = .ok (.irem, 1)) (hp : pc + 1 = n') (hr : 0 ≤ a ∧ a < 2147483648 ∧ 0 < b ∧ b < 2147483648) (kk : gJ p l e R s m args below meth c cells slots Q E A nL ws lv n' (.int (iI (a % b)) :: st)) : gJ p l e R s m args below meth c cells slots Q E A nL ws lv pc (.int (iI b) :: .int (iI a) :: st) := by
  intro H locs ls hP hD hS hl
  subst hp
  exact lv_irem C.1 C.2.1 hdg (iI_ne0 hr.2.2.1 hr.2.2.2) (by rw [iI_rem hr.1 hr.2.1 hr.2.2.1 hr.2.2.2]; exact kk H locs ls hP hD hS hl)
theorem g_iand_r (n' : Nat) (C : gC p s m args meth c cc nL own Ts E A) {a b : Int32} (hdg : decode cc pc = .ok (.iand, 1)) (hp : pc + 1 = n') (kk : gJ p l e R s m args below meth c cells slots Q E A nL ws lv n' (.int (a &&& b) :: st)) : gJ p l e R s m args below meth c cells slots Q E A nL ws lv pc (.int b :: .int a :: st) := by
  intro H locs ls hP hD hS hl
  subst hp
  exact lv_iand C.1 C.2.1 hdg (kk H locs ls hP hD hS hl)
theorem g_i2l (n' : Nat) (C : gC p s m args meth c cc nL own Ts E A) {a : Int} (hdg : decode cc pc = .ok (.i2l, 1)) (hp : pc + 1 = n') (hr : -2147483648 ≤ a ∧ a < 2147483648) (kk : gJ p l e R s m args below meth c cells slots Q E A nL ws lv n' (.long (lI a) :: st)) : gJ p l e R s m args below meth c cells slots Q E A nL ws lv pc (.int (iI a) :: st) := by
  intro H locs ls hP hD hS hl
  subst hp
  exact lv_i2l C.1 C.2.1 hdg (iI_long hr.1 hr.2) (kk H locs ls hP hD hS hl)
theorem g_i2l_r (n' : Nat) (C : gC p s m args meth c cc nL own Ts E A) {a : Int32} (hdg : decode cc pc = .ok (.i2l, 1)) (hp : pc + 1 = n') (kk : gJ p l e R s m args below meth c cells slots Q E A nL ws lv n' (.long a.toInt64 :: st)) : gJ p l e R s m args below meth c cells slots Q E A nL ws lv pc (.int a :: st) := by
  intro H locs ls hP hD hS hl
  subst hp
  exact lv_i2l C.1 C.2.1 hdg rfl (kk H locs ls hP hD hS hl)
theorem g_l2i_r (n' : Nat) (C : gC p s m args meth c cc nL own Ts E A) {a : Int64} (hdg : decode cc pc = .ok (.l2i, 1)) (hp : pc + 1 = n') (kk : gJ p l e R s m args below meth c cells slots Q E A nL ws lv n' (.int a.toInt32 :: st)) : gJ p l e R s m args below meth c cells slots Q E A nL ws lv pc (.long a :: st) := by
  intro H locs ls hP hD hS hl
  subst hp
  exact lv_l2i C.1 C.2.1 hdg rfl (kk H locs ls hP hD hS hl)
theorem g_i2b (n' : Nat) (C : gC p s m args meth c cc nL own Ts E A) {a : Int32} (hdg : decode cc pc = .ok (.i2b, 1)) (hp : pc + 1 = n') (kk : gJ p l e R s m args below meth c cells slots Q E A nL ws lv n' (.int a.toInt8.toInt32 :: st)) : gJ p l e R s m args below meth c cells slots Q E A nL ws lv pc (.int a :: st) := by
  intro H locs ls hP hD hS hl
  subst hp
  exact lv_i2b C.1 C.2.1 hdg rfl (kk H locs ls hP hD hS hl)
theorem g_i2s (n' : Nat) (C : gC p s m args meth c cc nL own Ts E A) {a : Int32} (hdg : decode cc pc = .ok (.i2s, 1)) (hp : pc + 1 = n') (kk : gJ p l e R s m args below meth c cells slots Q E A nL ws lv n' (.int a.toInt16.toInt32 :: st)) : gJ p l e R s m args below meth c cells slots Q E A nL ws lv pc (.int a :: st) := by
  intro H locs ls hP hD hS hl
  subst hp
  exact lv_i2s C.1 C.2.1 hdg rfl (kk H locs ls hP hD hS hl)
theorem g_dup (n' : Nat) (C : gC p s m args meth c cc nL own Ts E A) {v : Value} (hdg : decode cc pc = .ok (.dup, 1)) (hp : pc + 1 = n') (hv : v.category = 1) (kk : gJ p l e R s m args below meth c cells slots Q E A nL ws lv n' (v :: v :: st)) : gJ p l e R s m args below meth c cells slots Q E A nL ws lv pc (v :: st) := by
  intro H locs ls hP hD hS hl
  subst hp
  exact lv_dup C.1 C.2.1 hdg hv (kk H locs ls hP hD hS hl)
theorem g_dup2 (n' : Nat) (C : gC p s m args meth c cc nL own Ts E A) {v w : Value} (hdg : decode cc pc = .ok (.dup2, 1)) (hp : pc + 1 = n') (hv : v.category = 1) (hw : w.category = 1) (kk : gJ p l e R s m args below meth c cells slots Q E A nL ws lv n' (v :: w :: v :: w :: st)) : gJ p l e R s m args below meth c cells slots Q E A nL ws lv pc (v :: w :: st) := by
  intro H locs ls hP hD hS hl
  subst hp
  exact lv_dup2_11 C.1 C.2.1 hdg hv hw (kk H locs ls hP hD hS hl)
theorem g_goto (t : Nat) (C : gC p s m args meth c cc nL own Ts E A) {off : Int} (hdg : decode cc pc = .ok (.goto off, 3)) (ht : (pc : Int) + off = (t : Int)) (kk : gJ p l e R s m args below meth c cells slots Q E A nL ws lv t st) : gJ p l e R s m args below meth c cells slots Q E A nL ws lv pc st := by
  intro H locs ls hP hD hS hl
  exact lv_goto C.1 C.2.1 hdg ht (kk H locs ls hP hD hS hl)
theorem g_icmp_ge (t n' : Nat) (C : gC p s m args meth c cc nL own Ts E A) {a b off : Int} (hdg : decode cc pc = .ok (.if_icmp .ge off, 3)) (ht : (pc : Int) + off = (t : Int)) (hp : pc + 3 = n') (hr : -2147483648 ≤ a ∧ a < 2147483648 ∧ -2147483648 ≤ b ∧ b < 2147483648) (kt : b ≤ a → gJ p l e R s m args below meth c cells slots Q E A nL ws lv t st) (kf : a < b → gJ p l e R s m args below meth c cells slots Q E A nL ws lv n' st) : gJ p l e R s m args below meth c cells slots Q E A nL ws lv pc (.int (iI b) :: .int (iI a) :: st) := by
  intro H locs ls hP hD hS hl
  subst hp
  exact lv_icmp_ge C.1 C.2.1 hdg ht (fun h => kt ((iI_le hr.2.2.1 hr.2.2.2 hr.1 hr.2.1).mp h) H locs ls hP hD hS hl) (fun h => kf (by have h2 : ¬ b ≤ a := fun q => h ((iI_le hr.2.2.1 hr.2.2.2 hr.1 hr.2.1).mpr q); omega) H locs ls hP hD hS hl)
theorem g_if_ge (t n' : Nat) (C : gC p s m args meth c cc nL own Ts E A) {a off : Int} (hdg : decode cc pc = .ok (.ifCond .ge off, 3)) (ht : (pc : Int) + off = (t : Int)) (hp : pc + 3 = n') (hq : -2147483648 ≤ a ∧ a < 2147483648) (kt : 0 ≤ a → gJ p l e R s m args below meth c cells slots Q E A nL ws lv t st) (kf : a < 0 → gJ p l e R s m args below meth c cells slots Q E A nL ws lv n' st) : gJ p l e R s m args below meth c cells slots Q E A nL ws lv pc (.int (iI a) :: st) := by
  intro H locs ls hP hD hS hl
  subst hp
  have hr : -2147483648 ≤ a ∧ a < 2147483648 ∧ (-2147483648 : Int) ≤ 0 ∧ (0 : Int) < 2147483648 := by omega
  exact lv_if_ge C.1 C.2.1 hdg ht (fun h => kt ((iI_le hr.2.2.1 hr.2.2.2 hr.1 hr.2.1).mp h) H locs ls hP hD hS hl) (fun h => kf (by have h2 : ¬ 0 ≤ a := fun q => h ((iI_le hr.2.2.1 hr.2.2.2 hr.1 hr.2.1).mpr q); omega) H locs ls hP hD hS hl)
theorem g_icmp_gt (t n' : Nat) (C : gC p s m args meth c cc nL own Ts E A) {a b off : Int} (hdg : decode cc pc = .ok (.if_icmp .gt off, 3)) (ht : (pc : Int) + off = (t : Int)) (hp : pc + 3 = n') (hr : -2147483648 ≤ a ∧ a < 2147483648 ∧ -2147483648 ≤ b ∧ b < 2147483648) (kt : b < a → gJ p l e R s m args below meth c cells slots Q E A nL ws lv t st) (kf : a ≤ b → gJ p l e R s m args below meth c cells slots Q E A nL ws lv n' st) : gJ p l e R s m args below meth c cells slots Q E A nL ws lv pc (.int (iI b) :: .int (iI a) :: st) := by
  intro H locs ls hP hD hS hl
  subst hp
  exact lv_icmp_gt C.1 C.2.1 hdg ht (fun h => kt ((iI_lt hr.2.2.1 hr.2.2.2 hr.1 hr.2.1).mp h) H locs ls hP hD hS hl) (fun h => kf (by have h2 : ¬ b < a := fun q => h ((iI_lt hr.2.2.1 hr.2.2.2 hr.1 hr.2.1).mpr q); omega) H locs ls hP hD hS hl)
theorem g_if_gt (t n' : Nat) (C : gC p s m args meth c cc nL own Ts E A) {a off : Int} (hdg : decode cc pc = .ok (.ifCond .gt off, 3)) (ht : (pc : Int) + off = (t : Int)) (hp : pc + 3 = n') (hq : -2147483648 ≤ a ∧ a < 2147483648) (kt : 0 < a → gJ p l e R s m args below meth c cells slots Q E A nL ws lv t st) (kf : a ≤ 0 → gJ p l e R s m args below meth c cells slots Q E A nL ws lv n' st) : gJ p l e R s m args below meth c cells slots Q E A nL ws lv pc (.int (iI a) :: st) := by
  intro H locs ls hP hD hS hl
  subst hp
  have hr : -2147483648 ≤ a ∧ a < 2147483648 ∧ (-2147483648 : Int) ≤ 0 ∧ (0 : Int) < 2147483648 := by omega
  exact lv_if_gt C.1 C.2.1 hdg ht (fun h => kt ((iI_lt hr.2.2.1 hr.2.2.2 hr.1 hr.2.1).mp h) H locs ls hP hD hS hl) (fun h => kf (by have h2 : ¬ 0 < a := fun q => h ((iI_lt hr.2.2.1 hr.2.2.2 hr.1 hr.2.1).mpr q); omega) H locs ls hP hD hS hl)
theorem g_icmp_le (t n' : Nat) (C : gC p s m args meth c cc nL own Ts E A) {a b off : Int} (hdg : decode cc pc = .ok (.if_icmp .le off, 3)) (ht : (pc : Int) + off = (t : Int)) (hp : pc + 3 = n') (hr : -2147483648 ≤ a ∧ a < 2147483648 ∧ -2147483648 ≤ b ∧ b < 2147483648) (kt : a ≤ b → gJ p l e R s m args below meth c cells slots Q E A nL ws lv t st) (kf : b < a → gJ p l e R s m args below meth c cells slots Q E A nL ws lv n' st) : gJ p l e R s m args below meth c cells slots Q E A nL ws lv pc (.int (iI b) :: .int (iI a) :: st) := by
  intro H locs ls hP hD hS hl
  subst hp
  exact lv_icmp_le C.1 C.2.1 hdg ht (fun h => kt ((iI_le hr.1 hr.2.1 hr.2.2.1 hr.2.2.2).mp h) H locs ls hP hD hS hl) (fun h => kf (by have h2 : ¬ a ≤ b := fun q => h ((iI_le hr.1 hr.2.1 hr.2.2.1 hr.2.2.2).mpr q); omega) H locs ls hP hD hS hl)
theorem g_if_le (t n' : Nat) (C : gC p s m args meth c cc nL own Ts E A) {a off : Int} (hdg : decode cc pc = .ok (.ifCond .le off, 3)) (ht : (pc : Int) + off = (t : Int)) (hp : pc + 3 = n') (hq : -2147483648 ≤ a ∧ a < 2147483648) (kt : a ≤ 0 → gJ p l e R s m args below meth c cells slots Q E A nL ws lv t st) (kf : 0 < a → gJ p l e R s m args below meth c cells slots Q E A nL ws lv n' st) : gJ p l e R s m args below meth c cells slots Q E A nL ws lv pc (.int (iI a) :: st) := by
  intro H locs ls hP hD hS hl
  subst hp
  have hr : -2147483648 ≤ a ∧ a < 2147483648 ∧ (-2147483648 : Int) ≤ 0 ∧ (0 : Int) < 2147483648 := by omega
  exact lv_if_le C.1 C.2.1 hdg ht (fun h => kt ((iI_le hr.1 hr.2.1 hr.2.2.1 hr.2.2.2).mp h) H locs ls hP hD hS hl) (fun h => kf (by have h2 : ¬ a ≤ 0 := fun q => h ((iI_le hr.1 hr.2.1 hr.2.2.1 hr.2.2.2).mpr q); omega) H locs ls hP hD hS hl)
theorem g_icmp_lt (t n' : Nat) (C : gC p s m args meth c cc nL own Ts E A) {a b off : Int} (hdg : decode cc pc = .ok (.if_icmp .lt off, 3)) (ht : (pc : Int) + off = (t : Int)) (hp : pc + 3 = n') (hr : -2147483648 ≤ a ∧ a < 2147483648 ∧ -2147483648 ≤ b ∧ b < 2147483648) (kt : a < b → gJ p l e R s m args below meth c cells slots Q E A nL ws lv t st) (kf : b ≤ a → gJ p l e R s m args below meth c cells slots Q E A nL ws lv n' st) : gJ p l e R s m args below meth c cells slots Q E A nL ws lv pc (.int (iI b) :: .int (iI a) :: st) := by
  intro H locs ls hP hD hS hl
  subst hp
  exact lv_icmp_lt C.1 C.2.1 hdg ht (fun h => kt ((iI_lt hr.1 hr.2.1 hr.2.2.1 hr.2.2.2).mp h) H locs ls hP hD hS hl) (fun h => kf (by have h2 : ¬ a < b := fun q => h ((iI_lt hr.1 hr.2.1 hr.2.2.1 hr.2.2.2).mpr q); omega) H locs ls hP hD hS hl)
theorem g_if_lt (t n' : Nat) (C : gC p s m args meth c cc nL own Ts E A) {a off : Int} (hdg : decode cc pc = .ok (.ifCond .lt off, 3)) (ht : (pc : Int) + off = (t : Int)) (hp : pc + 3 = n') (hq : -2147483648 ≤ a ∧ a < 2147483648) (kt : a < 0 → gJ p l e R s m args below meth c cells slots Q E A nL ws lv t st) (kf : 0 ≤ a → gJ p l e R s m args below meth c cells slots Q E A nL ws lv n' st) : gJ p l e R s m args below meth c cells slots Q E A nL ws lv pc (.int (iI a) :: st) := by
  intro H locs ls hP hD hS hl
  subst hp
  have hr : -2147483648 ≤ a ∧ a < 2147483648 ∧ (-2147483648 : Int) ≤ 0 ∧ (0 : Int) < 2147483648 := by omega
  exact lv_if_lt C.1 C.2.1 hdg ht (fun h => kt ((iI_lt hr.1 hr.2.1 hr.2.2.1 hr.2.2.2).mp h) H locs ls hP hD hS hl) (fun h => kf (by have h2 : ¬ a < 0 := fun q => h ((iI_lt hr.1 hr.2.1 hr.2.2.1 hr.2.2.2).mpr q); omega) H locs ls hP hD hS hl)
theorem g_icmp_eq (t n' : Nat) (C : gC p s m args meth c cc nL own Ts E A) {a b off : Int} (hdg : decode cc pc = .ok (.if_icmp .eq off, 3)) (ht : (pc : Int) + off = (t : Int)) (hp : pc + 3 = n') (hr : -2147483648 ≤ a ∧ a < 2147483648 ∧ -2147483648 ≤ b ∧ b < 2147483648) (kt : a = b → gJ p l e R s m args below meth c cells slots Q E A nL ws lv t st) (kf : a ≠ b → gJ p l e R s m args below meth c cells slots Q E A nL ws lv n' st) : gJ p l e R s m args below meth c cells slots Q E A nL ws lv pc (.int (iI b) :: .int (iI a) :: st) := by
  intro H locs ls hP hD hS hl
  subst hp
  exact lv_icmp_eq C.1 C.2.1 hdg ht (fun h => kt ((iI_inj hr.1 hr.2.1 hr.2.2.1 hr.2.2.2).mp h) H locs ls hP hD hS hl) (fun h => kf (fun q => h ((iI_inj hr.1 hr.2.1 hr.2.2.1 hr.2.2.2).mpr q)) H locs ls hP hD hS hl)
theorem g_if_eq (t n' : Nat) (C : gC p s m args meth c cc nL own Ts E A) {a off : Int} (hdg : decode cc pc = .ok (.ifCond .eq off, 3)) (ht : (pc : Int) + off = (t : Int)) (hp : pc + 3 = n') (hq : -2147483648 ≤ a ∧ a < 2147483648) (kt : a = 0 → gJ p l e R s m args below meth c cells slots Q E A nL ws lv t st) (kf : a ≠ 0 → gJ p l e R s m args below meth c cells slots Q E A nL ws lv n' st) : gJ p l e R s m args below meth c cells slots Q E A nL ws lv pc (.int (iI a) :: st) := by
  intro H locs ls hP hD hS hl
  subst hp
  have hr : -2147483648 ≤ a ∧ a < 2147483648 ∧ (-2147483648 : Int) ≤ 0 ∧ (0 : Int) < 2147483648 := by omega
  exact lv_if_eq C.1 C.2.1 hdg ht (fun h => kt ((iI_inj hr.1 hr.2.1 hr.2.2.1 hr.2.2.2).mp h) H locs ls hP hD hS hl) (fun h => kf (fun q => h ((iI_inj hr.1 hr.2.1 hr.2.2.1 hr.2.2.2).mpr q)) H locs ls hP hD hS hl)
theorem g_icmp_ne (t n' : Nat) (C : gC p s m args meth c cc nL own Ts E A) {a b off : Int} (hdg : decode cc pc = .ok (.if_icmp .ne off, 3)) (ht : (pc : Int) + off = (t : Int)) (hp : pc + 3 = n') (hr : -2147483648 ≤ a ∧ a < 2147483648 ∧ -2147483648 ≤ b ∧ b < 2147483648) (kt : a ≠ b → gJ p l e R s m args below meth c cells slots Q E A nL ws lv t st) (kf : a = b → gJ p l e R s m args below meth c cells slots Q E A nL ws lv n' st) : gJ p l e R s m args below meth c cells slots Q E A nL ws lv pc (.int (iI b) :: .int (iI a) :: st) := by
  intro H locs ls hP hD hS hl
  subst hp
  exact lv_icmp_ne C.1 C.2.1 hdg ht (fun h => kt (fun q => h ((iI_inj hr.1 hr.2.1 hr.2.2.1 hr.2.2.2).mpr q)) H locs ls hP hD hS hl) (fun h => kf ((iI_inj hr.1 hr.2.1 hr.2.2.1 hr.2.2.2).mp h) H locs ls hP hD hS hl)
theorem g_if_ne (t n' : Nat) (C : gC p s m args meth c cc nL own Ts E A) {a off : Int} (hdg : decode cc pc = .ok (.ifCond .ne off, 3)) (ht : (pc : Int) + off = (t : Int)) (hp : pc + 3 = n') (hq : -2147483648 ≤ a ∧ a < 2147483648) (kt : a ≠ 0 → gJ p l e R s m args below meth c cells slots Q E A nL ws lv t st) (kf : a = 0 → gJ p l e R s m args below meth c cells slots Q E A nL ws lv n' st) : gJ p l e R s m args below meth c cells slots Q E A nL ws lv pc (.int (iI a) :: st) := by
  intro H locs ls hP hD hS hl
  subst hp
  have hr : -2147483648 ≤ a ∧ a < 2147483648 ∧ (-2147483648 : Int) ≤ 0 ∧ (0 : Int) < 2147483648 := by omega
  exact lv_if_ne C.1 C.2.1 hdg ht (fun h => kt (fun q => h ((iI_inj hr.1 hr.2.1 hr.2.2.1 hr.2.2.2).mpr q)) H locs ls hP hD hS hl) (fun h => kf ((iI_inj hr.1 hr.2.1 hr.2.2.1 hr.2.2.2).mp h) H locs ls hP hD hS hl)
theorem g_ifb_eq (t n' : Nat) (C : gC p s m args meth c cc nL own Ts E A) {P : Prop} {inst : Decidable P} {off : Int} (hdg : decode cc pc = .ok (.ifCond .eq off, 3)) (ht : (pc : Int) + off = (t : Int)) (hp : pc + 3 = n') (kt : ¬ P → gJ p l e R s m args below meth c cells slots Q E A nL ws lv t st) (kf : P → gJ p l e R s m args below meth c cells slots Q E A nL ws lv n' st) : gJ p l e R s m args below meth c cells slots Q E A nL ws lv pc (.int (iI (if P then 1 else 0)) :: st) := by
  by_cases h : P
  · rw [if_pos h]
    exact g_if_eq t n' C hdg ht hp ⟨by decide, by decide⟩ (fun q => absurd q (by decide)) (fun _ => kf h)
  · rw [if_neg h]
    exact g_if_eq t n' C hdg ht hp ⟨by decide, by decide⟩ (fun _ => kt h) (fun q => absurd rfl q)
theorem g_ifb_ne (t n' : Nat) (C : gC p s m args meth c cc nL own Ts E A) {P : Prop} {inst : Decidable P} {off : Int} (hdg : decode cc pc = .ok (.ifCond .ne off, 3)) (ht : (pc : Int) + off = (t : Int)) (hp : pc + 3 = n') (kt : P → gJ p l e R s m args below meth c cells slots Q E A nL ws lv t st) (kf : ¬ P → gJ p l e R s m args below meth c cells slots Q E A nL ws lv n' st) : gJ p l e R s m args below meth c cells slots Q E A nL ws lv pc (.int (iI (if P then 1 else 0)) :: st) := by
  by_cases h : P
  · rw [if_pos h]
    exact g_if_ne t n' C hdg ht hp ⟨by decide, by decide⟩ (fun _ => kt h) (fun q => absurd q (by decide))
  · rw [if_neg h]
    exact g_if_ne t n' C hdg ht hp ⟨by decide, by decide⟩ (fun q => absurd rfl q) (fun _ => kf h)
theorem g_cmpv {a b : Int} (hr : -9223372036854775808 ≤ a ∧ a < 9223372036854775808 ∧ -9223372036854775808 ≤ b ∧ b < 9223372036854775808) : lg_cmp (lI a) (lI b) = iI (if b < a then 1 else if a = b then 0 else -1) := by
  unfold lg_cmp
  by_cases h1 : b < a
  · rw [if_pos h1, if_pos ((lI_lt hr.2.2.1 hr.2.2.2 hr.1 hr.2.1).mpr h1)]; rfl
  · rw [if_neg h1, if_neg (fun q => h1 ((lI_lt hr.2.2.1 hr.2.2.2 hr.1 hr.2.1).mp q))]
    by_cases h2 : a = b
    · rw [if_pos h2, if_pos (by rw [h2])]; rfl
    · rw [if_neg h2, if_neg (fun q => h2 ((lI_inj hr.1 hr.2.1 hr.2.2.1 hr.2.2.2).mp q))]; rfl
theorem g_lcmp (n' : Nat) (C : gC p s m args meth c cc nL own Ts E A) {a b : Int} (hdg : decode cc pc = .ok (.lcmp, 1)) (hp : pc + 1 = n') (hr : -9223372036854775808 ≤ a ∧ a < 9223372036854775808 ∧ -9223372036854775808 ≤ b ∧ b < 9223372036854775808) (kk : ∀ z : Int, z = (if b < a then 1 else if a = b then 0 else -1) → gJ p l e R s m args below meth c cells slots Q E A nL ws lv n' (.int (iI z) :: st)) : gJ p l e R s m args below meth c cells slots Q E A nL ws lv pc (.long (lI b) :: .long (lI a) :: st) := by
  intro H locs ls hP hD hS hl
  subst hp
  exact W.lcmp C.1 C.2.1 hdg (by rw [g_cmpv hr]; exact kk _ rfl H locs ls hP hD hS hl)
/-- lcmp and the branch behind it -/
theorem g_lc_ge (n1 t n' : Nat) (C : gC p s m args meth c cc nL own Ts E A) {a b off : Int} (hdg0 : decode cc pc = .ok (.lcmp, 1)) (hp0 : pc + 1 = n1) (hdg : decode cc n1 = .ok (.ifCond .ge off, 3)) (ht : (n1 : Int) + off = (t : Int)) (hp : n1 + 3 = n') (hr : -9223372036854775808 ≤ a ∧ a < 9223372036854775808 ∧ -9223372036854775808 ≤ b ∧ b < 9223372036854775808) (kt : b ≤ a → gJ p l e R s m args below meth c cells slots Q E A nL ws lv t st) (kf : a < b → gJ p l e R s m args below meth c cells slots Q E A nL ws lv n' st) : gJ p l e R s m args below meth c cells slots Q E A nL ws lv pc (.long (lI b) :: .long (lI a) :: st) := by
  refine g_lcmp n1 C hdg0 hp0 hr (fun z hz => ?_)
  have hz2 : (b < a ∧ z = 1) ∨ (a = b ∧ z = 0) ∨ (a < b ∧ z = -1) := by
    by_cases h1 : b < a
    · rw [if_pos h1] at hz; exact Or.inl ⟨h1, hz⟩
    · rw [if_neg h1] at hz
      by_cases h2 : a = b
      · rw [if_pos h2] at hz; exact Or.inr (Or.inl ⟨h2, hz⟩)
      · rw [if_neg h2] at hz; exact Or.inr (Or.inr ⟨by omega, hz⟩)
  exact g_if_ge t n' C hdg ht hp (by omega) (fun h => kt (by omega)) (fun h => kf (by omega))
/-- lcmp and the branch behind it -/
theorem g_lc_gt (n1 t n' : Nat) (C : gC p s m args meth c cc nL own Ts E A) {a b off : Int} (hdg0 : decode cc pc = .ok (.lcmp, 1)) (hp0 : pc + 1 = n1) (hdg : decode cc n1 = .ok (.ifCond .gt off, 3)) (ht : (n1 : Int) + off = (t : Int)) (hp : n1 + 3 = n') (hr : -9223372036854775808 ≤ a ∧ a < 9223372036854775808 ∧ -9223372036854775808 ≤ b ∧ b < 9223372036854775808) (kt : b < a → gJ p l e R s m args below meth c cells slots Q E A nL ws lv t st) (kf : a ≤ b → gJ p l e R s m args below meth c cells slots Q E A nL ws lv n' st) : gJ p l e R s m args below meth c cells slots Q E A nL ws lv pc (.long (lI b) :: .long (lI a) :: st) := by
  refine g_lcmp n1 C hdg0 hp0 hr (fun z hz => ?_)
  have hz2 : (b < a ∧ z = 1) ∨ (a = b ∧ z = 0) ∨ (a < b ∧ z = -1) := by
    by_cases h1 : b < a
    · rw [if_pos h1] at hz; exact Or.inl ⟨h1, hz⟩
    · rw [if_neg h1] at hz
      by_cases h2 : a = b
      · rw [if_pos h2] at hz; exact Or.inr (Or.inl ⟨h2, hz⟩)
      · rw [if_neg h2] at hz; exact Or.inr (Or.inr ⟨by omega, hz⟩)
  exact g_if_gt t n' C hdg ht hp (by omega) (fun h => kt (by omega)) (fun h => kf (by omega))
/-- lcmp and the branch behind it -/
theorem g_lc_le (n1 t n' : Nat) (C : gC p s m args meth c cc nL own Ts E A) {a b off : Int} (hdg0 : decode cc pc = .ok (.lcmp, 1)) (hp0 : pc + 1 = n1) (hdg : decode cc n1 = .ok (.ifCond .le off, 3)) (ht : (n1 : Int) + off = (t : Int)) (hp : n1 + 3 = n') (hr : -9223372036854775808 ≤ a ∧ a < 9223372036854775808 ∧ -9223372036854775808 ≤ b ∧ b < 9223372036854775808) (kt : a ≤ b → gJ p l e R s m args below meth c cells slots Q E A nL ws lv t st) (kf : b < a → gJ p l e R s m args below meth c cells slots Q E A nL ws lv n' st) : gJ p l e R s m args below meth c cells slots Q E A nL ws lv pc (.long (lI b) :: .long (lI a) :: st) := by
  refine g_lcmp n1 C hdg0 hp0 hr (fun z hz => ?_)
  have hz2 : (b < a ∧ z = 1) ∨ (a = b ∧ z = 0) ∨ (a < b ∧ z = -1) := by
    by_cases h1 : b < a
    · rw [if_pos h1] at hz; exact Or.inl ⟨h1, hz⟩
    · rw [if_neg h1] at hz
      by_cases h2 : a = b
      · rw [if_pos h2] at hz; exact Or.inr (Or.inl ⟨h2, hz⟩)
      · rw [if_neg h2] at hz; exact Or.inr (Or.inr ⟨by omega, hz⟩)
  exact g_if_le t n' C hdg ht hp (by omega) (fun h => kt (by omega)) (fun h => kf (by omega))
/-- lcmp and the branch behind it -/
theorem g_lc_lt (n1 t n' : Nat) (C : gC p s m args meth c cc nL own Ts E A) {a b off : Int} (hdg0 : decode cc pc = .ok (.lcmp, 1)) (hp0 : pc + 1 = n1) (hdg : decode cc n1 = .ok (.ifCond .lt off, 3)) (ht : (n1 : Int) + off = (t : Int)) (hp : n1 + 3 = n') (hr : -9223372036854775808 ≤ a ∧ a < 9223372036854775808 ∧ -9223372036854775808 ≤ b ∧ b < 9223372036854775808) (kt : a < b → gJ p l e R s m args below meth c cells slots Q E A nL ws lv t st) (kf : b ≤ a → gJ p l e R s m args below meth c cells slots Q E A nL ws lv n' st) : gJ p l e R s m args below meth c cells slots Q E A nL ws lv pc (.long (lI b) :: .long (lI a) :: st) := by
  refine g_lcmp n1 C hdg0 hp0 hr (fun z hz => ?_)
  have hz2 : (b < a ∧ z = 1) ∨ (a = b ∧ z = 0) ∨ (a < b ∧ z = -1) := by
    by_cases h1 : b < a
    · rw [if_pos h1] at hz; exact Or.inl ⟨h1, hz⟩
    · rw [if_neg h1] at hz
      by_cases h2 : a = b
      · rw [if_pos h2] at hz; exact Or.inr (Or.inl ⟨h2, hz⟩)
      · rw [if_neg h2] at hz; exact Or.inr (Or.inr ⟨by omega, hz⟩)
  exact g_if_lt t n' C hdg ht hp (by omega) (fun h => kt (by omega)) (fun h => kf (by omega))
/-- lcmp and the branch behind it -/
theorem g_lc_eq (n1 t n' : Nat) (C : gC p s m args meth c cc nL own Ts E A) {a b off : Int} (hdg0 : decode cc pc = .ok (.lcmp, 1)) (hp0 : pc + 1 = n1) (hdg : decode cc n1 = .ok (.ifCond .eq off, 3)) (ht : (n1 : Int) + off = (t : Int)) (hp : n1 + 3 = n') (hr : -9223372036854775808 ≤ a ∧ a < 9223372036854775808 ∧ -9223372036854775808 ≤ b ∧ b < 9223372036854775808) (kt : a = b → gJ p l e R s m args below meth c cells slots Q E A nL ws lv t st) (kf : a ≠ b → gJ p l e R s m args below meth c cells slots Q E A nL ws lv n' st) : gJ p l e R s m args below meth c cells slots Q E A nL ws lv pc (.long (lI b) :: .long (lI a) :: st) := by
  refine g_lcmp n1 C hdg0 hp0 hr (fun z hz => ?_)
  have hz2 : (b < a ∧ z = 1) ∨ (a = b ∧ z = 0) ∨ (a < b ∧ z = -1) := by
    by_cases h1 : b < a
    · rw [if_pos h1] at hz; exact Or.inl ⟨h1, hz⟩
    · rw [if_neg h1] at hz
      by_cases h2 : a = b
      · rw [if_pos h2] at hz; exact Or.inr (Or.inl ⟨h2, hz⟩)
      · rw [if_neg h2] at hz; exact Or.inr (Or.inr ⟨by omega, hz⟩)
  exact g_if_eq t n' C hdg ht hp (by omega) (fun h => kt (by omega)) (fun h => kf (by omega))
/-- lcmp and the branch behind it -/
theorem g_lc_ne (n1 t n' : Nat) (C : gC p s m args meth c cc nL own Ts E A) {a b off : Int} (hdg0 : decode cc pc = .ok (.lcmp, 1)) (hp0 : pc + 1 = n1) (hdg : decode cc n1 = .ok (.ifCond .ne off, 3)) (ht : (n1 : Int) + off = (t : Int)) (hp : n1 + 3 = n') (hr : -9223372036854775808 ≤ a ∧ a < 9223372036854775808 ∧ -9223372036854775808 ≤ b ∧ b < 9223372036854775808) (kt : a ≠ b → gJ p l e R s m args below meth c cells slots Q E A nL ws lv t st) (kf : a = b → gJ p l e R s m args below meth c cells slots Q E A nL ws lv n' st) : gJ p l e R s m args below meth c cells slots Q E A nL ws lv pc (.long (lI b) :: .long (lI a) :: st) := by
  refine g_lcmp n1 C hdg0 hp0 hr (fun z hz => ?_)
  have hz2 : (b < a ∧ z = 1) ∨ (a = b ∧ z = 0) ∨ (a < b ∧ z = -1) := by
    by_cases h1 : b < a
    · rw [if_pos h1] at hz; exact Or.inl ⟨h1, hz⟩
    · rw [if_neg h1] at hz
      by_cases h2 : a = b
      · rw [if_pos h2] at hz; exact Or.inr (Or.inl ⟨h2, hz⟩)
      · rw [if_neg h2] at hz; exact Or.inr (Or.inr ⟨by omega, hz⟩)
  exact g_if_ne t n' C hdg ht hp (by omega) (fun h => kt (by omega)) (fun h => kf (by omega))
-- fields
theorem g_get (n' : Nat) (C : gC p s m args meth c cc nL own Ts E A) (q k ci : Nat) {Cn : String} {T : u_T} {N index : Nat} {a : Nat} {fs : List Value} {v : Value} (hin : ∀ w ∈ u_ws Cn T N, w ∈ Ts) (hm : Cond.fieldLink own index (T k).1 (T k).2.1 (T k).2.2.1 ∈ Ts) (hdg : decode cc pc = .ok (.getfield index, 3)) (hp : pc + 3 = n') (he : ws[q]? = some (a, .inr (ci, fs))) (hc : vwCl[ci]? = some (Cn, T, N)) (hk : k < N) (hv : fs[k]? = some v) (kk : gJ p l e R s m args below meth c cells slots Q E A nL ws lv n' (v :: st)) : gJ p l e R s m args below meth c cells slots Q E A nL ws lv pc (.ref a :: st) := by
  intro H locs ls hP hD hS hl
  subst hp
  exact va_get C.1 C.2.1 C.2.2.2.2.1 hin C.2.2.2.1 C.2.2.2.2.2.1.1 hP q he hc k hk (C.2.2.2.2.1 _ hm) (fun _ h => h) hv hdg (kk H locs ls hP hD hS hl)
theorem g_put (n' : Nat) (C : gC p s m args meth c cc nL own Ts E A) (q k ci : Nat) {Cn : String} {T : u_T} {N index : Nat} {a : Nat} {fs : List Value} {v : Value} {ws' : va_W} (ty0 : Nat → FieldType) (hty : ∀ k, k < N → parseFieldDescriptor (T k).2.2.1 = some (ty0 k)) (hnm : ∀ a, a < N → ∀ b, b < N → a ≠ b → (T a).2.1 ≠ (T b).2.1) (hin : ∀ w ∈ u_ws Cn T N, w ∈ Ts) (hm : Cond.fieldLink own index (T k).1 (T k).2.1 (T k).2.2.1 ∈ Ts) (hdg : decode cc pc = .ok (.putfield index, 3)) (hp : pc + 3 = n') (he : ws[q]? = some (a, .inr (ci, fs))) (hc : vwCl[ci]? = some (Cn, T, N)) (hk : k < N) (hfin : (T k).2.2.2 = false) (hnr : narrow (ty0 k) v = v) (hfit : fits (ty0 k) v = true) (hl0 : k < fs.length) (hw : ws.set q (a, .inr (ci, fs.set k v)) = ws') (kk : gJ p l e R s m args below meth c cells slots Q E A nL ws' lv n' st) : gJ p l e R s m args below meth c cells slots Q E A nL ws lv pc (v :: .ref a :: st) := by
  intro H locs ls hP hD hS hl
  subst hp
  subst hw
  exact va_put C.1 C.2.1 C.2.2.2.2.1 hin ty0 hty hnm C.2.2.2.1 C.2.2.2.2.2.1.1 hP hD hS q he hc k hk (C.2.2.2.2.1 _ hm) (fun _ h => h) hfin (hty k hk) hnr hfit hl0 hdg (fun H1 locs1 hP hD hS => kk H1 locs1 ls hP hD hS hl)
theorem g_putF (n' : Nat) (C : gC p s m args meth c cc nL own Ts E A) (q k ci : Nat) {Cn : String} {T : u_T} {N index : Nat} {a : Nat} {fs : List Value} {v : Value} {ws' : va_W} (ty0 : Nat → FieldType) (hty : ∀ k, k < N → parseFieldDescriptor (T k).2.2.1 = some (ty0 k)) (hnm : ∀ a, a < N → ∀ b, b < N → a ≠ b → (T a).2.1 ≠ (T b).2.1) (hin : ∀ w ∈ u_ws Cn T N, w ∈ Ts) (hm : Cond.fieldLink own index (T k).1 (T k).2.1 (T k).2.2.1 ∈ Ts) (hnin : meth.name = "<init>") (hdecl : (T k).1 = own) (hdg : decode cc pc = .ok (.putfield index, 3)) (hp : pc + 3 = n') (he : ws[q]? = some (a, .inr (ci, fs))) (hc : vwCl[ci]? = some (Cn, T, N)) (hk : k < N) (hfin : (T k).2.2.2 = true) (hnr : narrow (ty0 k) v = v) (hfit : fits (ty0 k) v = true) (hl0 : k < fs.length) (hw : ws.set q (a, .inr (ci, fs.set k v)) = ws') (kk : gJ p l e R s m args below meth c cells slots Q E A nL ws' lv n' st) : gJ p l e R s m args below meth c cells slots Q E A nL ws lv pc (v :: .ref a :: st) := by
  intro H locs ls hP hD hS hl
  subst hp
  subst hw
  exact va_putF C.1 C.2.1 C.2.2.2.2.1 hin ty0 hty hnm C.2.2.2.1 C.2.2.2.2.2.1.1 hP hD hS q he hc k hk (C.2.2.2.2.1 _ hm) (fun _ h => h) hfin hnin hdecl (hty k hk) hnr hfit hl0 hdg (fun H1 locs1 hP hD hS => kk H1 locs1 ls hP hD hS hl)
-- rows
theorem g_rd {z : Int} (h0 : 0 ≤ z) (h1 : z < 2147483648) : (((iI z).toNatClampNeg : Nat) : Int) = z := by
  rw [iI_clamp h0 h1, Int.toNat_of_nonneg h0]
theorem g_wr (f : Int → Int) {z v : Int} (h0 : 0 ≤ z) (h1 : z < 2147483648) : upd (fun k : Nat => iI (f (k : Int))) (iI z).toNatClampNeg (iI v) = fun k : Nat => iI (uI f z v (k : Int)) := by
  funext k
  rw [iI_clamp h0 h1]
  unfold upd uI
  by_cases h : k = z.toNat
  · rw [if_pos h, if_pos (by omega)]
  · rw [if_neg h, if_neg (by omega)]
theorem g_iaload (n' : Nat) (C : gC p s m args meth c cc nL own Ts E A) (q : Nat) {a n : Nat} {f : Int → Int} {z : Int} (hdg : decode cc pc = .ok (.iaload, 1)) (hp : pc + 1 = n') (he : ws[q]? = some (a, aI E n f)) (hz : 0 ≤ z ∧ z < n ∧ n < 2147483648) (kk : gJ p l e R s m args below meth c cells slots Q E A nL ws lv n' (.int (iI (f z)) :: st)) : gJ p l e R s m args below meth c cells slots Q E A nL ws lv pc (.int (iI z) :: .ref a :: st) := by
  intro H locs ls hP hD hS hl
  subst hp
  exact va_iald C.1 C.2.1 C.2.2.2.2.2.1.1 hP q 0 he rfl (iI_in hz.1 hz.2.1 hz.2.2) hdg (by rw [g_rd hz.1 (by omega)]; exact kk H locs ls hP hD hS hl)
theorem g_baload (n' : Nat) (C : gC p s m args meth c cc nL own Ts E A) (q : Nat) {a n : Nat} {f : Int → Int} {z : Int} (hdg : decode cc pc = .ok (.baload, 1)) (hp : pc + 1 = n') (he : ws[q]? = some (a, aZ E n f)) (hz : 0 ≤ z ∧ z < n ∧ n < 2147483648) (kk : gJ p l e R s m args below meth c cells slots Q E A nL ws lv n' (.int (iI (f z)) :: st)) : gJ p l e R s m args below meth c cells slots Q E A nL ws lv pc (.int (iI z) :: .ref a :: st) := by
  intro H locs ls hP hD hS hl
  subst hp
  exact va_zald C.1 C.2.1 C.2.2.2.2.2.1.1 hP q 1 he rfl (iI_in hz.1 hz.2.1 hz.2.2) hdg (by rw [g_rd hz.1 (by omega)]; exact kk H locs ls hP hD hS hl)
theorem g_iastore (n' : Nat) (C : gC p s m args meth c cc nL own Ts E A) (q : Nat) {a n : Nat} {f : Int → Int} {z v : Int} {ws' : va_W} (hdg : decode cc pc = .ok (.iastore, 1)) (hp : pc + 1 = n') (he : ws[q]? = some (a, aI E n f)) (hz : 0 ≤ z ∧ z < n ∧ n < 2147483648) (hw : ws.set q (a, aI E n (uI f z v)) = ws') (kk : gJ p l e R s m args below meth c cells slots Q E A nL ws' lv n' st) : gJ p l e R s m args below meth c cells slots Q E A nL ws lv pc (.int (iI v) :: .int (iI z) :: .ref a :: st) := by
  intro H locs ls hP hD hS hl
  subst hp
  subst hw
  refine va_iast C.1 C.2.1 C.2.2.2.2.2.1.1 hP hD hS q 0 he rfl (iI_in hz.1 hz.2.1 hz.2.2) hdg (fun H1 locs1 hP hD hS => ?_)
  rw [g_wr f hz.1 (by omega)] at hP hD
  exact kk H1 locs1 ls hP hD hS hl
theorem g_bastore (n' : Nat) (C : gC p s m args meth c cc nL own Ts E A) (q : Nat) {a n : Nat} {f : Int → Int} {z v : Int} {ws' : va_W} (hdg : decode cc pc = .ok (.bastore, 1)) (hp : pc + 1 = n') (he : ws[q]? = some (a, aZ E n f)) (hz : 0 ≤ z ∧ z < n ∧ n < 2147483648) (hv : vp_nar .boolean (iI v) = iI v) (hw : ws.set q (a, aZ E n (uI f z v)) = ws') (kk : gJ p l e R s m args below meth c cells slots Q E A nL ws' lv n' st) : gJ p l e R s m args below meth c cells slots Q E A nL ws lv pc (.int (iI v) :: .int (iI z) :: .ref a :: st) := by
  intro H locs ls hP hD hS hl
  subst hp
  subst hw
  refine va_zast C.1 C.2.1 C.2.2.2.2.2.1.1 hP hD hS q 1 he rfl (iI_in hz.1 hz.2.1 hz.2.2) hdg (fun H1 locs1 hP hD hS => ?_)
  rw [hv, g_wr f hz.1 (by omega)] at hP hD
  exact kk H1 locs1 ls hP hD hS hl
theorem g_alenI (n' : Nat) (C : gC p s m args meth c cc nL own Ts E A) (q : Nat) {a n : Nat} {f : Int → Int} (hdg : decode cc pc = .ok (.arraylength, 1)) (hp : pc + 1 = n') (he : ws[q]? = some (a, aI E n f)) (kk : gJ p l e R s m args below meth c cells slots Q E A nL ws lv n' (.int (iI n) :: st)) : gJ p l e R s m args below meth c cells slots Q E A nL ws lv pc (.ref a :: st) := by
  intro H locs ls hP hD hS hl
  subst hp
  exact va_alen C.1 C.2.1 C.2.2.2.2.2.1.1 hP q 0 he (ty := .int) rfl (v := iI n) rfl hdg (kk H locs ls hP hD hS hl)
theorem g_alenZ (n' : Nat) (C : gC p s m args meth c cc nL own Ts E A) (q : Nat) {a n : Nat} {f : Int → Int} (hdg : decode cc pc = .ok (.arraylength, 1)) (hp : pc + 1 = n') (he : ws[q]? = some (a, aZ E n f)) (kk : gJ p l e R s m args below meth c cells slots Q E A nL ws lv n' (.int (iI n) :: st)) : gJ p l e R s m args below meth c cells slots Q E A nL ws lv pc (.ref a :: st) := by
  intro H locs ls hP hD hS hl
  subst hp
  exact va_alen C.1 C.2.1 C.2.2.2.2.2.1.1 hP q 1 he (ty := .boolean) rfl (v := iI n) rfl hdg (kk H locs ls hP hD hS hl)
theorem g_alenQ (n' : Nat) (C : gC p s m args meth c cc nL own Ts E A) (q : Nat) {a n : Nat} {f : Int → Option Nat} (hdg : decode cc pc = .ok (.arraylength, 1)) (hp : pc + 1 = n') (he : ws[q]? = some (a, aQ E n f)) (kk : gJ p l e R s m args below meth c cells slots Q E A nL ws lv n' (.int (iI n) :: st)) : gJ p l e R s m args below meth c cells slots Q E A nL ws lv pc (.ref a :: st) := by
  intro H locs ls hP hD hS hl
  subst hp
  exact va_alen C.1 C.2.1 C.2.2.2.2.2.1.1 hP q 2 he (ty := .object RX4) rfl (v := iI n) rfl hdg (kk H locs ls hP hD hS hl)
theorem g_aaload (n' : Nat) (C : gC p s m args meth c cc nL own Ts E A) (q : Nat) {a n b : Nat} {f : Int → Option Nat} {z : Int} (hdg : decode cc pc = .ok (.aaload, 1)) (hp : pc + 1 = n') (he : ws[q]? = some (a, aQ E n f)) (hz : 0 ≤ z ∧ z < n ∧ n < 2147483648) (hb : f z = some b) (kk : gJ p l e R s m args below meth c cells slots Q E A nL ws lv n' (.ref b :: st)) : gJ p l e R s m args below meth c cells slots Q E A nL ws lv pc (.int (iI z) :: .ref a :: st) := by
  intro H locs ls hP hD hS hl
  subst hp
  refine va_aldq C.1 C.2.1 C.2.2.2.2.2.1.1 hP q 2 he rfl (iI_in hz.1 hz.2.1 hz.2.2) hdg ?_
  rw [g_rd hz.1 (by omega), hb]
  exact kk H locs ls hP hD hS hl
end GL
end
section
section GL
variable {p : Program} {l : Launch} {e : Env} {R : Room} {s : State} {m : MethodId} {args : Array Value} {below : List Frame} {meth : Method} {c : Code} {cells slots : Nat} {Q : State → Prop} {E : gE} {A : Nat → Prop} {nL : Nat} {ws : va_W} {lv : List (Nat × Value)} {pc : Nat} {st : List Value} {cc : ByteArray} {own : String} {Ts : List Cond}
def gPut : va_W → List Nat → va_W → va_W
  | ws, [], _ => ws
  | ws, _ :: _, [] => ws
  | ws, i :: is, x :: xs => gPut (ws.set i x) is xs
theorem gPut_ne : ∀ (is : List Nat) (ws xs : va_W) (k : Nat), k ∉ is → (gPut ws is xs)[k]? = ws[k]?
  | [], ws, xs, k, _ => by unfold gPut; rfl
  | i :: is, ws, [], k, _ => by unfold gPut; rfl
  | i :: is, ws, x :: xs, k, h => by
    unfold gPut
    rw [gPut_ne is (ws.set i x) xs k (fun q => h (List.mem_cons_of_mem _ q)), List.getElem?_set_ne (fun q : i = k => h (by rw [← q]; exact List.mem_cons_self))]
theorem gPut_eq : ∀ (is : List Nat) (ws xs : va_W) (j k : Nat) (x : Nat × va_E), va_nd is = true → (∀ i ∈ is, i < ws.length) → is[j]? = some k → xs[j]? = some x → (gPut ws is xs)[k]? = some x
  | [], ws, xs, j, k, x, _, _, h, _ => by simp at h
  | i :: is, ws, [], j, k, x, _, _, _, h => by simp at h
  | i :: is, ws, y :: ys, j, k, x, hn, hl, h1, h2 => by
    simp only [va_nd, Bool.and_eq_true, decide_eq_true_eq] at hn
    unfold gPut
    cases j with
    | zero =>
      rw [List.getElem?_cons_zero] at h1 h2
      cases h1
      cases h2
      rw [gPut_ne is _ ys i hn.1, List.getElem?_set_self (hl i List.mem_cons_self)]
    | succ j =>
      rw [List.getElem?_cons_succ] at h1 h2
      exact gPut_eq is _ ys j k x hn.2 (fun q hq => by rw [List.length_set]; exact hl q (List.mem_cons_of_mem _ hq)) h1 h2
theorem gPut_len : ∀ (is : List Nat) (ws xs : va_W), (gPut ws is xs).length = ws.length
  | [], ws, xs => by unfold gPut; rfl
  | i :: is, ws, [] => by unfold gPut; rfl
  | i :: is, ws, x :: xs => by unfold gPut; rw [gPut_len is _ xs, List.length_set]
theorem g_cut {wc : va_W} {cu : List Nat} (hcut : cu.map (fun i => ws[i]?) = wc.map some) {j : Nat} {q : Nat × va_E} (h : wc[j]? = some q) : ∃ i, cu[j]? = some i ∧ ws[i]? = some q := by
  have h1 : (cu.map (fun i => ws[i]?))[j]? = some (some q) := by rw [hcut, List.getElem?_map, h]; rfl
  rw [List.getElem?_map] at h1
  cases hi : cu[j]? with
  | none => rw [hi] at h1; cases h1
  | some i => rw [hi] at h1; exact ⟨i, rfl, Option.some.inj h1⟩
theorem g_cutr {wc : va_W} {cu : List Nat} (hcut : cu.map (fun i => ws[i]?) = wc.map some) {j i : Nat} (h : cu[j]? = some i) : ∃ q, wc[j]? = some q ∧ ws[i]? = some q := by
  have h1 : (cu.map (fun i => ws[i]?))[j]? = some (ws[i]?) := by rw [List.getElem?_map, h]; rfl
  rw [hcut, List.getElem?_map] at h1
  cases hq : wc[j]? with
  | none => rw [hq] at h1; cases h1
  | some q => rw [hq] at h1; exact ⟨q, rfl, (Option.some.inj h1).symm⟩
theorem g_subP {H : Heap} {wc : va_W} {cu : List Nat} (hcut : cu.map (fun i => ws[i]?) = wc.map some) (hP : va_P E.1 vwCl ws H) : va_P E.1 vwCl wc H := by
  intro j q hq
  obtain ⟨i, -, hi⟩ := g_cut hcut hq
  exact hP i q hi
/-- the world behind a call that made no cells -/
theorem g_world {H H1 : Heap} {wc w : va_W} {cu : List Nat} (hP : va_P E.1 vwCl ws H) (hD : va_D A ws) (hcut : cu.map (fun i => ws[i]?) = wc.map some) (hnd : va_nd cu = true) (had : w.map Prod.fst = wc.map Prod.fst) (hk : ∀ q : Nat, q < H.size → ¬ va_A wc H.size q → H1[q]? = H[q]?) (hP1 : va_P E.1 vwCl w H1) : va_P E.1 vwCl (gPut ws cu w) H1 ∧ va_D A (gPut ws cu w) := by
  have hlt : ∀ i ∈ cu, i < ws.length := fun i hi => by
    obtain ⟨j, hj⟩ := List.getElem?_of_mem hi
    obtain ⟨q, -, h⟩ := g_cutr hcut hj
    exact (List.getElem?_eq_some_iff.mp h).1
  have hwl : w.length = wc.length := by
    have := congrArg List.length had
    simpa using this
  have hwa : ∀ (j : Nat) (q r : Nat × va_E), w[j]? = some q → wc[j]? = some r → q.1 = r.1 := fun j q r h1 h2 => by
    have h3 := congrArg (fun z => z[j]?) had
    simp only [List.getElem?_map, h1, h2, Option.map_some] at h3
    exact Option.some.inj h3
  -- each cell of the new world: a cell of w, or one that stayed
  have key : ∀ (k : Nat) (q : Nat × va_E), (gPut ws cu w)[k]? = some q → ∃ q0, ws[k]? = some q0 ∧ q0.1 = q.1 ∧ ((∃ j : Nat, cu[j]? = some k ∧ w[j]? = some q) ∨ (k ∉ cu ∧ q0 = q)) := by
    intro k q hq
    by_cases hkc : k ∈ cu
    · obtain ⟨j, hj⟩ := List.getElem?_of_mem hkc
      obtain ⟨r, hr1, hr2⟩ := g_cutr hcut hj
      have hjl : j < w.length := by rw [hwl]; exact (List.getElem?_eq_some_iff.mp hr1).1
      have hx : w[j]? = some w[j] := List.getElem?_eq_getElem hjl
      have h2 := gPut_eq cu ws w j k w[j] hnd hlt hj hx
      rw [hq] at h2
      cases h2
      exact ⟨r, hr2, (hwa j _ _ hx hr1).symm, Or.inl ⟨j, hj, hx⟩⟩
    · rw [gPut_ne cu ws w k hkc] at hq
      exact ⟨q, hq, rfl, Or.inr ⟨hkc, rfl⟩⟩
  refine ⟨fun k q hq => ?_, fun i j x y hi hj hxy => ?_, fun k q hq => ?_⟩
  · obtain ⟨q0, h0, h1, h2⟩ := key k q hq
    rcases h2 with ⟨j, -, hw⟩ | ⟨hkc, rfl⟩
    · exact hP1 j q hw
    · refine (hP k q0 h0).kept (hk q0.1 (hP k q0 h0).lt (fun z => ?_))
      rcases z with ⟨j, e, hz⟩ | hz
      · obtain ⟨i, hi1, hi2⟩ := g_cut hcut hz
        have := hD.1 k i q0 (q0.1, e) h0 hi2 rfl
        subst this
        exact hkc (List.mem_of_getElem? hi1)
      · exact absurd (hP k q0 h0).lt (Nat.not_lt.mpr hz)
  · obtain ⟨x0, a1, a2, -⟩ := key i x hi
    obtain ⟨y0, b1, b2, -⟩ := key j y hj
    exact hD.1 i j x0 y0 a1 b1 (a2.trans (hxy.trans b2.symm))
  · obtain ⟨q0, h0, h1, -⟩ := key k q hq
    rw [← h1]
    exact hD.2 k q0 h0
/-- behind a run that made no cells -/
theorem g_back {mc ms : Nat} {wc : va_W} {post : Option Value → va_W → Prop} {a : Array Value} {rest : List Value} (n' : Nat) (cu : List Nat) (C : gC p s m args meth c cc nL own Ts E A) (hp : pc + 3 = n') (hcut : cu.map (fun i => ws[i]?) = wc.map some) (hnd : va_nd cu = true) (had : ∀ v w, post v w → w.map Prod.fst = wc.map Prod.fst)
    (run : ∀ (H : Heap) (locs : List Loc) (ls : Array Slot), va_P E.1 vwCl ws H → va_D A ws → lv_has ls nL lv → va_Run p l e R s m args below meth c H locs cells slots mc ms (F0 m pc ls st) rest (gPost E (va_A wc H.size) post a) (va_A wc H.size))
    (kk : ∀ v w, post v w → gJ p l e R s m args below meth c (cells + mc) (slots + ms) Q E A nL (gPut ws cu w) lv n' (v.toList ++ rest)) : gJ p l e R s m args below meth c cells slots Q E A nL ws lv pc st := by
  intro H locs ls hP hD hS hl
  subst hp
  intro T hT X
  obtain ⟨v, st₀, t, T', L, h0, X', hL, e1, e2, ⟨⟨v', w, hv, hpost, hPw, hKw, hDw⟩, hz, hk⟩, st⟩ := run H locs ls hP hD hl T hT X
  cases hv
  rw [h0] at hz hk
  rw [← e1] at hz hk hPw
  have hF := va_free hD hS C.2.2.2.2.2.2.1 cu hcut
  obtain ⟨hP2, hD2⟩ := g_world hP hD hcut hnd (had v w hpost) hk hPw
  obtain ⟨t2, a1, b1⟩ := kk v w hpost T'.heap (locs ++ L) ls hP2 hD2 ⟨Nat.le_trans hS.1 hz, fun q h1 h2 => by rw [hk q (Nat.lt_of_lt_of_le h1 hS.1) (fun z => h2 (hF q z))]; exact hS.2.1 q h1 h2, fun q hq => by
      rcases List.mem_append.mp hq with h | h
      · exact hS.2.2 q h
      · exact hF _ (hL q h)⟩ hl T' rfl X'
  exact ⟨t2, st t2 a1, b1⟩
/-- behind a run that may have made cells: the caller's other cells first, then the callee's -/
theorem g_backN {mc ms : Nat} {wc : va_W} {post : Option Value → va_W → Prop} {a : Array Value} {rest : List Value} (n' : Nat) (cu re : List Nat) (C : gC p s m args meth c cc nL own Ts E A) (hp : pc + 3 = n') (hcut : cu.map (fun i => ws[i]?) = wc.map some) {wr : va_W} (hre : re.map (fun i => ws[i]?) = wr.map some) (hnd : va_nd re = true) (hdis : ∀ i ∈ re, i ∉ cu)
    (run : ∀ (H : Heap) (locs : List Loc) (ls : Array Slot), va_P E.1 vwCl ws H → va_D A ws → lv_has ls nL lv → va_Run p l e R s m args below meth c H locs cells slots mc ms (F0 m pc ls st) rest (gPost E (va_A wc H.size) post a) (va_A wc H.size))
    (kk : ∀ v w, post v w → gJ p l e R s m args below meth c (cells + mc) (slots + ms) Q E A nL (wr ++ w) lv n' (v.toList ++ rest)) : gJ p l e R s m args below meth c cells slots Q E A nL ws lv pc st := by
  intro H locs ls hP hD hS hl
  subst hp
  intro T hT X
  obtain ⟨v, st₀, t, T', L, h0, X', hL, e1, e2, ⟨⟨v', w, hv, hpost, hPw, hKw, hDw⟩, hz, hk⟩, st⟩ := run H locs ls hP hD hl T hT X
  cases hv
  rw [h0] at hz hk
  rw [← e1] at hz hk hPw
  have hF := va_free hD hS C.2.2.2.2.2.2.1 cu hcut
  obtain ⟨hP2, hD2⟩ := va_join hP hD cu re hcut hre hnd hdis hk hF hPw hDw
  obtain ⟨t2, a1, b1⟩ := kk v w hpost T'.heap (locs ++ L) ls hP2 hD2 ⟨Nat.le_trans hS.1 hz, fun q h1 h2 => by rw [hk q (Nat.lt_of_lt_of_le h1 hS.1) (fun z => h2 (hF q z))]; exact hS.2.1 q h1 h2, fun q hq => by
      rcases List.mem_append.mp hq with h | h
      · exact hS.2.2 q h
      · exact hF _ (hL q h)⟩ hl T' rfl X'
  exact ⟨t2, st t2 a1, b1⟩
theorem g_blind {as : List Value} {sz : Nat} {wc : va_W} : FrameBlind (va_Pc as (fun U => U.heap.size = sz ∧ va_P E.1 vwCl wc U.heap ∧ gK E U ∧ va_D (fun _ => True) wc)) := fun a U g mk q => by obtain ⟨q0, q1, qP, qK, qD⟩ := q; exact ⟨q0, q1, qP, gK.moved (u := U) (U := U.calling g mk a) (Vm.Alike.refl U.vm) qK, qD⟩
theorem g_self {wc : va_W} {cu : List Nat} (hcut : cu.map (fun i => ws[i]?) = wc.map some) (hnd : va_nd cu = true) : gPut ws cu wc = ws := by
  apply List.ext_getElem?
  intro k
  have hlt : ∀ i ∈ cu, i < ws.length := fun i hi => by
    obtain ⟨j, hj⟩ := List.getElem?_of_mem hi
    obtain ⟨q, -, h⟩ := g_cutr hcut hj
    exact (List.getElem?_eq_some_iff.mp h).1
  by_cases hkc : k ∈ cu
  · obtain ⟨j, hj⟩ := List.getElem?_of_mem hkc
    obtain ⟨r, hr1, hr2⟩ := g_cutr hcut hj
    rw [gPut_eq cu ws wc j k r hnd hlt hj hr1, hr2]
  · exact gPut_ne cu ws wc k hkc
theorem g_preD {H : Heap} {wc : va_W} {cu : List Nat} (hD : va_D A ws) (hcut : cu.map (fun i => ws[i]?) = wc.map some) (hnd : va_nd cu = true) : va_D (fun _ => True) wc := (hD.sub cu hnd hcut).weaken (fun _ _ _ _ => trivial)
theorem g_runV {k mc ms maxL index : Nat} {y : MethodName} {bytes : ByteArray} {ret : Option FieldType} {wsy : List Cond} {rm : Room} {as rest : List Value} {b : Nat} {Cn : String} {wc : va_W} {post : Option Value → va_W → Prop} (C : gC p s m args meth c cc nL own Ts E A) (hM : gMet E l y wsy rm mc ms (.ref b :: as) wc post) (cw : CallW R s args own Cn index y bytes maxL ret wsy rm mc ms k) (cu : List Nat) (hcut : cu.map (fun i => ws[i]?) = wc.map some) (hnd : va_nd cu = true) (hst : as.reverse ++ .ref b :: rest = st) (hlen : as.length = k) (hcat : (rest.map fun v => v.category).sum ≤ 8) (q0 ci : Nat) {fs : List Value} {r : vw_C} (he : ws[q0]? = some (b, .inr (ci, fs))) (hc : vwCl[ci]? = some r) (hCn : r.1 = Cn) (hdg : decode cc pc = .ok (.invokevirtual index, 3)) (hf : cells + mc ≤ R.cells ∧ slots + ms ≤ R.slots) :
    ∀ (H : Heap) (locs : List Loc) (ls : Array Slot), va_P E.1 vwCl ws H → va_D A ws → lv_has ls nL lv → va_Run p l e R s m args below meth c H locs cells slots mc ms (F0 m pc ls st) rest (gPost E (va_A wc H.size) post (.ref b :: as).toArray) (va_A wc H.size) :=
  fun H locs ls hP hD hl => va_runV (C := Cn) ⟨C.1, C.2.1, C.2.2.1, C.2.2.2.1, C.2.2.2.2.1⟩ (hM H.size) cw ⟨g_blind, hCn ▸ va_recv C.2.2.2.2.2.1.1 hP hc he, fun U hU hW => ⟨rfl, by rw [hU], by rw [hU]; exact g_subP hcut hP, gK.moved hW.alike C.2.2.2.2.2.1, g_preD (H := H) hD hcut hnd⟩⟩ rfl hlen hl.1 hst.symm (lv_room hcat) hdg hf
theorem g_callV (n' : Nat) {k mc ms maxL index : Nat} {y : MethodName} {bytes : ByteArray} {ret : Option FieldType} {wsy : List Cond} {rm : Room} {as rest : List Value} {b : Nat} {Cn : String} {wc : va_W} {post : Option Value → va_W → Prop} (C : gC p s m args meth c cc nL own Ts E A) (cu : List Nat) (hdg : decode cc pc = .ok (.invokevirtual index, 3)) (hp : pc + 3 = n') (hM : gMet E l y wsy rm mc ms (.ref b :: as) wc post) (cw : CallW R s args own Cn index y bytes maxL ret wsy rm mc ms k) (hst : as.reverse ++ .ref b :: rest = st) (hcut : cu.map (fun i => ws[i]?) = wc.map some) (hnd : va_nd cu = true) (hlen : as.length = k) (hcat : (rest.map fun v => v.category).sum ≤ 8) (q0 ci : Nat) {fs : List Value} {r : vw_C} (he : ws[q0]? = some (b, .inr (ci, fs))) (hc : vwCl[ci]? = some r) (hCn : r.1 = Cn) (hf : cells + mc ≤ R.cells ∧ slots + ms ≤ R.slots) (had : ∀ v w, post v w → w.map Prod.fst = wc.map Prod.fst)
    (kk : ∀ v w, post v w → gJ p l e R s m args below meth c (cells + mc) (slots + ms) Q E A nL (gPut ws cu w) lv n' (v.toList ++ rest)) : gJ p l e R s m args below meth c cells slots Q E A nL ws lv pc st :=
  g_back n' cu C hp hcut hnd had (g_runV C hM cw cu hcut hnd hst hlen hcat q0 ci he hc hCn hdg hf) kk
theorem g_callVF (n' : Nat) {k maxL index : Nat} {y : MethodName} {bytes : ByteArray} {ret : Option FieldType} {wsy : List Cond} {rm : Room} {as rest : List Value} {b : Nat} {Cn : String} {wc : va_W} {v : Value} (C : gC p s m args meth c cc nL own Ts E A) (cu : List Nat) (hdg : decode cc pc = .ok (.invokevirtual index, 3)) (hp : pc + 3 = n') (hM : gFun E l y wsy rm (.ref b :: as) wc v) (cw : CallW R s args own Cn index y bytes maxL ret wsy rm 0 0 k) (hst : as.reverse ++ .ref b :: rest = st) (hcut : cu.map (fun i => ws[i]?) = wc.map some) (hnd : va_nd cu = true) (hlen : as.length = k) (hcat : (rest.map fun v => v.category).sum ≤ 8) (q0 ci : Nat) {fs : List Value} {r : vw_C} (he : ws[q0]? = some (b, .inr (ci, fs))) (hc : vwCl[ci]? = some r) (hCn : r.1 = Cn) (hf : cells + 0 ≤ R.cells ∧ slots + 0 ≤ R.slots)
    (kk : gJ p l e R s m args below meth c cells slots Q E A nL ws lv n' (v :: rest)) : gJ p l e R s m args below meth c cells slots Q E A nL ws lv pc st :=
  g_callV n' C cu hdg hp hM cw hst hcut hnd hlen hcat q0 ci he hc hCn hf (fun v w h => by rw [h.2]) (fun v2 w h => by
    obtain ⟨rfl, rfl⟩ := h
    rw [g_self hcut hnd]
    exact kk)
theorem g_callVU (n' : Nat) {k maxL index : Nat} {y : MethodName} {bytes : ByteArray} {ret : Option FieldType} {wsy : List Cond} {rm : Room} {as rest : List Value} {b : Nat} {Cn : String} {wc : va_W} {v : Option Value} {w1 ws' : va_W} (C : gC p s m args meth c cc nL own Ts E A) (cu : List Nat) (hdg : decode cc pc = .ok (.invokevirtual index, 3)) (hp : pc + 3 = n') (hM : gUpd E l y wsy rm (.ref b :: as) wc v w1) (cw : CallW R s args own Cn index y bytes maxL ret wsy rm 0 0 k) (hst : as.reverse ++ .ref b :: rest = st) (hcut : cu.map (fun i => ws[i]?) = wc.map some) (hnd : va_nd cu = true) (hlen : as.length = k) (hcat : (rest.map fun v => v.category).sum ≤ 8) (q0 ci : Nat) {fs : List Value} {r : vw_C} (he : ws[q0]? = some (b, .inr (ci, fs))) (hc : vwCl[ci]? = some r) (hCn : r.1 = Cn) (hf : cells + 0 ≤ R.cells ∧ slots + 0 ≤ R.slots) (had : w1.map Prod.fst = wc.map Prod.fst) (hw : gPut ws cu w1 = ws')
    (kk : gJ p l e R s m args below meth c cells slots Q E A nL ws' lv n' (v.toList ++ rest)) : gJ p l e R s m args below meth c cells slots Q E A nL ws lv pc st :=
  g_callV n' C cu hdg hp hM cw hst hcut hnd hlen hcat q0 ci he hc hCn hf (fun v w h => by rw [h.2]; exact had) (fun v2 w h => by
    obtain ⟨rfl, rfl⟩ := h
    rw [hw]
    exact kk)
theorem g_callVN (n' : Nat) {k mc ms maxL index : Nat} {y : MethodName} {bytes : ByteArray} {ret : Option FieldType} {wsy : List Cond} {rm : Room} {as rest : List Value} {b : Nat} {Cn : String} {wc : va_W} {post : Option Value → va_W → Prop} (C : gC p s m args meth c cc nL own Ts E A) (cu re : List Nat) (hdg : decode cc pc = .ok (.invokevirtual index, 3)) (hp : pc + 3 = n') (hM : gMet E l y wsy rm mc ms (.ref b :: as) wc post) (cw : CallW R s args own Cn index y bytes maxL ret wsy rm mc ms k) (hst : as.reverse ++ .ref b :: rest = st) (hcut : cu.map (fun i => ws[i]?) = wc.map some) (hnd : va_nd cu = true) {wr : va_W} (hre : re.map (fun i => ws[i]?) = wr.map some) (hnr : va_nd re = true) (hdis : ∀ i ∈ re, i ∉ cu) (hlen : as.length = k) (hcat : (rest.map fun v => v.category).sum ≤ 8) (q0 ci : Nat) {fs : List Value} {r : vw_C} (he : ws[q0]? = some (b, .inr (ci, fs))) (hc : vwCl[ci]? = some r) (hCn : r.1 = Cn) (hf : cells + mc ≤ R.cells ∧ slots + ms ≤ R.slots)
    (kk : ∀ v w, post v w → gJ p l e R s m args below meth c (cells + mc) (slots + ms) Q E A nL (wr ++ w) lv n' (v.toList ++ rest)) : gJ p l e R s m args below meth c cells slots Q E A nL ws lv pc st :=
  g_backN n' cu re C hp hcut hre hnr hdis (g_runV C hM cw cu hcut hnd hst hlen hcat q0 ci he hc hCn hdg hf) kk
theorem g_runS {k mc ms maxL index : Nat} {y : MethodName} {bytes : ByteArray} {ret : Option FieldType} {wsy : List Cond} {rm : Room} {as rest : List Value}  {wc : va_W} {post : Option Value → va_W → Prop} (C : gC p s m args meth c cc nL own Ts E A) (hM : gMet E l y wsy rm mc ms as wc post) (cw : CallB R s args own index y bytes maxL ret wsy rm mc ms k ∧ (Cond.static y).before args s = true) (cu : List Nat) (hcut : cu.map (fun i => ws[i]?) = wc.map some) (hnd : va_nd cu = true) (hst : as.reverse ++ rest = st) (hlen : as.length = k) (hcat : (rest.map fun v => v.category).sum ≤ 8) (hdg : decode cc pc = .ok (.invokestatic index, 3)) (hf : cells + mc ≤ R.cells ∧ slots + ms ≤ R.slots) :
    ∀ (H : Heap) (locs : List Loc) (ls : Array Slot), va_P E.1 vwCl ws H → va_D A ws → lv_has ls nL lv → va_Run p l e R s m args below meth c H locs cells slots mc ms (F0 m pc ls st) rest (gPost E (va_A wc H.size) post as.toArray) (va_A wc H.size) :=
  fun H locs ls hP hD hl => va_runS ⟨C.1, C.2.1, C.2.2.1, C.2.2.2.1, C.2.2.2.2.1⟩ (hM H.size) cw ⟨g_blind, fun U hU hW => ⟨rfl, by rw [hU], by rw [hU]; exact g_subP hcut hP, gK.moved hW.alike C.2.2.2.2.2.1, g_preD (H := H) hD hcut hnd⟩⟩ rfl hlen hl.1 hst.symm (lv_room hcat) hdg hf
theorem g_callS (n' : Nat) {k mc ms maxL index : Nat} {y : MethodName} {bytes : ByteArray} {ret : Option FieldType} {wsy : List Cond} {rm : Room} {as rest : List Value}  {wc : va_W} {post : Option Value → va_W → Prop} (C : gC p s m args meth c cc nL own Ts E A) (cu : List Nat) (hdg : decode cc pc = .ok (.invokestatic index, 3)) (hp : pc + 3 = n') (hM : gMet E l y wsy rm mc ms as wc post) (cw : CallB R s args own index y bytes maxL ret wsy rm mc ms k ∧ (Cond.static y).before args s = true) (hst : as.reverse ++ rest = st) (hcut : cu.map (fun i => ws[i]?) = wc.map some) (hnd : va_nd cu = true) (hlen : as.length = k) (hcat : (rest.map fun v => v.category).sum ≤ 8) (hf : cells + mc ≤ R.cells ∧ slots + ms ≤ R.slots) (had : ∀ v w, post v w → w.map Prod.fst = wc.map Prod.fst)
    (kk : ∀ v w, post v w → gJ p l e R s m args below meth c (cells + mc) (slots + ms) Q E A nL (gPut ws cu w) lv n' (v.toList ++ rest)) : gJ p l e R s m args below meth c cells slots Q E A nL ws lv pc st :=
  g_back n' cu C hp hcut hnd had (g_runS C hM cw cu hcut hnd hst hlen hcat hdg hf) kk
theorem g_callSF (n' : Nat) {k maxL index : Nat} {y : MethodName} {bytes : ByteArray} {ret : Option FieldType} {wsy : List Cond} {rm : Room} {as rest : List Value}  {wc : va_W} {v : Value} (C : gC p s m args meth c cc nL own Ts E A) (cu : List Nat) (hdg : decode cc pc = .ok (.invokestatic index, 3)) (hp : pc + 3 = n') (hM : gFun E l y wsy rm as wc v) (cw : CallB R s args own index y bytes maxL ret wsy rm 0 0 k ∧ (Cond.static y).before args s = true) (hst : as.reverse ++ rest = st) (hcut : cu.map (fun i => ws[i]?) = wc.map some) (hnd : va_nd cu = true) (hlen : as.length = k) (hcat : (rest.map fun v => v.category).sum ≤ 8) (hf : cells + 0 ≤ R.cells ∧ slots + 0 ≤ R.slots)
    (kk : gJ p l e R s m args below meth c cells slots Q E A nL ws lv n' (v :: rest)) : gJ p l e R s m args below meth c cells slots Q E A nL ws lv pc st :=
  g_callS n' C cu hdg hp hM cw hst hcut hnd hlen hcat hf (fun v w h => by rw [h.2]) (fun v2 w h => by
    obtain ⟨rfl, rfl⟩ := h
    rw [g_self hcut hnd]
    exact kk)
theorem g_callSU (n' : Nat) {k maxL index : Nat} {y : MethodName} {bytes : ByteArray} {ret : Option FieldType} {wsy : List Cond} {rm : Room} {as rest : List Value}  {wc : va_W} {v : Option Value} {w1 ws' : va_W} (C : gC p s m args meth c cc nL own Ts E A) (cu : List Nat) (hdg : decode cc pc = .ok (.invokestatic index, 3)) (hp : pc + 3 = n') (hM : gUpd E l y wsy rm as wc v w1) (cw : CallB R s args own index y bytes maxL ret wsy rm 0 0 k ∧ (Cond.static y).before args s = true) (hst : as.reverse ++ rest = st) (hcut : cu.map (fun i => ws[i]?) = wc.map some) (hnd : va_nd cu = true) (hlen : as.length = k) (hcat : (rest.map fun v => v.category).sum ≤ 8) (hf : cells + 0 ≤ R.cells ∧ slots + 0 ≤ R.slots) (had : w1.map Prod.fst = wc.map Prod.fst) (hw : gPut ws cu w1 = ws')
    (kk : gJ p l e R s m args below meth c cells slots Q E A nL ws' lv n' (v.toList ++ rest)) : gJ p l e R s m args below meth c cells slots Q E A nL ws lv pc st :=
  g_callS n' C cu hdg hp hM cw hst hcut hnd hlen hcat hf (fun v w h => by rw [h.2]; exact had) (fun v2 w h => by
    obtain ⟨rfl, rfl⟩ := h
    rw [hw]
    exact kk)
theorem g_callSN (n' : Nat) {k mc ms maxL index : Nat} {y : MethodName} {bytes : ByteArray} {ret : Option FieldType} {wsy : List Cond} {rm : Room} {as rest : List Value}  {wc : va_W} {post : Option Value → va_W → Prop} (C : gC p s m args meth c cc nL own Ts E A) (cu re : List Nat) (hdg : decode cc pc = .ok (.invokestatic index, 3)) (hp : pc + 3 = n') (hM : gMet E l y wsy rm mc ms as wc post) (cw : CallB R s args own index y bytes maxL ret wsy rm mc ms k ∧ (Cond.static y).before args s = true) (hst : as.reverse ++ rest = st) (hcut : cu.map (fun i => ws[i]?) = wc.map some) (hnd : va_nd cu = true) {wr : va_W} (hre : re.map (fun i => ws[i]?) = wr.map some) (hnr : va_nd re = true) (hdis : ∀ i ∈ re, i ∉ cu) (hlen : as.length = k) (hcat : (rest.map fun v => v.category).sum ≤ 8) (hf : cells + mc ≤ R.cells ∧ slots + ms ≤ R.slots)
    (kk : ∀ v w, post v w → gJ p l e R s m args below meth c (cells + mc) (slots + ms) Q E A nL (wr ++ w) lv n' (v.toList ++ rest)) : gJ p l e R s m args below meth c cells slots Q E A nL ws lv pc st :=
  g_backN n' cu re C hp hcut hre hnr hdis (g_runS C hM cw cu hcut hnd hst hlen hcat hdg hf) kk
theorem g_runI {k mc ms maxL index : Nat} {y : MethodName} {bytes : ByteArray} {wsy : List Cond} {rm : Room} {as rest : List Value} {b : Nat} {wc : va_W} {post : Option Value → va_W → Prop} (C : gC p s m args meth c cc nL own Ts E A) (hM : gMet E l y wsy rm mc ms (.ref b :: as) wc post) (cw : CallB R s args own index y bytes maxL none wsy rm mc ms k ∧ y.name = "<init>" ∧ (Cond.instanceMethod y).before args s = true) (cu : List Nat) (hcut : cu.map (fun i => ws[i]?) = wc.map some) (hnd : va_nd cu = true) (hst : as.reverse ++ .ref b :: rest = st) (hlen : as.length = k) (hcat : (rest.map fun v => v.category).sum ≤ 8) (hdg : decode cc pc = .ok (.invokespecial index, 3)) (hf : cells + mc ≤ R.cells ∧ slots + ms ≤ R.slots) :
    ∀ (H : Heap) (locs : List Loc) (ls : Array Slot), va_P E.1 vwCl ws H → va_D A ws → lv_has ls nL lv → va_Run p l e R s m args below meth c H locs cells slots mc ms (F0 m pc ls st) rest (gPost E (va_A wc H.size) post (.ref b :: as).toArray) (va_A wc H.size) :=
  fun H locs ls hP hD hl => va_runI ⟨C.1, C.2.1, C.2.2.1, C.2.2.2.1, C.2.2.2.2.1⟩ (hM H.size) cw ⟨g_blind, fun U hU hW => ⟨rfl, by rw [hU], by rw [hU]; exact g_subP hcut hP, gK.moved hW.alike C.2.2.2.2.2.1, g_preD (H := H) hD hcut hnd⟩⟩ rfl hlen hl.1 hst.symm (lv_room hcat) hdg hf
theorem g_callIN (n' : Nat) {k mc ms maxL index : Nat} {y : MethodName} {bytes : ByteArray} {wsy : List Cond} {rm : Room} {as rest : List Value} {b : Nat} {wc : va_W} {post : Option Value → va_W → Prop} (C : gC p s m args meth c cc nL own Ts E A) (cu re : List Nat) (hdg : decode cc pc = .ok (.invokespecial index, 3)) (hp : pc + 3 = n') (hM : gMet E l y wsy rm mc ms (.ref b :: as) wc post) (cw : CallB R s args own index y bytes maxL none wsy rm mc ms k ∧ y.name = "<init>" ∧ (Cond.instanceMethod y).before args s = true) (hst : as.reverse ++ .ref b :: rest = st) (hcut : cu.map (fun i => ws[i]?) = wc.map some) (hnd : va_nd cu = true) {wr : va_W} (hre : re.map (fun i => ws[i]?) = wr.map some) (hnr : va_nd re = true) (hdis : ∀ i ∈ re, i ∉ cu) (hlen : as.length = k) (hcat : (rest.map fun v => v.category).sum ≤ 8) (hf : cells + mc ≤ R.cells ∧ slots + ms ≤ R.slots)
    (kk : ∀ v w, post v w → gJ p l e R s m args below meth c (cells + mc) (slots + ms) Q E A nL (wr ++ w) lv n' (v.toList ++ rest)) : gJ p l e R s m args below meth c cells slots Q E A nL ws lv pc st :=
  g_backN n' cu re C hp hcut hre hnr hdis (g_runI C hM cw cu hcut hnd hst hlen hcat hdg hf) kk
theorem g_iret (C : gC p s m args meth c cc nL own Ts E A) {post : Option Value → va_W → Prop} {x : Int32} (hr : meth.sig.returnType = some .int) (hdg : decode cc pc = .ok (.ireturn, 1)) (hq : post (some (.int x)) ws) : gJ p l e R s m args below meth c cells slots (MQ below (gPost E A post) args s cells slots A) E A nL ws lv pc [.int x] := by
  intro H locs ls hP hD hS hl
  exact W.iret C.1 C.2.1 hr (fun t ht hW => ⟨⟨_, ws, rfl, hq, by rw [ht]; exact hP, gK.moved hW.alike C.2.2.2.2.2.1, hD⟩, hS.F ht⟩) hS.2.2 hdg C.2.2.2.2.2.2.2
theorem g_lret (C : gC p s m args meth c cc nL own Ts E A) {post : Option Value → va_W → Prop} {x : Int64} (hr : meth.sig.returnType = some .long) (hdg : decode cc pc = .ok (.lreturn, 1)) (hq : post (some (.long x)) ws) : gJ p l e R s m args below meth c cells slots (MQ below (gPost E A post) args s cells slots A) E A nL ws lv pc [.long x] := by
  intro H locs ls hP hD hS hl
  exact W.lret C.1 C.2.1 hr (fun t ht hW => ⟨⟨_, ws, rfl, hq, by rw [ht]; exact hP, gK.moved hW.alike C.2.2.2.2.2.1, hD⟩, hS.F ht⟩) hS.2.2 hdg C.2.2.2.2.2.2.2
theorem g_zret (C : gC p s m args meth c cc nL own Ts E A) {post : Option Value → va_W → Prop} {x : Int32} (hr : meth.sig.returnType = some .boolean) (hdg : decode cc pc = .ok (.ireturn, 1)) (hn : narrow .boolean (.int x) = .int x) (hq : post (some (.int x)) ws) : gJ p l e R s m args below meth c cells slots (MQ below (gPost E A post) args s cells slots A) E A nL ws lv pc [.int x] := by
  intro H locs ls hP hD hS hl
  exact W.zret C.1 C.2.1 hr hn (fun t ht hW => ⟨⟨_, ws, rfl, hq, by rw [ht]; exact hP, gK.moved hW.alike C.2.2.2.2.2.1, hD⟩, hS.F ht⟩) hS.2.2 hdg C.2.2.2.2.2.2.2
theorem g_vret (C : gC p s m args meth c cc nL own Ts E A) {post : Option Value → va_W → Prop} (hr : meth.sig.returnType = none) (hdg : decode cc pc = .ok (.return_, 1)) (hq : post none ws) : gJ p l e R s m args below meth c cells slots (MQ below (gPost E A post) args s cells slots A) E A nL ws lv pc [] := by
  intro H locs ls hP hD hS hl
  exact W.vret C.1 C.2.1 hr (fun t ht hW => ⟨⟨_, ws, rfl, hq, by rw [ht]; exact hP, gK.moved hW.alike C.2.2.2.2.2.1, hD⟩, hS.F ht⟩) hS.2.2 hdg C.2.2.2.2.2.2.2
theorem g_widen {k n : Nat} (h1 : cells ≤ k) (h2 : slots ≤ n) (kk : gJ p l e R s m args below meth c k n Q E A nL ws lv pc st) : gJ p l e R s m args below meth c cells slots Q E A nL ws lv pc st := fun H locs ls hP hD hS hl => W.widen h1 h2 (kk H locs ls hP hD hS hl)
-- Math
theorem g_mabs (n' : Nat) (C : gC p s m args meth c cc nL own Ts E A) {index : Nat} {a : Int} (hdg : decode cc pc = .ok (.invokestatic index, 3)) (hp : pc + 3 = n') (hm : ∀ w ∈ ([Cond.methodLink own index Lib.Math.abs.name, Cond.static Lib.Math.abs.name, Cond.initialized "java/lang/Math", Cond.code Lib.Math.abs.name Lib.Math.abs.code 1 (some .int)] : List Cond), w ∈ Ts) (hcat : (st.map fun v => v.category).sum + 13 ≤ R.locals) (hfr : 1 ≤ R.frames) (hc : cells ≤ R.cells) (hs : slots ≤ R.slots) (hr : -2147483648 < a ∧ a < 2147483648) (kk : gJ p l e R s m args below meth c cells slots Q E A nL ws lv n' (.int (iI (if 0 ≤ a then a else -a)) :: st)) : gJ p l e R s m args below meth c cells slots Q E A nL ws lv pc (.int (iI a) :: st) := by
  intro H locs ls hP hD hS hl
  subst hp
  have ht := C.2.2.2.2.1
  refine va_mabs C.1 C.2.1 (C.2.2.1.trans hl.1.symm) C.2.2.2.1 (ht _ (hm _ (by simp))) (ht _ (hm _ (by simp))) (ht _ (hm _ (by simp))) (ht _ (hm _ (by simp))) hfr hcat hc hs hdg ?_
  have e1 : (if (0 : Int32) ≤ iI a then iI a else 0 - iI a) = iI (if 0 ≤ a then a else -a) := by
    by_cases h : 0 ≤ a
    · rw [if_pos h, if_pos (by rw [← iI_0, iI_le (by omega) (by omega) (by omega) (by omega)]; exact h)]
    · rw [if_neg h, if_neg (by rw [← iI_0, iI_le (by omega) (by omega) (by omega) (by omega)]; exact h), ← iI_0, iI_sub, Int.zero_sub]
  rw [e1]
  exact kk H locs ls hP hD hS hl
theorem g_joinv (t k : Nat) (val : Int) (body : gJ p l e R s m args below meth c cells slots Q E A nL ws lv t (.int (iI val) :: st.drop k)) (kk : (∀ v : Int, v = val → gJ p l e R s m args below meth c cells slots Q E A nL ws lv t (.int (iI v) :: st.drop k)) → gJ p l e R s m args below meth c cells slots Q E A nL ws lv pc st) : gJ p l e R s m args below meth c cells slots Q E A nL ws lv pc st := kk (fun _ h => h ▸ body)
theorem g_ri {a b : Int} (h : a = b) : some (Value.int (iI a)) = some (Value.int (iI b)) := by rw [h]
theorem g_rl {a b : Int} (h : a = b) : some (Value.long (lI a)) = some (Value.long (lI b)) := by rw [h]
theorem g_split (P : Prop) (kt : P → gJ p l e R s m args below meth c cells slots Q E A nL ws lv pc st) (kf : ¬ P → gJ p l e R s m args below meth c cells slots Q E A nL ws lv pc st) : gJ p l e R s m args below meth c cells slots Q E A nL ws lv pc st := (Classical.em P).elim kt kf
theorem g_tsw (t : Nat) (C : gC p s m args meth c cc nL own Ts E A) (z : Int) {dflt lo hi a off : Int} {offs : Array Int} {len : Nat} (hdg : decode cc pc = .ok (.tableswitch dflt lo hi offs, len)) (hr : -2147483648 ≤ a ∧ a < 2147483648) (ha : a = z) (h1 : ¬ z < lo) (h2 : ¬ hi < z) (ho : offs[(z - lo).toNat]? = some off) (ht : (pc : Int) + off = (t : Int)) (kk : gJ p l e R s m args below meth c cells slots Q E A nL ws lv t st) : gJ p l e R s m args below meth c cells slots Q E A nL ws lv pc (.int (iI a) :: st) := by
  intro H locs ls hP hD hS hl
  have e := iI_toInt hr.1 hr.2
  subst ha
  exact lv_tableIn C.1 C.2.1 hdg (by rw [e]; exact h1) (by rw [e]; exact h2) (by rw [e]; exact ho) ht (kk H locs ls hP hD hS hl)
theorem g_tswd (t : Nat) (C : gC p s m args meth c cc nL own Ts E A) {dflt lo hi a : Int} {offs : Array Int} {len : Nat} (hdg : decode cc pc = .ok (.tableswitch dflt lo hi offs, len)) (hr : -2147483648 ≤ a ∧ a < 2147483648) (h : a < lo ∨ hi < a) (ht : (pc : Int) + dflt = (t : Int)) (kk : gJ p l e R s m args below meth c cells slots Q E A nL ws lv t st) : gJ p l e R s m args below meth c cells slots Q E A nL ws lv pc (.int (iI a) :: st) := by
  intro H locs ls hP hD hS hl
  exact lv_tableOut C.1 C.2.1 hdg (by rw [iI_toInt hr.1 hr.2]; exact h) ht (kk H locs ls hP hD hS hl)
theorem g_lsw2 (t1 t2 td : Nat) (C : gC p s m args meth c cc nL own Ts E A) {dflt k1 o1 k2 o2 a : Int} {len : Nat} (hdg : decode cc pc = .ok (.lookupswitch dflt #[(k1, o1), (k2, o2)], len)) (hs : k1 < k2) (hr : -2147483648 ≤ a ∧ a < 2147483648) (e1 : (pc : Int) + o1 = (t1 : Int)) (e2 : (pc : Int) + o2 = (t2 : Int)) (ed : (pc : Int) + dflt = (td : Int)) (kk1 : a = k1 → gJ p l e R s m args below meth c cells slots Q E A nL ws lv t1 st) (kk2 : a = k2 → gJ p l e R s m args below meth c cells slots Q E A nL ws lv t2 st) (kkd : a ≠ k1 ∧ a ≠ k2 → gJ p l e R s m args below meth c cells slots Q E A nL ws lv td st) : gJ p l e R s m args below meth c cells slots Q E A nL ws lv pc (.int (iI a) :: st) := by
  intro H locs ls hP hD hS hl
  have e := iI_toInt hr.1 hr.2
  have hz : (((#[(k1, o1), (k2, o2)] : Array (Int × Int)).toList.zip ((#[(k1, o1), (k2, o2)] : Array (Int × Int)).toList.drop 1)).all (fun (a, next) => a.1 < next.1)) = true := by simp [hs]
  by_cases h1 : k1 = a
  · refine lv_lookup C.1 C.2.1 hdg hz (off := o1) ?_ e1 (kk1 h1.symm H locs ls hP hD hS hl)
    show (if k1 = (iI a).toInt then o1 else _) = o1
    rw [e, if_pos h1]
  · by_cases h2 : k2 = a
    · refine lv_lookup C.1 C.2.1 hdg hz (off := o2) ?_ e2 (kk2 h2.symm H locs ls hP hD hS hl)
      show (if k1 = (iI a).toInt then o1 else if k2 = (iI a).toInt then o2 else _) = o2
      rw [e, if_neg h1, if_pos h2]
    · refine lv_lookup C.1 C.2.1 hdg hz (off := dflt) ?_ ed (kkd ⟨fun q => h1 q.symm, fun q => h2 q.symm⟩ H locs ls hP hD hS hl)
      show (if k1 = (iI a).toInt then o1 else if k2 = (iI a).toInt then o2 else dflt) = dflt
      rw [e, if_neg h1, if_neg h2]
end GL
end
section
section GL
variable {p : Program} {l : Launch} {e : Env} {R : Room} {s : State} {m : MethodId} {args : Array Value} {below : List Frame} {meth : Method} {c : Code} {cells slots : Nat} {Q : State → Prop} {E : gE} {A : Nat → Prop} {nL : Nat} {ws : va_W} {lv : List (Nat × Value)} {pc : Nat} {st : List Value} {cc : ByteArray} {own : String} {Ts : List Cond}
theorem g_mmax (n' : Nat) (C : gC p s m args meth c cc nL own Ts E A) (z : Int) {index : Nat} {a b : Int} (hdg : decode cc pc = .ok (.invokestatic index, 3)) (hp : pc + 3 = n') (hm : ∀ w ∈ ([Cond.methodLink own index Lib.Math.max.name, Cond.static Lib.Math.max.name, Cond.initialized "java/lang/Math", Cond.code Lib.Math.max.name Lib.Math.max.code 2 (some .int)] : List Cond), w ∈ Ts) (hcat : (st.map fun v => v.category).sum + 13 ≤ R.locals) (hfr : 1 ≤ R.frames) (hc : cells ≤ R.cells) (hs : slots ≤ R.slots) (hr : -2147483648 ≤ a ∧ a < 2147483648 ∧ -2147483648 ≤ b ∧ b < 2147483648) (hz : z = if a < b then b else a) (kk : gJ p l e R s m args below meth c cells slots Q E A nL ws lv n' (.int (iI z) :: st)) : gJ p l e R s m args below meth c cells slots Q E A nL ws lv pc (.int (iI b) :: .int (iI a) :: st) := by
  intro H locs ls hP hD hS hl
  subst hp
  have ht := C.2.2.2.2.1
  refine va_mmax C.1 C.2.1 (C.2.2.1.trans hl.1.symm) C.2.2.2.1 (ht _ (hm _ (by simp))) (ht _ (hm _ (by simp))) (ht _ (hm _ (by simp))) (ht _ (hm _ (by simp))) hfr hcat hc hs hdg ?_
  have e1 : (if iI a < iI b then iI b else iI a) = iI z := by
    rw [hz]
    by_cases h : a < b
    · rw [if_pos h, if_pos ((iI_lt hr.1 hr.2.1 hr.2.2.1 hr.2.2.2).mpr h)]
    · rw [if_neg h, if_neg (fun q => h ((iI_lt hr.1 hr.2.1 hr.2.2.1 hr.2.2.2).mp q))]
  rw [e1]
  exact kk H locs ls hP hD hS hl
theorem g_mmin (n' : Nat) (C : gC p s m args meth c cc nL own Ts E A) (z : Int) {index : Nat} {a b : Int} (hdg : decode cc pc = .ok (.invokestatic index, 3)) (hp : pc + 3 = n') (hm : ∀ w ∈ ([Cond.methodLink own index Lib.Math.min.name, Cond.static Lib.Math.min.name, Cond.initialized "java/lang/Math", Cond.code Lib.Math.min.name Lib.Math.min.code 2 (some .int)] : List Cond), w ∈ Ts) (hcat : (st.map fun v => v.category).sum + 13 ≤ R.locals) (hfr : 1 ≤ R.frames) (hc : cells ≤ R.cells) (hs : slots ≤ R.slots) (hr : -2147483648 ≤ a ∧ a < 2147483648 ∧ -2147483648 ≤ b ∧ b < 2147483648) (hz : z = if b < a then b else a) (kk : gJ p l e R s m args below meth c cells slots Q E A nL ws lv n' (.int (iI z) :: st)) : gJ p l e R s m args below meth c cells slots Q E A nL ws lv pc (.int (iI b) :: .int (iI a) :: st) := by
  intro H locs ls hP hD hS hl
  subst hp
  have ht := C.2.2.2.2.1
  refine va_mmin C.1 C.2.1 (C.2.2.1.trans hl.1.symm) C.2.2.2.1 (ht _ (hm _ (by simp))) (ht _ (hm _ (by simp))) (ht _ (hm _ (by simp))) (ht _ (hm _ (by simp))) hfr hcat hc hs hdg ?_
  have e1 : (if iI b < iI a then iI b else iI a) = iI z := by
    rw [hz]
    by_cases h : b < a
    · rw [if_pos h, if_pos ((iI_lt hr.2.2.1 hr.2.2.2 hr.1 hr.2.1).mpr h)]
    · rw [if_neg h, if_neg (fun q => h ((iI_lt hr.2.2.1 hr.2.2.2 hr.1 hr.2.1).mp q))]
  rw [e1]
  exact kk H locs ls hP hD hS hl
def cpI (f g : Int → Int) (i j n : Int) : Int → Int := fun k => if j ≤ k ∧ k < j + n then f (i + (k - j)) else g k
theorem cpI_e (f g : Int → Int) {i j n : Int} (hi : 0 ≤ i ∧ i < 2147483648) (hj : 0 ≤ j ∧ j < 2147483648) (hn : 0 ≤ n ∧ n < 2147483648) : va_cpy (fun k : Nat => iI (f (k : Int))) (fun k : Nat => iI (g (k : Int))) (iI i).toNatClampNeg (iI j).toNatClampNeg (iI n).toNatClampNeg = fun k : Nat => iI (cpI f g i j n (k : Int)) := by
  funext k
  rw [iI_clamp hi.1 hi.2, iI_clamp hj.1 hj.2, iI_clamp hn.1 hn.2]
  unfold va_cpy cpI
  by_cases h : j ≤ (k : Int) ∧ (k : Int) < j + n
  · rw [if_pos h, if_pos (by omega)]
    show iI (f ((i.toNat + (k - j.toNat) : Nat) : Int)) = _
    rw [show ((i.toNat + (k - j.toNat) : Nat) : Int) = i + ((k : Int) - j) by omega]
  · rw [if_neg h, if_neg (by omega)]
theorem g_copy (n' : Nat) (C : gC p s m args meth c cc nL own Ts E A) (q0 q1 : Nat) {index a0 a1 n0 n1 : Nat} {f g : Int → Int} {i j n : Int} {ws' : va_W} (hdg : decode cc pc = .ok (.invokestatic index, 3)) (hp : pc + 3 = n') (hm : ∀ w ∈ ([Cond.methodLink own index arraycopyName, Cond.native arraycopyName, Cond.static arraycopyName, Cond.initialized "java/lang/System"] : List Cond), w ∈ Ts) (he0 : ws[q0]? = some (a0, aI E n0 f)) (he1 : ws[q1]? = some (a1, aI E n1 g)) (hi : 0 ≤ i ∧ i + n ≤ n0) (hj : 0 ≤ j ∧ j + n ≤ n1) (hn : 0 ≤ n) (hb : n0 < 2147483648 ∧ n1 < 2147483648) (hfr : 1 ≤ R.frames) (hcat : (st.map fun v => v.category).sum + (nativeFrameWords "java/lang/System" "arraycopy" 5 + 11) ≤ R.locals) (hw : ws.set q1 (a1, aI E n1 (cpI f g i j n)) = ws') (kk : gJ p l e R s m args below meth c cells slots Q E A nL ws' lv n' st) : gJ p l e R s m args below meth c cells slots Q E A nL ws lv pc (.int (iI n) :: .int (iI j) :: .ref a1 :: .int (iI i) :: .ref a0 :: st) := by
  intro H locs ls hP hD hS hl
  subst hp
  subst hw
  have ht := C.2.2.2.2.1
  have ei := iI_clamp (z := i) (by omega) (by omega)
  have ej := iI_clamp (z := j) (by omega) (by omega)
  have en := iI_clamp (z := n) (by omega) (by omega)
  have neg : ∀ z : Int, 0 ≤ z → z < 2147483648 → ¬ iI z < 0 := fun z h1 h2 q => by
    rw [← iI_0, iI_lt (by omega) (by omega) (by omega) (by omega)] at q; omega
  refine va_copyi C.1 C.2.1 (C.2.2.1.trans hl.1.symm) C.2.2.2.1 (ht _ (hm _ (by simp))) (ht _ (hm _ (by simp))) (ht _ (hm _ (by simp))) (ht _ (hm _ (by simp))) C.2.2.2.2.2.1.1 hP hD hS q0 q1 0 0 he0 he1 (ty := .int) rfl rfl rfl (neg i (by omega) (by omega)) (neg j (by omega) (by omega)) (neg n (by omega) (by omega)) (by rw [ei, en]; omega) (by rw [ej, en]; omega) (fun k _ => rfl) hfr hcat hdg (fun H1 locs1 hP hD hS => ?_)
  rw [cpI_e f g (by omega) (by omega) (by omega)] at hP hD
  exact kk H1 locs1 ls hP hD hS hl
-- making cells
theorem g_objInit (n' : Nat) (C : gC p s m args meth c cc nL own Ts E A) {idx a : Nat} (hdg : decode cc pc = .ok (.invokespecial idx, 3)) (hp : pc + 3 = n') (hm : ∀ w ∈ ([Cond.methodLink own idx Lib.objectInit, Cond.instanceMethod Lib.objectInit, Cond.code Lib.objectInit ⟨#[0xb1]⟩ 1 none] : List Cond), w ∈ Ts) (hfr : 1 ≤ R.frames) (hlo : (st.map fun v => v.category).sum + 12 ≤ R.locals) (kk : gJ p l e R s m args below meth c cells slots Q E A nL ws lv n' st) : gJ p l e R s m args below meth c cells slots Q E A nL ws lv pc (.ref a :: st) := by
  intro H locs ls hP hD hS hl
  subst hp
  have ht := C.2.2.2.2.1
  have e : (F0 m pc ls (.ref a :: st)).monitorRoom = 0 := rfl
  exact W.objInit C.1 C.2.1 C.2.2.2.1 (ht _ (hm _ (by simp))) (ht _ (hm _ (by simp))) (ht _ (hm _ (by simp))) rfl (hl.1.trans C.2.2.1.symm) rfl hdg hfr (by rw [e]; omega) (kk H locs ls hP hD hS hl)
theorem g_new (n' : Nat) (C : gC p s m args meth c cc nL own Ts E A) (ci : Nat) {Cn : String} {T : u_T} {N index : Nat} (fs : List Value) (ty : Nat → FieldType) (hty : ∀ k, k < N → parseFieldDescriptor (T k).2.2.1 = some (ty k)) (hin : ∀ w ∈ u_ws Cn T N, w ∈ Ts) (hm : ∀ w ∈ ([Cond.classLink own index Cn, Cond.instantiable Cn N, Cond.initialized Cn] : List Cond), w ∈ Ts) (hdg : decode cc pc = .ok (.new index, 3)) (hp : pc + 3 = n') (hc : vwCl[ci]? = some (Cn, T, N)) (hfs : ∀ j, j < N → defaultValue (ty j) = vp_V fs j) (hcells : cells + 1 ≤ R.cells) (hslots : slots + N ≤ R.slots)
    (kk : ∀ a : Nat, gJ p l e R s m args below meth c (cells + 1) (slots + N) Q E A nL (ws ++ [(a, .inr (ci, fs))]) lv n' (.ref a :: st)) : gJ p l e R s m args below meth c cells slots Q E A nL ws lv pc st := by
  intro H locs ls hP hD hS hl
  subst hp
  have ht := C.2.2.2.2.1
  exact va_new C.1 C.2.1 ht hin ty hty C.2.2.2.1 (ht _ (hm _ (by simp))) (ht _ (hm _ (by simp))) (ht _ (hm _ (by simp))) C.2.2.2.2.2.1.1 hP hD hS C.2.2.2.2.2.2.1 hc hfs hcells hslots hdg (fun a H1 hP hD hS => kk a H1 locs ls hP hD hS hl)
theorem g_RAu {U : State} {c1 c2 : ClassId} {ty : FieldType} (h1 : va_RA U c1 ty) (h2 : va_RA U c2 ty) : c1 = c2 := by
  cases ty with
  | object C =>
    obtain ⟨k1, m1, a1, a2, a3, a4⟩ := h1
    obtain ⟨k2, m2, b1, b2, b3, b4⟩ := h2
    exact Option.some.inj (a4.symm.trans b4)
  | _ =>
    have a : U.vm.findClass _ = some c1 := h1
    have b : U.vm.findClass _ = some c2 := h2
    exact Option.some.inj (a.symm.trans b)
theorem g_newI (n' : Nat) (C : gC p s m args meth c cc nL own Ts E A) (N : Nat) (hm : Cond.arrayClass .int ∈ Ts) (hdg : decode cc pc = .ok (.newarray .int, 2)) (hp : pc + 2 = n') (hN : N < 100000) (hcells : cells + 1 ≤ R.cells) (hslots : slots + N ≤ R.slots)
    (kk : ∀ a : Nat, gJ p l e R s m args below meth c (cells + 1) (slots + N) Q E A nL (ws ++ [(a, aI E N (fun _ => 0))]) lv n' (.ref a :: st)) : gJ p l e R s m args below meth c cells slots Q E A nL ws lv pc (.int (iI N) :: st) := by
  intro H locs ls hP hD hS hl
  subst hp
  have ht := C.2.2.2.2.1
  refine va_newa (atype := .int) C.1 C.2.1 (ht _ hm) rfl C.2.2.2.2.2.1.1 hP hD hS C.2.2.2.2.2.2.1 (a0 := (N, .inl (fun _ => 0))) (fun cA => rfl) (fun q => by rw [← iI_0, iI_lt (by omega) (by omega) (by omega) (by omega)] at q; omega) (iI_nat N (by omega)) (by show N * 4 ≤ 536870912; omega) hcells hslots hdg (fun a cA H1 hK hP hD hS => ?_)
  have e := g_RAu ((hK.2 0 (E.2.1, .int) rfl).2) ((hK.2 3 (cA, .int) rfl).2)
  subst e
  exact kk a H1 locs ls hP hD hS hl
theorem g_newZ (n' : Nat) (C : gC p s m args meth c cc nL own Ts E A) (N : Nat) (hm : Cond.arrayClass .boolean ∈ Ts) (hdg : decode cc pc = .ok (.newarray .boolean, 2)) (hp : pc + 2 = n') (hN : N < 100000) (hcells : cells + 1 ≤ R.cells) (hslots : slots + N ≤ R.slots)
    (kk : ∀ a : Nat, gJ p l e R s m args below meth c (cells + 1) (slots + N) Q E A nL (ws ++ [(a, aZ E N (fun _ => 0))]) lv n' (.ref a :: st)) : gJ p l e R s m args below meth c cells slots Q E A nL ws lv pc (.int (iI N) :: st) := by
  intro H locs ls hP hD hS hl
  subst hp
  have ht := C.2.2.2.2.1
  refine va_newa (atype := .boolean) C.1 C.2.1 (ht _ hm) rfl C.2.2.2.2.2.1.1 hP hD hS C.2.2.2.2.2.2.1 (a0 := (N, .inl (fun _ => 0))) (fun cA => rfl) (fun q => by rw [← iI_0, iI_lt (by omega) (by omega) (by omega) (by omega)] at q; omega) (iI_nat N (by omega)) (by show N * 1 ≤ 536870912; omega) hcells hslots hdg (fun a cA H1 hK hP hD hS => ?_)
  have e := g_RAu ((hK.2 1 (E.2.2.1, .boolean) rfl).2) ((hK.2 3 (cA, .boolean) rfl).2)
  subst e
  exact kk a H1 locs ls hP hD hS hl
theorem g_newQ (n' : Nat) (C : gC p s m args meth c cc nL own Ts E A) (N : Nat) {index : Nat} (hm : Cond.classLink own index RX4 ∈ Ts) (hdg : decode cc pc = .ok (.anewarray index, 3)) (hp : pc + 3 = n') (hN : N < 100000) (hcells : cells + 1 ≤ R.cells) (hslots : slots + N ≤ R.slots)
    (kk : ∀ a : Nat, gJ p l e R s m args below meth c (cells + 1) (slots + N) Q E A nL (ws ++ [(a, aQ E N (fun _ => none))]) lv n' (.ref a :: st)) : gJ p l e R s m args below meth c cells slots Q E A nL ws lv pc (.int (iI N) :: st) := by
  intro H locs ls hP hD hS hl
  subst hp
  have ht := C.2.2.2.2.1
  refine va_newq C.1 C.2.1 C.2.2.2.1 (ht _ hm) C.2.2.2.2.2.1.2 C.2.2.2.2.2.1.1 hP hD hS C.2.2.2.2.2.2.1 (fun q => by rw [← iI_0, iI_lt (by omega) (by omega) (by omega) (by omega)] at q; omega) (iI_nat N (by omega)) (by omega) hcells hslots hdg (fun a cA H1 hK hP hD hS => ?_)
  have e := g_RAu ((hK.2 2 (E.2.2.2, .object RX4) rfl).2) ((hK.2 3 (cA, .object RX4) rfl).2)
  subst e
  exact kk a H1 locs ls hP hD hS hl
theorem g_aastore (n' : Nat) (C : gC p s m args meth c cc nL own Ts E A) (q qk : Nat) {a n v : Nat} {fs : List Value} {f : Int → Option Nat} {z : Int} {ws' : va_W} (hdg : decode cc pc = .ok (.aastore, 1)) (hp : pc + 1 = n') (he : ws[q]? = some (a, aQ E n f)) (hv : ws[qk]? = some (v, .inr (4, fs))) (hz : 0 ≤ z ∧ z < n ∧ n < 2147483648) (hw : ws.set q (a, aQ E n (uQ f z (some v))) = ws') (kk : gJ p l e R s m args below meth c cells slots Q E A nL ws' lv n' st) : gJ p l e R s m args below meth c cells slots Q E A nL ws lv pc (.ref v :: .int (iI z) :: .ref a :: st) := by
  intro H locs ls hP hD hS hl
  subst hp
  subst hw
  refine va_astq C.1 C.2.1 C.2.2.2.2.2.1.1 hP hD hS q 2 qk 4 (r := (RX4, TX4, 4)) he rfl hv rfl (iI_in hz.1 hz.2.1 hz.2.2) hdg (fun H1 locs1 hP hD hS => ?_)
  have e : va_up (fun k : Nat => f (k : Int)) (iI z).toNatClampNeg (some v) = fun k : Nat => uQ f z (some v) (k : Int) := by
    funext k
    rw [iI_clamp hz.1 (by omega)]
    unfold va_up uQ
    by_cases h : k = z.toNat
    · rw [if_pos h, if_pos (by omega)]
    · rw [if_neg h, if_neg (by omega)]
  rw [e] at hP hD
  exact kk H1 locs1 ls hP hD hS hl
end GL
end
section
/-! what the system says, as whole numbers: the picture -/
def nsd (W h : Int) : Int := (W - 1) * h + W * (h - 1)
def sdI (W h p e : Int) : Int := if e = 1 then (if p % W = W - 1 then -9 else p / W * (W - 1) + p % W) else if e = 3 then (if p % W = 0 then -9 else p / W * (W - 1) + (p % W - 1)) else if e = 2 then (if p / W = h - 1 then -9 else (W - 1) * h + p / W * W + p % W) else (if p / W = 0 then -9 else (W - 1) * h + (p / W - 1) * W + p % W)
theorem chk2 {P : Nat → Nat → Prop} [∀ W h, Decidable (P W h)] (h0 : ((List.range 6).all fun W => (List.range 6).all fun h => decide (P W h)) = true) (W h : Nat) (hW : W < 6) (hh : h < 6) : P W h :=
  of_decide_eq_true (List.all_eq_true.mp (List.all_eq_true.mp h0 W (List.mem_range.mpr hW)) h (List.mem_range.mpr hh))
theorem chk4 {P : Nat → Nat → Nat → Nat → Prop} [∀ W h p e, Decidable (P W h p e)] (h0 : ((List.range 6).all fun W => (List.range 6).all fun h => (List.range 25).all fun p => (List.range 4).all fun e => decide (P W h p e)) = true) (W h p e : Nat) (hW : W < 6) (hh : h < 6) (hp : p < 25) (he : e < 4) : P W h p e :=
  of_decide_eq_true (List.all_eq_true.mp (List.all_eq_true.mp (List.all_eq_true.mp (List.all_eq_true.mp h0 W (List.mem_range.mpr hW)) h (List.mem_range.mpr hh)) p (List.mem_range.mpr hp)) e (List.mem_range.mpr he))
theorem nsd_nat (W h : Nat) (hW : W < 6) (hh : h < 6) : 1 ≤ W → 1 ≤ h → 0 ≤ nsd (W : Nat) (h : Nat) ∧ nsd W h ≤ 40 ∧ 1 ≤ (W : Int) * h ∧ (W : Int) * h ≤ 25 := chk2 (P := fun W h => 1 ≤ W → 1 ≤ h → 0 ≤ nsd (W : Nat) (h : Nat) ∧ nsd W h ≤ 40 ∧ 1 ≤ (W : Int) * h ∧ (W : Int) * h ≤ 25) (by decide +kernel) W h hW hh
theorem nsd_b {W h : Int} (hB : 1 ≤ W ∧ W ≤ 5 ∧ 1 ≤ h ∧ h ≤ 5) : 0 ≤ nsd W h ∧ nsd W h ≤ 40 ∧ 1 ≤ W * h ∧ W * h ≤ 25 := by
  obtain ⟨w, rfl⟩ := Int.eq_ofNat_of_zero_le (show 0 ≤ W by omega)
  obtain ⟨k, rfl⟩ := Int.eq_ofNat_of_zero_le (show 0 ≤ h by omega)
  exact nsd_nat w k (by omega) (by omega) (by omega) (by omega)
theorem sdI_nat (W h p e : Nat) (hW : W < 6) (hh : h < 6) (hp : p < 25) (he : e < 4) : 1 ≤ W → 1 ≤ h → p < W * h → (sdI (W : Nat) (h : Nat) (p : Nat) (e : Nat) = -9 ∨ (0 ≤ sdI W h p e ∧ sdI W h p e < nsd W h)) := chk4 (P := fun W h p e => 1 ≤ W → 1 ≤ h → p < W * h → (sdI (W : Nat) (h : Nat) (p : Nat) (e : Nat) = -9 ∨ (0 ≤ sdI W h p e ∧ sdI W h p e < nsd W h))) (by decide +kernel) W h p e hW hh hp he
theorem sdI_b {W h p e : Int} (hB : 1 ≤ W ∧ W ≤ 5 ∧ 1 ≤ h ∧ h ≤ 5) (hp : 0 ≤ p ∧ p < W * h) (he : 0 ≤ e ∧ e < 4) : sdI W h p e = -9 ∨ (0 ≤ sdI W h p e ∧ sdI W h p e < nsd W h) := by
  obtain ⟨w, rfl⟩ := Int.eq_ofNat_of_zero_le (show 0 ≤ W by omega)
  obtain ⟨k, rfl⟩ := Int.eq_ofNat_of_zero_le (show 0 ≤ h by omega)
  obtain ⟨q, rfl⟩ := Int.eq_ofNat_of_zero_le hp.1
  obtain ⟨f, rfl⟩ := Int.eq_ofNat_of_zero_le he.1
  have hn := nsd_nat w k (by omega) (by omega) (by omega) (by omega)
  have hq : q < w * k := by
    have := hp.2
    rw [← Int.natCast_mul] at this
    omega
  exact sdI_nat w k q f (by omega) (by omega) (by have := hn.2.2.2; omega) (by omega) (by omega) (by omega) hq
def nxI (W p e : Int) : Int := if e = 0 then p - W else if e = 1 then p + 1 else if e = 2 then p + W else p - 1
def htI (hs : Int → Int) (s i w : Int) : Int := if w = 0 then hs (s * 5 + i) else - hs (s * 5 + (4 - i))
def wyI (e : Int) : Int := if e = 1 ∨ e = 2 then 0 else 1
def ehI (W h : Int) (hs : Int → Int) (p e i : Int) : Int := htI hs (sdI W h p e) i (wyI e)
def abI (z : Int) : Int := if 0 ≤ z then z else -z
def frI (W h : Int) (hs : Int → Int) (p e q f : Int) : Int := 0 + abI (ehI W h hs p e 0 + ehI W h hs q f 4) + abI (ehI W h hs p e 1 + ehI W h hs q f 3) + abI (ehI W h hs p e 2 + ehI W h hs q f 2) + abI (ehI W h hs p e 3 + ehI W h hs q f 1) + abI (ehI W h hs p e 4 + ehI W h hs q f 0)
def smI (hs : Int → Int) (s : Int) : Int := 0 + hs (s * 5 + 0) + hs (s * 5 + 1) + hs (s * 5 + 2) + hs (s * 5 + 3) + hs (s * 5 + 4)
def hB9 (hs : Int → Int) : Prop := ∀ i, -9 ≤ hs i ∧ hs i ≤ 9
theorem htI_b {hs : Int → Int} (hh : hB9 hs) (s i w : Int) : -9 ≤ htI hs s i w ∧ htI hs s i w ≤ 9 := by
  unfold htI
  split
  · exact hh _
  · have := hh (s * 5 + (4 - i)); omega
theorem ehI_b {W h : Int} {hs : Int → Int} (hh : hB9 hs) (p e i : Int) : -9 ≤ ehI W h hs p e i ∧ ehI W h hs p e i ≤ 9 := htI_b hh _ _ _
theorem abI_b {a b : Int} (ha : -9 ≤ a ∧ a ≤ 9) (hb : -9 ≤ b ∧ b ≤ 9) : 0 ≤ abI (a + b) ∧ abI (a + b) ≤ 18 := by unfold abI; split <;> omega
theorem frI_b {W h : Int} {hs : Int → Int} (hh : hB9 hs) (p e q f : Int) : 0 ≤ frI W h hs p e q f ∧ frI W h hs p e q f ≤ 90 := by
  have h0 := abI_b (ehI_b (W := W) (h := h) hh p e 0) (ehI_b (W := W) (h := h) hh q f 4)
  have h1 := abI_b (ehI_b (W := W) (h := h) hh p e 1) (ehI_b (W := W) (h := h) hh q f 3)
  have h2 := abI_b (ehI_b (W := W) (h := h) hh p e 2) (ehI_b (W := W) (h := h) hh q f 2)
  have h3 := abI_b (ehI_b (W := W) (h := h) hh p e 3) (ehI_b (W := W) (h := h) hh q f 1)
  have h4 := abI_b (ehI_b (W := W) (h := h) hh p e 4) (ehI_b (W := W) (h := h) hh q f 0)
  unfold frI; omega
end
section
/-! counts, and what the picture's searches say -/
noncomputable abbrev cI (P : Prop) (a b : Int) : Int := @ite Int P (Classical.propDecidable P) a b
theorem cI_t {P : Prop} {a b : Int} (h : P) : cI P a b = a := if_pos h
theorem cI_f {P : Prop} {a b : Int} (h : ¬ P) : cI P a b = b := if_neg h
theorem cI_c {P Q : Prop} {a b : Int} (h : P ↔ Q) : cI P a b = cI Q a b := by
  by_cases q : Q
  · rw [cI_t q, cI_t (h.mpr q)]
  · rw [cI_f q, cI_f (fun z => q (h.mp z))]
noncomputable def cnN (P : Int → Prop) : Nat → Int
  | 0 => 0
  | n + 1 => cnN P n + cI (P (n : Int)) 1 0
noncomputable def cnI (P : Int → Prop) (i : Int) : Int := cnN P i.toNat
theorem cnI_0 (P : Int → Prop) : cnI P 0 = 0 := rfl
theorem cnI_s (P : Int → Prop) {i : Int} (h : 0 ≤ i) : cnI P (i + 1) = cnI P i + cI (P i) 1 0 := by
  obtain ⟨n, rfl⟩ := Int.eq_ofNat_of_zero_le h
  rfl
theorem cnI_st (P : Int → Prop) {i : Int} (h : 0 ≤ i) (q : P i) : cnI P (i + 1) = cnI P i + 1 := by rw [cnI_s P h, cI_t q]
theorem cnI_sf (P : Int → Prop) {i : Int} (h : 0 ≤ i) (q : ¬ P i) : cnI P (i + 1) = cnI P i := by rw [cnI_s P h, cI_f q, Int.add_zero]
theorem cnN_b (P : Int → Prop) : ∀ n : Nat, 0 ≤ cnN P n ∧ cnN P n ≤ n
  | 0 => ⟨Int.le_refl _, Int.le_refl _⟩
  | n + 1 => by
    have h := cnN_b P n
    show 0 ≤ cnN P n + cI (P n) 1 0 ∧ cnN P n + cI (P n) 1 0 ≤ ((n + 1 : Nat) : Int)
    by_cases q : P (n : Int)
    · rw [cI_t q]; omega
    · rw [cI_f q]; omega
theorem cnI_b (P : Int → Prop) {i : Int} (h : 0 ≤ i) : 0 ≤ cnI P i ∧ cnI P i ≤ i := by
  have := cnN_b P i.toNat
  unfold cnI
  omega
theorem cnI_ind {M : Int → Prop} (h0 : M 0) (hs : ∀ i, 0 ≤ i → M i → M (i + 1)) {i : Int} (h : 0 ≤ i) : M i := by
  obtain ⟨n, rfl⟩ := Int.eq_ofNat_of_zero_le h
  induction n with
  | zero => exact h0
  | succ n ih => exact hs _ (by omega) (ih (by omega))
theorem cnI_z (P : Int → Prop) {i : Int} (h : 0 ≤ i) : cnI P i = 0 ↔ ∀ j, 0 ≤ j → j < i → ¬ P j := by
  refine cnI_ind (M := fun i => cnI P i = 0 ↔ ∀ j, 0 ≤ j → j < i → ¬ P j) ⟨fun _ j h1 h2 => absurd h1 (by omega), fun _ => rfl⟩ ?_ h
  intro i hi ih
  have hb := cnI_b P hi
  by_cases q : P i
  · rw [cnI_st P hi q]
    exact ⟨fun z => by omega, fun z => absurd q (z i hi (by omega))⟩
  · rw [cnI_sf P hi q, ih]
    refine ⟨fun z j h1 h2 => ?_, fun z j h1 h2 => z j h1 (by omega)⟩
    by_cases e : j = i
    · rw [e]; exact q
    · exact z j h1 (by omega)
theorem cnI_f (P : Int → Prop) {i : Int} (h : 0 ≤ i) : cnI P i = i ↔ ∀ j, 0 ≤ j → j < i → P j := by
  refine cnI_ind (M := fun i => cnI P i = i ↔ ∀ j, 0 ≤ j → j < i → P j) ⟨fun _ j h1 h2 => absurd h1 (by omega), fun _ => rfl⟩ ?_ h
  intro i hi ih
  have hb := cnI_b P hi
  by_cases q : P i
  · rw [cnI_st P hi q]
    refine ⟨fun z j h1 h2 => ?_, fun z => by have := ih.mpr (fun j h1 h2 => z j h1 (by omega)); omega⟩
    by_cases e : j = i
    · rw [e]; exact q
    · exact ih.mp (by omega) j h1 (by omega)
  · rw [cnI_sf P hi q]
    exact ⟨fun z => by omega, fun z => absurd (z i hi (by omega)) q⟩
theorem cnI_c {P Q : Int → Prop} {i : Int} (h : 0 ≤ i) (hpq : ∀ j, 0 ≤ j → j < i → (P j ↔ Q j)) : cnI P i = cnI Q i := by
  have key : ∀ k, 0 ≤ k → k ≤ i → cnI P k = cnI Q k := by
    intro k hk
    refine cnI_ind (M := fun k => k ≤ i → cnI P k = cnI Q k) (fun _ => rfl) ?_ hk
    intro k hk ih hle
    rw [cnI_s P hk, cnI_s Q hk, ih (by omega), cI_c (hpq k hk (by omega))]
  exact key i h (Int.le_refl _)
def blI (hs : Int → Int) (s : Int) : Prop := (∀ j, 0 ≤ j → j < 5 → 0 < htI hs s j 0) ∨ (∀ j, 0 ≤ j → j < 5 → htI hs s j 0 < 0)
noncomputable def dfI (hs : Int → Int) (s o w : Int) : Int := cnI (fun j => htI hs s j 0 ≠ htI hs o j w) 5
noncomputable def kdI (hs : Int → Int) (n s : Int) : Int := cI (blI hs s) (cI (∃ k, 0 ≤ k ∧ k < n ∧ k ≠ s ∧ (dfI hs s k 0 = 0 ∨ dfI hs s k 1 = 0)) 2 1) 0
theorem kdI_b (hs : Int → Int) (n s : Int) : 0 ≤ kdI hs n s ∧ kdI hs n s ≤ 2 := by
  unfold kdI
  by_cases h : blI hs s
  · rw [cI_t h]
    by_cases q : ∃ k, 0 ≤ k ∧ k < n ∧ k ≠ s ∧ (dfI hs s k 0 = 0 ∨ dfI hs s k 1 = 0)
    · rw [cI_t q]; omega
    · rw [cI_f q]; omega
  · rw [cI_f h]; omega
def gvI (hs : Int → Int) (a b w i : Int) : Int → Int := fun j => if a * 5 ≤ j ∧ j < a * 5 + i then htI hs b (j - a * 5) w else hs j
theorem gvI_0 (hs : Int → Int) (a b w : Int) : gvI hs a b w 0 = hs := by
  funext j
  exact if_neg (by omega)
theorem gvI_s {hs : Int → Int} {a b w i : Int} (hab : a ≠ b) (h0 : 0 ≤ i) (h5 : i < 5) : uI (gvI hs a b w i) (a * 5 + i) (htI (gvI hs a b w i) b i w) = gvI hs a b w (i + 1) := by
  have e : htI (gvI hs a b w i) b i w = htI hs b i w := by
    have e1 : gvI hs a b w i (b * 5 + i) = hs (b * 5 + i) := if_neg (by omega)
    have e2 : gvI hs a b w i (b * 5 + (4 - i)) = hs (b * 5 + (4 - i)) := if_neg (by omega)
    unfold htI
    rw [e1, e2]
  rw [e]
  funext j
  unfold uI gvI
  by_cases h : j = a * 5 + i
  · rw [if_pos h, if_pos (by omega), show j - a * 5 = i by omega]
  · rw [if_neg h]
    by_cases q : a * 5 ≤ j ∧ j < a * 5 + i
    · rw [if_pos q, if_pos (by omega)]
    · rw [if_neg q, if_neg (by omega)]
def zrI (f : Int → Int) (n : Int) : Int → Int := fun j => if 0 ≤ j ∧ j < n then 0 else f j
theorem zrI_0 (f : Int → Int) : zrI f 0 = f := by
  funext j
  exact if_neg (by omega)
theorem zrI_s (f : Int → Int) {i : Int} (h : 0 ≤ i) : uI (zrI f i) i 0 = zrI f (i + 1) := by
  funext j
  unfold uI zrI
  by_cases e : j = i
  · rw [if_pos e, if_pos (by omega)]
  · rw [if_neg e]
    by_cases q : 0 ≤ j ∧ j < i
    · rw [if_pos q, if_pos (by omega)]
    · rw [if_neg q, if_neg (by omega)]
def saI (W h : Int) (hs : Int → Int) (a b : Int) : Int := if a / 4 = b / 4 ∨ sdI W h (a / 4) (a % 4) = -9 ∨ sdI W h (b / 4) (b % 4) = -9 ∨ sdI W h (a / 4) (a % 4) = sdI W h (b / 4) (b % 4) then -9 else frI W h hs (a / 4) (a % 4) (b / 4) (b % 4)
theorem saI_b {W h : Int} {hs : Int → Int} (hh : hB9 hs) (a b : Int) : saI W h hs a b = -9 ∨ (0 ≤ saI W h hs a b ∧ saI W h hs a b ≤ 90) := by
  unfold saI
  split
  · exact Or.inl rfl
  · exact Or.inr (frI_b hh _ _ _ _)
/-- r is the least of saI over the pairs that are done, or -9 where there is none -/
def lfP (W h : Int) (hs : Int → Int) (D : Int → Int → Prop) (r : Int) : Prop := (r = -9 ∧ ∀ a b, D a b → saI W h hs a b = -9) ∨ (0 ≤ r ∧ r ≤ 90 ∧ (∃ a b, D a b ∧ saI W h hs a b = r) ∧ ∀ a b, D a b → saI W h hs a b = -9 ∨ r ≤ saI W h hs a b)
theorem lfP_c {W h : Int} {hs : Int → Int} {D D' : Int → Int → Prop} {r : Int} (hd : ∀ a b, D a b ↔ D' a b) (q : lfP W h hs D r) : lfP W h hs D' r := by
  have e : D = D' := by funext a b; exact propext (hd a b)
  rw [← e]; exact q
theorem lfP_u {W h : Int} {hs : Int → Int} {D : Int → Int → Prop} {r t : Int} (q : lfP W h hs D r) (q' : lfP W h hs D t) : r = t := by
  rcases q with ⟨e, q⟩ | ⟨a0, a1, ⟨a, b, a2, a3⟩, a4⟩ <;> rcases q' with ⟨e', q'⟩ | ⟨b0, b1, ⟨c, d, b2, b3⟩, b4⟩
  · omega
  · have := q c d b2; omega
  · have := q' a b a2; omega
  · have x := a4 c d b2
    have y := b4 a b a2
    omega
theorem lfP_0 {W h : Int} {hs : Int → Int} {D : Int → Int → Prop} (hd : ∀ a b, ¬ D a b) : lfP W h hs D (-9) := Or.inl ⟨rfl, fun a b h => absurd h (hd a b)⟩
/-- one pair more -/
theorem lfP_s {W h : Int} {hs : Int → Int} {D D' : Int → Int → Prop} {r c d : Int} (hh : hB9 hs) (q : lfP W h hs D r) (hd : ∀ a b, D' a b ↔ D a b ∨ (a = c ∧ b = d)) : lfP W h hs D' (if saI W h hs c d ≠ -9 ∧ (r = -9 ∨ saI W h hs c d < r) then saI W h hs c d else r) := by
  have hb := saI_b (W := W) (h := h) hh c d
  split
  · rename_i hz
    refine Or.inr ⟨by omega, by omega, ⟨c, d, (hd c d).mpr (Or.inr ⟨rfl, rfl⟩), rfl⟩, fun a b hab => ?_⟩
    rcases (hd a b).mp hab with z | ⟨rfl, rfl⟩
    · rcases q with ⟨e, q⟩ | ⟨a0, -, -, q⟩
      · exact Or.inl (q a b z)
      · rcases q a b z with y | y
        · exact Or.inl y
        · exact Or.inr (by omega)
    · exact Or.inr (Int.le_refl _)
  · rename_i hz
    rcases q with ⟨e, q⟩ | ⟨a0, a1, ⟨a, b, a2, a3⟩, q⟩
    · refine Or.inl ⟨e, fun a b hab => ?_⟩
      rcases (hd a b).mp hab with z | ⟨rfl, rfl⟩
      · exact q a b z
      · omega
    · refine Or.inr ⟨a0, a1, ⟨a, b, (hd a b).mpr (Or.inl a2), a3⟩, fun a b hab => ?_⟩
      rcases (hd a b).mp hab with z | ⟨rfl, rfl⟩
      · exact q a b z
      · omega
/-! sums; pairs of edges that are near; the table of edges; the heap's row; a sheet's cell cut to its lane; the draw -/
noncomputable def suN (f : Int → Int) : Nat → Int
  | 0 => 0
  | n + 1 => suN f n + f (n : Int)
noncomputable def suI (f : Int → Int) (i : Int) : Int := suN f i.toNat
theorem suI_0 (f : Int → Int) : suI f 0 = 0 := rfl
theorem suI_s (f : Int → Int) {i : Int} (h : 0 ≤ i) : suI f (i + 1) = suI f i + f i := by
  obtain ⟨n, rfl⟩ := Int.eq_ofNat_of_zero_le h
  rfl
def pwP (W h : Int) (hs : Int → Int) (d a b : Int) : Prop := a < b ∧ saI W h hs a b ≠ -9 ∧ saI W h hs a b ≤ d
noncomputable def pwR (W h : Int) (hs : Int → Int) (d a : Int) : Int := cnI (pwP W h hs d a) (W * h * 4)
noncomputable def pwI (W h : Int) (hs : Int → Int) (d : Int) : Int := suI (pwR W h hs d) (W * h * 4)
theorem idx_b {W h x y : Int} (hB : 1 ≤ W ∧ W ≤ 5 ∧ 1 ≤ h ∧ h ≤ 5) (hx : 0 ≤ x ∧ x < W) (hy : 0 ≤ y ∧ y < h) : 0 ≤ W * y ∧ W * y + x < W * h := by
  have h1 : W * y ≤ W * (h - 1) := Int.mul_le_mul_of_nonneg_left (by omega) (by omega)
  rw [Int.mul_sub, Int.mul_one] at h1
  have h2 : 0 ≤ W * y := Int.mul_nonneg (by omega) hy.1
  omega
def leI (W h : Int) (se : Int → Int) (x y : Int) : Int → Int :=
  uI (uI (uI (uI se ((W * y + x) * 4 + 0) (if y = 0 then -9 else (W - 1) * h + W * y + x - W)) ((W * y + x) * 4 + 1) (if x = W - 1 then -9 else (W - 1) * y + x)) ((W * y + x) * 4 + 2) (if y = h - 1 then -9 else (W - 1) * h + W * y + x)) ((W * y + x) * 4 + 3) (if x = 0 then -9 else (W - 1) * y + x - 1)
theorem uI_eq (f : Int → Int) (z v : Int) : uI f z v z = v := if_pos rfl
theorem uI_ne {f : Int → Int} {z v j : Int} (h : j ≠ z) : uI f z v j = f j := if_neg h
theorem sdI_e0 (W h p : Int) : sdI W h p 0 = if p / W = 0 then -9 else (W - 1) * h + (p / W - 1) * W + p % W := rfl
theorem sdI_e1 (W h p : Int) : sdI W h p 1 = if p % W = W - 1 then -9 else p / W * (W - 1) + p % W := rfl
theorem sdI_e2 (W h p : Int) : sdI W h p 2 = if p / W = h - 1 then -9 else (W - 1) * h + p / W * W + p % W := rfl
theorem sdI_e3 (W h p : Int) : sdI W h p 3 = if p % W = 0 then -9 else p / W * (W - 1) + (p % W - 1) := rfl
theorem leI_s {W h x y : Int} {se : Int → Int} (hB : 1 ≤ W ∧ W ≤ 5 ∧ 1 ≤ h ∧ h ≤ 5) (hx : 0 ≤ x ∧ x < W) (hy : 0 ≤ y ∧ y < h) (hf : ∀ p e : Int, 0 ≤ p ∧ p < W * y + x → 0 ≤ e ∧ e < 4 → se (p * 4 + e) = sdI W h p e) : ∀ p e : Int, 0 ≤ p ∧ p < W * y + (x + 1) → 0 ≤ e ∧ e < 4 → leI W h se x y (p * 4 + e) = sdI W h p e := by
  intro p e hp he
  have hi := idx_b hB hx hy
  by_cases q : p = W * y + x
  · have hm : p % W = x := by rw [q, Int.add_comm, Int.add_mul_emod_self_left]; exact Int.emod_eq_of_lt hx.1 hx.2
    have hd : p / W = y := by rw [q, Int.add_comm, Int.add_mul_ediv_left _ _ (by omega), Int.ediv_eq_zero_of_lt hx.1 hx.2, Int.zero_add]
    unfold leI
    rw [← q]
    have h4 : e = 0 ∨ e = 1 ∨ e = 2 ∨ e = 3 := by omega
    have c1 : y * (W - 1) = (W - 1) * y := Int.mul_comm _ _
    have c2 : y * W = W * y := Int.mul_comm _ _
    have c3 : (y - 1) * W = W * y - W := by rw [Int.sub_mul, Int.one_mul, c2]
    rcases h4 with rfl | rfl | rfl | rfl
    · rw [uI_ne (by omega), uI_ne (by omega), uI_ne (by omega), uI_eq, sdI_e0, hd, hm, c3]
      split
      · rfl
      · omega
    · rw [uI_ne (by omega), uI_ne (by omega), uI_eq, sdI_e1, hd, hm, c1]
    · rw [uI_ne (by omega), uI_eq, sdI_e2, hd, hm, c2]
    · rw [uI_eq, sdI_e3, hd, hm, c1]
      split
      · rfl
      · omega
  · unfold leI
    rw [uI_ne (by omega), uI_ne (by omega), uI_ne (by omega), uI_ne (by omega)]
    exact hf p e (by omega) he
def rmI (f : Int → Int) (i n : Int) : Int → Int := fun j => if i ≤ j ∧ j < n - 1 then f (j + 1) else f j
theorem rmI_0 (f : Int → Int) (i : Int) : rmI f i (i + 1) = f := by
  funext j
  exact if_neg (by omega)
theorem rmI_s (f : Int → Int) {i k : Int} (h : i < k) : uI (rmI f i k) (k - 1) (rmI f i k k) = rmI f i (k + 1) := by
  have e : rmI f i k k = f k := if_neg (by omega)
  rw [e]
  funext j
  unfold uI rmI
  by_cases q : j = k - 1
  · rw [if_pos q, if_pos (by omega), show j + 1 = k by omega]
  · rw [if_neg q]
    by_cases z : i ≤ j ∧ j < k - 1
    · rw [if_pos z, if_pos (by omega)]
    · rw [if_neg z, if_neg (by omega)]
def cuI (ln v : Int) : Int := if ln = 0 then (iI v).toInt8.toInt32.toInt else if ln = 1 then (iI v).toInt16.toInt32.toInt else v
theorem cuI_0 {ln v : Int} (h : ln = 0) : iI (cuI ln v) = (iI v).toInt8.toInt32 := by
  unfold cuI
  rw [if_pos h, iI_of]
theorem cuI_1 {ln v : Int} (h : ln = 1) : iI (cuI ln v) = (iI v).toInt16.toInt32 := by
  unfold cuI
  rw [if_neg (by omega), if_pos h, iI_of]
theorem cuI_2 {ln v : Int} (h : ln ≠ 0 ∧ ln ≠ 1) : cuI ln v = v := by
  unfold cuI
  rw [if_neg h.1, if_neg h.2]
/-- the draw: the next, and what it gives below n -/
def dnI (x : Int64) : Int64 := x * lI 6364136223846793005 + lI 1442695040888963407
def dvI (x : Int64) (n : Int) : Int := ((x &&& lI 2147483647) / lI 4096 - (x &&& lI 2147483647) / lI 4096 / lI n * lI n).toInt32.toInt
end
section
/-! the search: what fits, and the machine of its trials -/
def edI (tn : Int → Int) (v d : Int) : Int := (d + 8 - tn (v / 4) - v % 4) % 4
def ftF (W h : Int) (pc tn : Int → Int) (v d : Int) : Prop := sdI W h (pc (v / 4)) (edI tn v d) = -9
def ftM (W h : Int) (hs pc tn : Int → Int) (v e w f : Int) : Prop := ¬ ftF W h pc tn v e ∧ ¬ ftF W h pc tn w f ∧ frI W h hs (pc (v / 4)) (edI tn v e) (pc (w / 4)) (edI tn w f) = 0
def FT (W h : Int) (hs pc tn : Int → Int) (q : Int → Int) (k : Int) : Prop :=
  ((ftF W h pc tn (q k) 0 ↔ k / W = 0) ∧ (ftF W h pc tn (q k) 1 ↔ k % W = W - 1) ∧ (ftF W h pc tn (q k) 2 ↔ k / W = h - 1) ∧ (ftF W h pc tn (q k) 3 ↔ k % W = 0)) ∧ (k / W = 0 ∨ ftM W h hs pc tn (q k) 0 (q (k - W)) 2) ∧ (k % W = 0 ∨ ftM W h hs pc tn (q k) 3 (q (k - 1)) 1)
def coI (W h : Int) (hs : Int → Int) (p e : Int) : Int := ((((0 * 19 + 9 + ehI W h hs p e 0) * 19 + 9 + ehI W h hs p e 1) * 19 + 9 + ehI W h hs p e 2) * 19 + 9 + ehI W h hs p e 3) * 19 + 9 + ehI W h hs p e 4
def maI (W h : Int) (hs : Int → Int) (p e : Int) : Int := ((((0 * 19 + 9 - ehI W h hs p e 4) * 19 + 9 - ehI W h hs p e 3) * 19 + 9 - ehI W h hs p e 2) * 19 + 9 - ehI W h hs p e 1) * 19 + 9 - ehI W h hs p e 0
theorem coI_b {W h : Int} {hs : Int → Int} (hh : hB9 hs) (p e : Int) : 0 ≤ coI W h hs p e ∧ coI W h hs p e < 2476099 := by
  have h0 := ehI_b (W := W) (h := h) hh p e 0
  have h1 := ehI_b (W := W) (h := h) hh p e 1
  have h2 := ehI_b (W := W) (h := h) hh p e 2
  have h3 := ehI_b (W := W) (h := h) hh p e 3
  have h4 := ehI_b (W := W) (h := h) hh p e 4
  unfold coI; omega
theorem maI_b {W h : Int} {hs : Int → Int} (hh : hB9 hs) (p e : Int) : 0 ≤ maI W h hs p e ∧ maI W h hs p e < 2476099 := by
  have h0 := ehI_b (W := W) (h := h) hh p e 0
  have h1 := ehI_b (W := W) (h := h) hh p e 1
  have h2 := ehI_b (W := W) (h := h) hh p e 2
  have h3 := ehI_b (W := W) (h := h) hh p e 3
  have h4 := ehI_b (W := W) (h := h) hh p e 4
  unfold maI; omega
theorem abI_0 {z : Int} : abI z = 0 ↔ z = 0 := by unfold abI; split <;> omega
theorem abI_n (z : Int) : 0 ≤ abI z := by unfold abI; split <;> omega
theorem frI_z {W h : Int} {hs : Int → Int} (p e q f : Int) : frI W h hs p e q f = 0 ↔ (ehI W h hs p e 0 = - ehI W h hs q f 4 ∧ ehI W h hs p e 1 = - ehI W h hs q f 3 ∧ ehI W h hs p e 2 = - ehI W h hs q f 2 ∧ ehI W h hs p e 3 = - ehI W h hs q f 1 ∧ ehI W h hs p e 4 = - ehI W h hs q f 0) := by
  unfold frI
  have a0 := abI_n (ehI W h hs p e 0 + ehI W h hs q f 4)
  have a1 := abI_n (ehI W h hs p e 1 + ehI W h hs q f 3)
  have a2 := abI_n (ehI W h hs p e 2 + ehI W h hs q f 2)
  have a3 := abI_n (ehI W h hs p e 3 + ehI W h hs q f 1)
  have a4 := abI_n (ehI W h hs p e 4 + ehI W h hs q f 0)
  have b0 := @abI_0 (ehI W h hs p e 0 + ehI W h hs q f 4)
  have b1 := @abI_0 (ehI W h hs p e 1 + ehI W h hs q f 3)
  have b2 := @abI_0 (ehI W h hs p e 2 + ehI W h hs q f 2)
  have b3 := @abI_0 (ehI W h hs p e 3 + ehI W h hs q f 1)
  have b4 := @abI_0 (ehI W h hs p e 4 + ehI W h hs q f 0)
  constructor
  · intro z
    have c0 := b0.mp (by omega)
    have c1 := b1.mp (by omega)
    have c2 := b2.mp (by omega)
    have c3 := b3.mp (by omega)
    have c4 := b4.mp (by omega)
    omega
  · intro z
    have c0 := b0.mpr (by omega)
    have c1 := b1.mpr (by omega)
    have c2 := b2.mpr (by omega)
    have c3 := b3.mpr (by omega)
    have c4 := b4.mpr (by omega)
    omega
theorem dig5 {a b c d e a' b' c' d' e' : Int} (ha : -9 ≤ a ∧ a ≤ 9) (hb : -9 ≤ b ∧ b ≤ 9) (hc : -9 ≤ c ∧ c ≤ 9) (hd : -9 ≤ d ∧ d ≤ 9) (he : -9 ≤ e ∧ e ≤ 9) (ha' : -9 ≤ a' ∧ a' ≤ 9) (hb' : -9 ≤ b' ∧ b' ≤ 9) (hc' : -9 ≤ c' ∧ c' ≤ 9) (hd' : -9 ≤ d' ∧ d' ≤ 9) (he' : -9 ≤ e' ∧ e' ≤ 9)
    (q : ((((0 * 19 + 9 + a) * 19 + 9 + b) * 19 + 9 + c) * 19 + 9 + d) * 19 + 9 + e = ((((0 * 19 + 9 - a') * 19 + 9 - b') * 19 + 9 - c') * 19 + 9 - d') * 19 + 9 - e') : a = -a' ∧ b = -b' ∧ c = -c' ∧ d = -d' ∧ e = -e' := by
  have h5 : e = -e' := by omega
  have h4 : d = -d' := by omega
  have h3 : c = -c' := by omega
  have h2 : b = -b' := by omega
  omega
theorem coI_ma {W h : Int} {hs : Int → Int} (hh : hB9 hs) (p e q f : Int) : coI W h hs p e = maI W h hs q f ↔ frI W h hs p e q f = 0 := by
  rw [frI_z]
  unfold coI maI
  constructor
  · intro z
    exact dig5 (ehI_b hh p e 0) (ehI_b hh p e 1) (ehI_b hh p e 2) (ehI_b hh p e 3) (ehI_b hh p e 4) (ehI_b hh q f 4) (ehI_b hh q f 3) (ehI_b hh q f 2) (ehI_b hh q f 1) (ehI_b hh q f 0) z
  · rintro ⟨z0, z1, z2, z3, z4⟩
    omega
theorem FT_c {W h : Int} {hs pc tn q q' : Int → Int} {k : Int} (hB : 1 ≤ W ∧ W ≤ 5 ∧ 1 ≤ h ∧ h ≤ 5) (hk : 0 ≤ k) (hq : ∀ j, 0 ≤ j ∧ j ≤ k → q j = q' j) : FT W h hs pc tn q k ↔ FT W h hs pc tn q' k := by
  unfold FT
  rw [hq k ⟨hk, Int.le_refl _⟩]
  by_cases c1 : k / W = 0
  · by_cases c2 : k % W = 0
    · simp only [c1, c2, true_or]
    · have hk1 : 0 ≤ k - 1 := by
        by_cases z : k = 0
        · rw [z, Int.zero_emod] at c2; omega
        · omega
      rw [hq (k - 1) ⟨hk1, by omega⟩]
      simp only [c1, true_or]
  · have hkW : 0 ≤ k - W := by
      by_cases z : k < W
      · rw [Int.ediv_eq_zero_of_lt hk z] at c1; omega
      · omega
    rw [hq (k - W) ⟨hkW, by omega⟩, hq (k - 1) ⟨by omega, by omega⟩]
abbrev gS : Type := Int × (Int → Int) × (Int → Int) × Int × Int
def skN (u : Int → Int) (n : Int) : Nat → Int → Int
  | 0, a => a
  | m + 1, a => if a < n ∧ u a ≠ 0 then skN u n m (a + 1) else a
def skp (u : Int → Int) (n a : Int) : Int := skN u n 30 a
theorem skN_u {u : Int → Int} {n : Int} : ∀ (m : Nat) (a b : Int), a ≤ b → b - a ≤ m → (∀ j, a ≤ j → j < b → j < n ∧ u j ≠ 0) → (n ≤ b ∨ u b = 0) → skN u n m a = b
  | 0, a, b, h1, h2, _, _ => by show a = b; omega
  | m + 1, a, b, h1, h2, h3, h4 => by
    show (if a < n ∧ u a ≠ 0 then skN u n m (a + 1) else a) = b
    by_cases e : a = b
    · subst e
      rw [if_neg (by intro q; rcases h4 with z | z <;> omega)]
    · rw [if_pos (h3 a (Int.le_refl _) (by omega))]
      exact skN_u m (a + 1) b (by omega) (by omega) (fun j h5 h6 => h3 j (by omega) h6) h4
theorem skp_u {u : Int → Int} {n a b : Int} (h0 : 0 ≤ a) (hn : n ≤ 25) (h1 : a ≤ b) (hb : b ≤ 26) (h3 : ∀ j, a ≤ j → j < b → j < n ∧ u j ≠ 0) (h4 : n ≤ b ∨ u b = 0) : skp u n a = b := skN_u 30 a b h1 (by omega) h3 h4
noncomputable def stA (F : (Int → Int) → Int → Prop) (n N fo k : Int) (q u : Int → Int) (tc fd a v : Int) : gS :=
  if n ≤ a then (if k = 0 then (-1, uI q k v, u, tc, fd) else (k - 1, uI q k v, uI u (uI q k v (k - 1) / 4) 0, tc, fd))
  else if tc = 60000 then (-2, uI q k v, u, tc, fd)
  else @ite gS (F (uI q k v) k) (Classical.propDecidable _) (if k = N - 1 then (if fo = 1 ∧ fd + 1 = 1 then (-3, uI q k v, u, tc + 1, fd + 1) else (k, uI q k v, u, tc + 1, fd + 1)) else (k + 1, uI (uI q k v) (k + 1) (-1), uI u a 1, tc + 1, fd)) (k, uI q k v, u, tc + 1, fd)
noncomputable def stp (F : (Int → Int) → Int → Prop) (n N fo : Int) (s : gS) : gS :=
  if s.1 < 0 then s else stA F n N fo s.1 s.2.1 s.2.2.1 s.2.2.2.1 s.2.2.2.2 (skp s.2.2.1 n ((s.2.1 s.1 + 1) / 4)) (skp s.2.2.1 n ((s.2.1 s.1 + 1) / 4) * 4 + (s.2.1 s.1 + 1) % 4)
noncomputable def itS (F : (Int → Int) → Int → Prop) (n N fo : Int) : Nat → gS → gS
  | 0, s => s
  | m + 1, s => stp F n N fo (itS F n N fo m s)
theorem itS_a (F : (Int → Int) → Int → Prop) (n N fo : Int) (s : gS) (a : Nat) : ∀ b : Nat, itS F n N fo b (itS F n N fo a s) = itS F n N fo (a + b) s
  | 0 => rfl
  | b + 1 => by
    show stp F n N fo (itS F n N fo b (itS F n N fo a s)) = stp F n N fo (itS F n N fo (a + b) s)
    rw [itS_a F n N fo s a b]
section ST
variable {F : (Int → Int) → Int → Prop} {n N fo k : Int} {q u : Int → Int} {tc fd a : Int}
theorem st_go (hk : 0 ≤ k) (ha : skp u n ((q k + 1) / 4) = a) : stp F n N fo (k, q, u, tc, fd) = stA F n N fo k q u tc fd a (a * 4 + (q k + 1) % 4) := by
  show (if k < 0 then _ else stA F n N fo k q u tc fd (skp u n ((q k + 1) / 4)) (skp u n ((q k + 1) / 4) * 4 + (q k + 1) % 4)) = _
  rw [if_neg (by omega), ha]
theorem st_halt {s : gS} (h : s.1 < 0) : stp F n N fo s = s := if_pos h
theorem st_back0 (hk : k = 0) (ha : skp u n ((q k + 1) / 4) = a) (h : n ≤ a) : stp F n N fo (k, q, u, tc, fd) = (-1, uI q k (a * 4 + (q k + 1) % 4), u, tc, fd) := by
  rw [st_go (by omega) ha]; unfold stA; rw [if_pos h, if_pos hk]
theorem st_back (hk : 0 < k) (ha : skp u n ((q k + 1) / 4) = a) (h : n ≤ a) : stp F n N fo (k, q, u, tc, fd) = (k - 1, uI q k (a * 4 + (q k + 1) % 4), uI u (q (k - 1) / 4) 0, tc, fd) := by
  rw [st_go (by omega) ha]; unfold stA; rw [if_pos h, if_neg (by omega), uI_ne (f := q) (by omega)]
theorem st_spent (hk : 0 ≤ k) (ha : skp u n ((q k + 1) / 4) = a) (h : a < n) (ht : tc = 60000) : stp F n N fo (k, q, u, tc, fd) = (-2, uI q k (a * 4 + (q k + 1) % 4), u, tc, fd) := by
  rw [st_go hk ha]; unfold stA; rw [if_neg (by omega), if_pos ht]
theorem st_not (hk : 0 ≤ k) (ha : skp u n ((q k + 1) / 4) = a) (h : a < n) (ht : tc ≠ 60000) (hF : ¬ F (uI q k (a * 4 + (q k + 1) % 4)) k) : stp F n N fo (k, q, u, tc, fd) = (k, uI q k (a * 4 + (q k + 1) % 4), u, tc + 1, fd) := by
  rw [st_go hk ha]; unfold stA; rw [if_neg (by omega), if_neg ht, if_neg hF]
theorem st_last1 (hk : 0 ≤ k) (ha : skp u n ((q k + 1) / 4) = a) (h : a < n) (ht : tc ≠ 60000) (hF : F (uI q k (a * 4 + (q k + 1) % 4)) k) (hN : k = N - 1) (hf : fo = 1 ∧ fd + 1 = 1) : stp F n N fo (k, q, u, tc, fd) = (-3, uI q k (a * 4 + (q k + 1) % 4), u, tc + 1, fd + 1) := by
  rw [st_go hk ha]; unfold stA; rw [if_neg (by omega), if_neg ht, if_pos hF, if_pos hN, if_pos hf]
theorem st_last (hk : 0 ≤ k) (ha : skp u n ((q k + 1) / 4) = a) (h : a < n) (ht : tc ≠ 60000) (hF : F (uI q k (a * 4 + (q k + 1) % 4)) k) (hN : k = N - 1) (hf : ¬ (fo = 1 ∧ fd + 1 = 1)) : stp F n N fo (k, q, u, tc, fd) = (k, uI q k (a * 4 + (q k + 1) % 4), u, tc + 1, fd + 1) := by
  rw [st_go hk ha]; unfold stA; rw [if_neg (by omega), if_neg ht, if_pos hF, if_pos hN, if_neg hf]
theorem st_down (hk : 0 ≤ k) (ha : skp u n ((q k + 1) / 4) = a) (h : a < n) (ht : tc ≠ 60000) (hF : F (uI q k (a * 4 + (q k + 1) % 4)) k) (hN : k ≠ N - 1) : stp F n N fo (k, q, u, tc, fd) = (k + 1, uI (uI q k (a * 4 + (q k + 1) % 4)) (k + 1) (-1), uI u a 1, tc + 1, fd) := by
  rw [st_go hk ha]; unfold stA; rw [if_neg (by omega), if_neg ht, if_pos hF, if_neg hN]
end ST
/-- s comes to a state whose next is c's next -/
def rcS (F : (Int → Int) → Int → Prop) (n N fo : Int) (s c : gS) : Prop := ∃ m : Nat, stp F n N fo (itS F n N fo m s) = stp F n N fo c
theorem rc_rf {F : (Int → Int) → Int → Prop} {n N fo : Int} (s : gS) : rcS F n N fo s s := ⟨0, rfl⟩
theorem rc_it {F : (Int → Int) → Int → Prop} {n N fo : Int} {s c : gS} (h : ∃ m : Nat, itS F n N fo m s = c) : rcS F n N fo s c := by
  obtain ⟨m, e⟩ := h
  exact ⟨m, by rw [e]⟩
theorem rc_eq {F : (Int → Int) → Int → Prop} {n N fo : Int} {s c d : gS} (h : rcS F n N fo s c) (e : stp F n N fo c = stp F n N fo d) : rcS F n N fo s d := by
  obtain ⟨m, q⟩ := h
  exact ⟨m, q.trans e⟩
theorem rc_st {F : (Int → Int) → Int → Prop} {n N fo : Int} {s c d : gS} (h : rcS F n N fo s c) (e : stp F n N fo c = d) : ∃ m : Nat, itS F n N fo m s = d := by
  obtain ⟨m, q⟩ := h
  exact ⟨m + 1, q.trans e⟩
theorem it_tr {F : (Int → Int) → Int → Prop} {n N fo : Int} {s c d : gS} (h : ∃ m : Nat, itS F n N fo m s = c) (h2 : ∃ m : Nat, itS F n N fo m c = d) : ∃ m : Nat, itS F n N fo m s = d := by
  obtain ⟨a, e⟩ := h
  obtain ⟨b, e2⟩ := h2
  exact ⟨a + b, by rw [← itS_a, e, e2]⟩
end
section
theorem lX1_pieces_22 : Cond.fieldLink RX1 22 (TX1 2).1 (TX1 2).2.1 (TX1 2).2.2.1 ∈ wsX1_pieces := by decide +kernel
theorem lX1_pieces_26 : Cond.fieldLink RX1 26 (TX1 3).1 (TX1 3).2.1 (TX1 3).2.2.1 ∈ wsX1_pieces := by decide +kernel
theorem iX1_pieces_X1 : ∀ w ∈ u_ws RX1 TX1 4, w ∈ wsX1_pieces := by decide +kernel
set_option maxHeartbeats 4000000 in
set_option maxRecDepth 100000 in
theorem k_X1_pieces (E : gE) (l : Launch) {a_P a_hs a_se : Nat} {W h : Int}  : gFun E l yX1_pieces wsX1_pieces { frames := 0, cells := 0, slots := 0, locals := 0 } [.ref a_P] [(a_P, .inr (1, [.ref a_hs, .ref a_se, .int (iI W), .int (iI h)]))] (.int (iI (W * h))) := by
  refine g_start (cc := cX1_pieces) (maxL := 1) (ret := (some .int)) (by decide) rfl (Nat.le_of_ble_eq_true rfl) ?_
  intro p_ e_ s_ m_ args_ below_ meth_ c_ A_ C hr hnm
  refine g_aload_n 1 C 0 dX1_pieces_0 rfl rfl ?_
  refine g_get 4 C 0 2 1 iX1_pieces_X1 lX1_pieces_22 dX1_pieces_1 rfl rfl rfl (by decide) rfl ?_
  refine g_aload_n 5 C 0 dX1_pieces_4 rfl rfl ?_
  refine g_get 8 C 0 3 1 iX1_pieces_X1 lX1_pieces_26 dX1_pieces_5 rfl rfl rfl (by decide) rfl ?_
  refine g_imul 9 C dX1_pieces_8 rfl ?_
  exact g_iret C hr dX1_pieces_9 ⟨g_ri (by first | rfl | omega | exact (if_pos (by omega)).symm | exact (if_neg (by omega)).symm), rfl⟩
theorem lX1_sides_22 : Cond.fieldLink RX1 22 (TX1 2).1 (TX1 2).2.1 (TX1 2).2.2.1 ∈ wsX1_sides := by decide +kernel
theorem lX1_sides_26 : Cond.fieldLink RX1 26 (TX1 3).1 (TX1 3).2.1 (TX1 3).2.2.1 ∈ wsX1_sides := by decide +kernel
theorem iX1_sides_X1 : ∀ w ∈ u_ws RX1 TX1 4, w ∈ wsX1_sides := by decide +kernel
set_option maxHeartbeats 4000000 in
set_option maxRecDepth 100000 in
theorem k_X1_sides (E : gE) (l : Launch) {a_P a_hs a_se : Nat} {W h : Int}  : gFun E l yX1_sides wsX1_sides { frames := 0, cells := 0, slots := 0, locals := 0 } [.ref a_P] [(a_P, .inr (1, [.ref a_hs, .ref a_se, .int (iI W), .int (iI h)]))] (.int (iI (nsd W h))) := by
  refine g_start (cc := cX1_sides) (maxL := 1) (ret := (some .int)) (by decide) rfl (Nat.le_of_ble_eq_true rfl) ?_
  intro p_ e_ s_ m_ args_ below_ meth_ c_ A_ C hr hnm
  refine g_aload_n 1 C 0 dX1_sides_0 rfl rfl ?_
  refine g_get 4 C 0 2 1 iX1_sides_X1 lX1_sides_22 dX1_sides_1 rfl rfl rfl (by decide) rfl ?_
  refine g_iconst 5 C dX1_sides_4 rfl ?_
  refine g_isub 6 C dX1_sides_5 rfl ?_
  refine g_aload_n 7 C 0 dX1_sides_6 rfl rfl ?_
  refine g_get 10 C 0 3 1 iX1_sides_X1 lX1_sides_26 dX1_sides_7 rfl rfl rfl (by decide) rfl ?_
  refine g_imul 11 C dX1_sides_10 rfl ?_
  refine g_aload_n 12 C 0 dX1_sides_11 rfl rfl ?_
  refine g_get 15 C 0 2 1 iX1_sides_X1 lX1_sides_22 dX1_sides_12 rfl rfl rfl (by decide) rfl ?_
  refine g_aload_n 16 C 0 dX1_sides_15 rfl rfl ?_
  refine g_get 19 C 0 3 1 iX1_sides_X1 lX1_sides_26 dX1_sides_16 rfl rfl rfl (by decide) rfl ?_
  refine g_iconst 20 C dX1_sides_19 rfl ?_
  refine g_isub 21 C dX1_sides_20 rfl ?_
  refine g_imul 22 C dX1_sides_21 rfl ?_
  refine g_iadd 23 C dX1_sides_22 rfl ?_
  exact g_iret C hr dX1_sides_23 ⟨g_ri (by first | rfl | omega | exact (if_pos (by omega)).symm | exact (if_neg (by omega)).symm), rfl⟩
theorem cdX1_sides : yX1_sides.cls = RX1 ∧ yX1_sides.cls ≠ "java/lang/invoke/MethodHandle" ∧ yX1_sides.cls ≠ "java/lang/invoke/VarHandle" ∧ (parseMethodDescriptor yX1_sides.desc).map (fun d => d.parameters.length) = some 0 := by decide +kernel
set_option maxHeartbeats 4000000 in
set_option maxRecDepth 100000 in
theorem k_X1_hasSide (E : gE) (l : Launch) {a_P a_hs a_se : Nat} {W h z : Int} (hB : 1 ≤ W ∧ W ≤ 5 ∧ 1 ≤ h ∧ h ≤ 5) (hz : -2147483648 ≤ z ∧ z < 2147483648) : gFun E l yX1_hasSide wsX1_hasSide { frames := 1, cells := 0, slots := 0, locals := 20 } [.ref a_P, .int (iI z)] [(a_P, .inr (1, [.ref a_hs, .ref a_se, .int (iI W), .int (iI h)]))] (.int (iI (if 0 ≤ z ∧ z < nsd W h then 1 else 0))) := by
  refine g_start (cc := cX1_hasSide) (maxL := 2) (ret := (some .boolean)) (by decide) rfl (Nat.le_of_ble_eq_true rfl) ?_
  intro p_ e_ s_ m_ args_ below_ meth_ c_ A_ C hr hnm
  have hn := nsd_b hB
  refine g_iload_n 1 C 1 dX1_hasSide_0 rfl rfl ?_
  refine g_if_lt 16 4 C dX1_hasSide_1 (by decide) rfl (by omega) ?_ ?_
  · intro h1
    refine g_iconst 17 C dX1_hasSide_16 rfl ?_
    exact g_zret C hr dX1_hasSide_17 (by first | rfl | decide | (split <;> rfl)) ⟨g_ri (by first | rfl | omega | exact (if_pos (by omega)).symm | exact (if_neg (by omega)).symm), rfl⟩
  · intro h1
    refine g_iload_n 5 C 1 dX1_hasSide_4 rfl rfl ?_
    refine g_aload_n 6 C 0 dX1_hasSide_5 rfl rfl ?_
    refine g_callVF 9 C [0] dX1_hasSide_6 rfl (k_X1_sides E l  ) (cwV 0 C.2.2.2.2.1 gX1_hasSide_X1_sides rfl rfl rfl cdX1_sides ⟨Nat.le_of_ble_eq_true rfl, Nat.le_of_ble_eq_true rfl⟩) rfl rfl rfl rfl (Nat.le_of_ble_eq_true rfl) 0 1 rfl rfl rfl ⟨Nat.le_of_ble_eq_true rfl, Nat.le_of_ble_eq_true rfl⟩ ?_
    refine g_icmp_ge 16 12 C dX1_hasSide_9 (by decide) rfl (by omega) ?_ ?_
    · intro h9
      refine g_iconst 17 C dX1_hasSide_16 rfl ?_
      exact g_zret C hr dX1_hasSide_17 (by first | rfl | decide | (split <;> rfl)) ⟨g_ri (by first | rfl | omega | exact (if_pos (by omega)).symm | exact (if_neg (by omega)).symm), rfl⟩
    · intro h9
      refine g_iconst 13 C dX1_hasSide_12 rfl ?_
      refine g_goto 17 C dX1_hasSide_13 (by decide) ?_
      exact g_zret C hr dX1_hasSide_17 (by first | rfl | decide | (split <;> rfl)) ⟨g_ri (by first | rfl | omega | exact (if_pos (by omega)).symm | exact (if_neg (by omega)).symm), rfl⟩
theorem cdX1_pieces : yX1_pieces.cls = RX1 ∧ yX1_pieces.cls ≠ "java/lang/invoke/MethodHandle" ∧ yX1_pieces.cls ≠ "java/lang/invoke/VarHandle" ∧ (parseMethodDescriptor yX1_pieces.desc).map (fun d => d.parameters.length) = some 0 := by decide +kernel
set_option maxHeartbeats 4000000 in
set_option maxRecDepth 100000 in
theorem k_X1_hasPiece (E : gE) (l : Launch) {a_P a_hs a_se : Nat} {W h z : Int} (hB : 1 ≤ W ∧ W ≤ 5 ∧ 1 ≤ h ∧ h ≤ 5) (hz : -2147483648 ≤ z ∧ z < 2147483648) : gFun E l yX1_hasPiece wsX1_hasPiece { frames := 1, cells := 0, slots := 0, locals := 20 } [.ref a_P, .int (iI z)] [(a_P, .inr (1, [.ref a_hs, .ref a_se, .int (iI W), .int (iI h)]))] (.int (iI (if 0 ≤ z ∧ z < W * h then 1 else 0))) := by
  refine g_start (cc := cX1_hasPiece) (maxL := 2) (ret := (some .boolean)) (by decide) rfl (Nat.le_of_ble_eq_true rfl) ?_
  intro p_ e_ s_ m_ args_ below_ meth_ c_ A_ C hr hnm
  have hn := nsd_b hB
  refine g_iload_n 1 C 1 dX1_hasPiece_0 rfl rfl ?_
  refine g_if_lt 16 4 C dX1_hasPiece_1 (by decide) rfl (by omega) ?_ ?_
  · intro h1
    refine g_iconst 17 C dX1_hasPiece_16 rfl ?_
    exact g_zret C hr dX1_hasPiece_17 (by first | rfl | decide | (split <;> rfl)) ⟨g_ri (by first | rfl | omega | exact (if_pos (by omega)).symm | exact (if_neg (by omega)).symm), rfl⟩
  · intro h1
    refine g_iload_n 5 C 1 dX1_hasPiece_4 rfl rfl ?_
    refine g_aload_n 6 C 0 dX1_hasPiece_5 rfl rfl ?_
    refine g_callVF 9 C [0] dX1_hasPiece_6 rfl (k_X1_pieces E l  ) (cwV 0 C.2.2.2.2.1 gX1_hasPiece_X1_pieces rfl rfl rfl cdX1_pieces ⟨Nat.le_of_ble_eq_true rfl, Nat.le_of_ble_eq_true rfl⟩) rfl rfl rfl rfl (Nat.le_of_ble_eq_true rfl) 0 1 rfl rfl rfl ⟨Nat.le_of_ble_eq_true rfl, Nat.le_of_ble_eq_true rfl⟩ ?_
    refine g_icmp_ge 16 12 C dX1_hasPiece_9 (by decide) rfl (by omega) ?_ ?_
    · intro h9
      refine g_iconst 17 C dX1_hasPiece_16 rfl ?_
      exact g_zret C hr dX1_hasPiece_17 (by first | rfl | decide | (split <;> rfl)) ⟨g_ri (by first | rfl | omega | exact (if_pos (by omega)).symm | exact (if_neg (by omega)).symm), rfl⟩
    · intro h9
      refine g_iconst 13 C dX1_hasPiece_12 rfl ?_
      refine g_goto 17 C dX1_hasPiece_13 (by decide) ?_
      exact g_zret C hr dX1_hasPiece_17 (by first | rfl | decide | (split <;> rfl)) ⟨g_ri (by first | rfl | omega | exact (if_pos (by omega)).symm | exact (if_neg (by omega)).symm), rfl⟩
theorem cdX1_hasPiece : yX1_hasPiece.cls = RX1 ∧ yX1_hasPiece.cls ≠ "java/lang/invoke/MethodHandle" ∧ yX1_hasPiece.cls ≠ "java/lang/invoke/VarHandle" ∧ (parseMethodDescriptor yX1_hasPiece.desc).map (fun d => d.parameters.length) = some 1 := by decide +kernel
set_option maxHeartbeats 4000000 in
set_option maxRecDepth 100000 in
theorem k_X1_hasEdge (E : gE) (l : Launch) {a_P a_hs a_se : Nat} {W h z y : Int} (hB : 1 ≤ W ∧ W ≤ 5 ∧ 1 ≤ h ∧ h ≤ 5) (hz : -2147483648 ≤ z ∧ z < 2147483648) (hy : -2147483648 ≤ y ∧ y < 2147483648) : gFun E l yX1_hasEdge wsX1_hasEdge { frames := 2, cells := 0, slots := 0, locals := 41 } [.ref a_P, .int (iI z), .int (iI y)] [(a_P, .inr (1, [.ref a_hs, .ref a_se, .int (iI W), .int (iI h)]))] (.int (iI (if (0 ≤ z ∧ z < W * h) ∧ 0 ≤ y ∧ y < 4 then 1 else 0))) := by
  refine g_start (cc := cX1_hasEdge) (maxL := 3) (ret := (some .boolean)) (by decide) rfl (Nat.le_of_ble_eq_true rfl) ?_
  intro p_ e_ s_ m_ args_ below_ meth_ c_ A_ C hr hnm
  have hn := nsd_b hB
  refine g_aload_n 1 C 0 dX1_hasEdge_0 rfl rfl ?_
  refine g_iload_n 2 C 1 dX1_hasEdge_1 rfl rfl ?_
  refine g_callVF 5 C [0] dX1_hasEdge_2 rfl (k_X1_hasPiece E l  (by first | assumption | omega) (by first | assumption | omega)) (cwV 1 C.2.2.2.2.1 gX1_hasEdge_X1_hasPiece rfl rfl rfl cdX1_hasPiece ⟨Nat.le_of_ble_eq_true rfl, Nat.le_of_ble_eq_true rfl⟩) rfl rfl rfl rfl (Nat.le_of_ble_eq_true rfl) 0 1 rfl rfl rfl ⟨Nat.le_of_ble_eq_true rfl, Nat.le_of_ble_eq_true rfl⟩ ?_
  refine g_ifb_eq 21 8 C dX1_hasEdge_5 (by decide) rfl ?_ ?_
  · intro h5
    refine g_iconst 22 C dX1_hasEdge_21 rfl ?_
    exact g_zret C hr dX1_hasEdge_22 (by first | rfl | decide | (split <;> rfl)) ⟨g_ri (by first | rfl | omega | exact (if_pos (by omega)).symm | exact (if_neg (by omega)).symm), rfl⟩
  · intro h5
    refine g_iload_n 9 C 2 dX1_hasEdge_8 rfl rfl ?_
    refine g_if_lt 21 12 C dX1_hasEdge_9 (by decide) rfl (by omega) ?_ ?_
    · intro h9
      refine g_iconst 22 C dX1_hasEdge_21 rfl ?_
      exact g_zret C hr dX1_hasEdge_22 (by first | rfl | decide | (split <;> rfl)) ⟨g_ri (by first | rfl | omega | exact (if_pos (by omega)).symm | exact (if_neg (by omega)).symm), rfl⟩
    · intro h9
      refine g_iload_n 13 C 2 dX1_hasEdge_12 rfl rfl ?_
      refine g_iconst 14 C dX1_hasEdge_13 rfl ?_
      refine g_icmp_ge 21 17 C dX1_hasEdge_14 (by decide) rfl (by omega) ?_ ?_
      · intro h14
        refine g_iconst 22 C dX1_hasEdge_21 rfl ?_
        exact g_zret C hr dX1_hasEdge_22 (by first | rfl | decide | (split <;> rfl)) ⟨g_ri (by first | rfl | omega | exact (if_pos (by omega)).symm | exact (if_neg (by omega)).symm), rfl⟩
      · intro h14
        refine g_iconst 18 C dX1_hasEdge_17 rfl ?_
        refine g_goto 22 C dX1_hasEdge_18 (by decide) ?_
        exact g_zret C hr dX1_hasEdge_22 (by first | rfl | decide | (split <;> rfl)) ⟨g_ri (by first | rfl | omega | exact (if_pos (by omega)).symm | exact (if_neg (by omega)).symm), rfl⟩
theorem lX1_sideAt_15 : Cond.fieldLink RX1 15 (TX1 1).1 (TX1 1).2.1 (TX1 1).2.2.1 ∈ wsX1_sideAt := by decide +kernel
theorem iX1_sideAt_X1 : ∀ w ∈ u_ws RX1 TX1 4, w ∈ wsX1_sideAt := by decide +kernel
set_option maxHeartbeats 4000000 in
set_option maxRecDepth 100000 in
theorem k_X1_sideAt (E : gE) (l : Launch) {a_P a_hs a_se : Nat} {W h p e : Int} {se : Int → Int} (hB : 1 ≤ W ∧ W ≤ 5 ∧ 1 ≤ h ∧ h ≤ 5) (hp : 0 ≤ p ∧ p < W * h) (he : 0 ≤ e ∧ e < 4) (hse : ∀ p e : Int, 0 ≤ p ∧ p < W * h → 0 ≤ e ∧ e < 4 → se (p * 4 + e) = sdI W h p e) : gFun E l yX1_sideAt wsX1_sideAt { frames := 0, cells := 0, slots := 0, locals := 0 } [.ref a_P, .int (iI p), .int (iI e)] [(a_P, .inr (1, [.ref a_hs, .ref a_se, .int (iI W), .int (iI h)])), (a_se, aI E 100 se)] (.int (iI (sdI W h p e))) := by
  refine g_start (cc := cX1_sideAt) (maxL := 4) (ret := (some .int)) (by decide) rfl (Nat.le_of_ble_eq_true rfl) ?_
  intro p_ e_ s_ m_ args_ below_ meth_ c_ A_ C hr hnm
  have hn := nsd_b hB
  refine g_iload_n 1 C 1 dX1_sideAt_0 rfl rfl ?_
  refine g_iconst 2 C dX1_sideAt_1 rfl ?_
  refine g_imul 3 C dX1_sideAt_2 rfl ?_
  refine g_iload_n 4 C 2 dX1_sideAt_3 rfl rfl ?_
  refine g_iadd 5 C dX1_sideAt_4 rfl ?_
  refine g_istore_n (lv' := [(3, _), (0, _), (1, _), (2, _)]) 6 C dX1_sideAt_5 rfl rfl (by decide) rfl ?_
  refine g_iload_n 7 C 0 dX1_sideAt_6 rfl rfl ?_
  refine g_if_lt 28 10 C dX1_sideAt_7 (by decide) rfl (by omega) (fun h7 => absurd h7 (by omega)) ?_
  intro h7
  refine g_iload_n 11 C 0 dX1_sideAt_10 rfl rfl ?_
  refine g_aload_n 12 C 1 dX1_sideAt_11 rfl rfl ?_
  refine g_get 15 C 0 1 1 iX1_sideAt_X1 lX1_sideAt_15 dX1_sideAt_12 rfl rfl rfl (by decide) rfl ?_
  refine g_alenI 16 C 1 dX1_sideAt_15 rfl rfl ?_
  refine g_icmp_ge 28 19 C dX1_sideAt_16 (by decide) rfl (by omega) (fun h16 => absurd h16 (by omega)) ?_
  intro h16
  refine g_aload_n 20 C 1 dX1_sideAt_19 rfl rfl ?_
  refine g_get 23 C 0 1 1 iX1_sideAt_X1 lX1_sideAt_15 dX1_sideAt_20 rfl rfl rfl (by decide) rfl ?_
  refine g_iload_n 24 C 0 dX1_sideAt_23 rfl rfl ?_
  refine g_iaload 25 C 1 dX1_sideAt_24 rfl rfl (by omega) ?_
  refine g_goto 30 C dX1_sideAt_25 (by decide) ?_
  exact g_iret C hr dX1_sideAt_30 ⟨g_ri (hse p e hp he), rfl⟩
theorem cdX1_sideAt : yX1_sideAt.cls = RX1 ∧ yX1_sideAt.cls ≠ "java/lang/invoke/MethodHandle" ∧ yX1_sideAt.cls ≠ "java/lang/invoke/VarHandle" ∧ (parseMethodDescriptor yX1_sideAt.desc).map (fun d => d.parameters.length) = some 2 := by decide +kernel
set_option maxHeartbeats 4000000 in
set_option maxRecDepth 100000 in
theorem k_X1_isFlat (E : gE) (l : Launch) {a_P a_hs a_se : Nat} {W h p e : Int} {se : Int → Int} (hB : 1 ≤ W ∧ W ≤ 5 ∧ 1 ≤ h ∧ h ≤ 5) (hp : 0 ≤ p ∧ p < W * h) (he : 0 ≤ e ∧ e < 4) (hse : ∀ p e : Int, 0 ≤ p ∧ p < W * h → 0 ≤ e ∧ e < 4 → se (p * 4 + e) = sdI W h p e) : gFun E l yX1_isFlat wsX1_isFlat { frames := 1, cells := 0, slots := 0, locals := 23 } [.ref a_P, .int (iI p), .int (iI e)] [(a_P, .inr (1, [.ref a_hs, .ref a_se, .int (iI W), .int (iI h)])), (a_se, aI E 100 se)] (.int (iI (if sdI W h p e = -9 then 1 else 0))) := by
  refine g_start (cc := cX1_isFlat) (maxL := 3) (ret := (some .boolean)) (by decide) rfl (Nat.le_of_ble_eq_true rfl) ?_
  intro p_ e_ s_ m_ args_ below_ meth_ c_ A_ C hr hnm
  have hn := nsd_b hB
  have hb := sdI_b hB hp he
  refine g_aload_n 1 C 0 dX1_isFlat_0 rfl rfl ?_
  refine g_iload_n 2 C 1 dX1_isFlat_1 rfl rfl ?_
  refine g_iload_n 3 C 2 dX1_isFlat_2 rfl rfl ?_
  refine g_callVF 6 C [0, 1] dX1_isFlat_3 rfl (k_X1_sideAt E l  (by first | assumption | omega) (by first | assumption | omega) (by first | assumption | omega) (by first | assumption | omega)) (cwV 2 C.2.2.2.2.1 gX1_isFlat_X1_sideAt rfl rfl rfl cdX1_sideAt ⟨Nat.le_of_ble_eq_true rfl, Nat.le_of_ble_eq_true rfl⟩) rfl rfl rfl rfl (Nat.le_of_ble_eq_true rfl) 0 1 rfl rfl rfl ⟨Nat.le_of_ble_eq_true rfl, Nat.le_of_ble_eq_true rfl⟩ ?_
  refine g_bipush 8 C dX1_isFlat_6 rfl (by decide) ?_
  refine g_icmp_ne 15 11 C dX1_isFlat_8 (by decide) rfl (by omega) ?_ ?_
  · intro h8
    refine g_iconst 16 C dX1_isFlat_15 rfl ?_
    exact g_zret C hr dX1_isFlat_16 (by first | rfl | decide | (split <;> rfl)) ⟨g_ri (by first | rfl | omega | exact (if_pos (by omega)).symm | exact (if_neg (by omega)).symm), rfl⟩
  · intro h8
    refine g_iconst 12 C dX1_isFlat_11 rfl ?_
    refine g_goto 16 C dX1_isFlat_12 (by decide) ?_
    exact g_zret C hr dX1_isFlat_16 (by first | rfl | decide | (split <;> rfl)) ⟨g_ri (by first | rfl | omega | exact (if_pos (by omega)).symm | exact (if_neg (by omega)).symm), rfl⟩
theorem lX1_nextTo_22 : Cond.fieldLink RX1 22 (TX1 2).1 (TX1 2).2.1 (TX1 2).2.2.1 ∈ wsX1_nextTo := by decide +kernel
theorem iX1_nextTo_X1 : ∀ w ∈ u_ws RX1 TX1 4, w ∈ wsX1_nextTo := by decide +kernel
set_option maxHeartbeats 4000000 in
set_option maxRecDepth 100000 in
theorem k_X1_nextTo (E : gE) (l : Launch) {a_P a_hs a_se : Nat} {W h p e : Int} (he : 0 ≤ e ∧ e < 4) : gFun E l yX1_nextTo wsX1_nextTo { frames := 0, cells := 0, slots := 0, locals := 0 } [.ref a_P, .int (iI p), .int (iI e)] [(a_P, .inr (1, [.ref a_hs, .ref a_se, .int (iI W), .int (iI h)]))] (.int (iI (nxI W p e))) := by
  refine g_start (cc := cX1_nextTo) (maxL := 3) (ret := (some .int)) (by decide) rfl (Nat.le_of_ble_eq_true rfl) ?_
  intro p_ e_ s_ m_ args_ below_ meth_ c_ A_ C hr hnm
  refine g_iload_n 1 C 2 dX1_nextTo_0 rfl rfl ?_
  refine g_split (e = 0) ?_ ?_
  · intro hs1_0
    refine g_tsw 28 C 0 dX1_nextTo_1 (by omega) (by omega) (by decide) (by decide) rfl (by decide) ?_
    refine g_iload_n 29 C 1 dX1_nextTo_28 rfl rfl ?_
    refine g_aload_n 30 C 0 dX1_nextTo_29 rfl rfl ?_
    refine g_get 33 C 0 2 1 iX1_nextTo_X1 lX1_nextTo_22 dX1_nextTo_30 rfl rfl rfl (by decide) rfl ?_
    refine g_isub 34 C dX1_nextTo_33 rfl ?_
    exact g_iret C hr dX1_nextTo_34 ⟨g_ri (by unfold nxI; (repeat' split) <;> omega), rfl⟩
  intro hs1_0
  refine g_split (e = 1) ?_ ?_
  · intro hs1_1
    refine g_tsw 35 C 1 dX1_nextTo_1 (by omega) (by omega) (by decide) (by decide) rfl (by decide) ?_
    refine g_iload_n 36 C 1 dX1_nextTo_35 rfl rfl ?_
    refine g_iconst 37 C dX1_nextTo_36 rfl ?_
    refine g_iadd 38 C dX1_nextTo_37 rfl ?_
    exact g_iret C hr dX1_nextTo_38 ⟨g_ri (by unfold nxI; (repeat' split) <;> omega), rfl⟩
  intro hs1_1
  refine g_split (e = 2) ?_ ?_
  · intro hs1_2
    refine g_tsw 39 C 2 dX1_nextTo_1 (by omega) (by omega) (by decide) (by decide) rfl (by decide) ?_
    refine g_iload_n 40 C 1 dX1_nextTo_39 rfl rfl ?_
    refine g_aload_n 41 C 0 dX1_nextTo_40 rfl rfl ?_
    refine g_get 44 C 0 2 1 iX1_nextTo_X1 lX1_nextTo_22 dX1_nextTo_41 rfl rfl rfl (by decide) rfl ?_
    refine g_iadd 45 C dX1_nextTo_44 rfl ?_
    exact g_iret C hr dX1_nextTo_45 ⟨g_ri (by unfold nxI; (repeat' split) <;> omega), rfl⟩
  intro hs1_2
  refine g_tswd 46 C dX1_nextTo_1 (by omega) (by omega) (by decide) ?_
  refine g_iload_n 47 C 1 dX1_nextTo_46 rfl rfl ?_
  refine g_iconst 48 C dX1_nextTo_47 rfl ?_
  refine g_isub 49 C dX1_nextTo_48 rfl ?_
  exact g_iret C hr dX1_nextTo_49 ⟨g_ri (by unfold nxI; (repeat' split) <;> omega), rfl⟩
theorem lX1_setHeight_9 : Cond.fieldLink RX1 9 (TX1 0).1 (TX1 0).2.1 (TX1 0).2.2.1 ∈ wsX1_setHeight := by decide +kernel
theorem iX1_setHeight_X1 : ∀ w ∈ u_ws RX1 TX1 4, w ∈ wsX1_setHeight := by decide +kernel
set_option maxHeartbeats 4000000 in
set_option maxRecDepth 100000 in
theorem k_X1_setHeight (E : gE) (l : Launch) {a_P a_hs a_se : Nat} {W h z i v : Int} {hs : Int → Int} (hz : 0 ≤ z ∧ z < 40) (hi : 0 ≤ i ∧ i < 5) : gUpd E l yX1_setHeight wsX1_setHeight { frames := 0, cells := 0, slots := 0, locals := 0 } [.ref a_P, .int (iI z), .int (iI i), .int (iI v)] [(a_P, .inr (1, [.ref a_hs, .ref a_se, .int (iI W), .int (iI h)])), (a_hs, aI E 200 hs)] none [(a_P, .inr (1, [.ref a_hs, .ref a_se, .int (iI W), .int (iI h)])), (a_hs, aI E 200 (uI hs (z * 5 + i) v))] := by
  refine g_start (cc := cX1_setHeight) (maxL := 5) (ret := none) (by decide) rfl (Nat.le_of_ble_eq_true rfl) ?_
  intro p_ e_ s_ m_ args_ below_ meth_ c_ A_ C hr hnm
  refine g_iload_n 1 C 1 dX1_setHeight_0 rfl rfl ?_
  refine g_iconst 2 C dX1_setHeight_1 rfl ?_
  refine g_imul 3 C dX1_setHeight_2 rfl ?_
  refine g_iload_n 4 C 2 dX1_setHeight_3 rfl rfl ?_
  refine g_iadd 5 C dX1_setHeight_4 rfl ?_
  refine g_istore (lv' := [(4, _), (0, _), (1, _), (2, _), (3, _)]) 7 C dX1_setHeight_5 rfl (by decide) rfl ?_
  refine g_iload 9 C 0 dX1_setHeight_7 rfl rfl ?_
  refine g_if_lt 30 12 C dX1_setHeight_9 (by decide) rfl (by omega) (fun h9 => absurd h9 (by omega)) ?_
  intro h9
  refine g_iload 14 C 0 dX1_setHeight_12 rfl rfl ?_
  refine g_aload_n 15 C 1 dX1_setHeight_14 rfl rfl ?_
  refine g_get 18 C 0 0 1 iX1_setHeight_X1 lX1_setHeight_9 dX1_setHeight_15 rfl rfl rfl (by decide) rfl ?_
  refine g_alenI 19 C 1 dX1_setHeight_18 rfl rfl ?_
  refine g_icmp_ge 30 22 C dX1_setHeight_19 (by decide) rfl (by omega) (fun h19 => absurd h19 (by omega)) ?_
  intro h19
  refine g_aload_n 23 C 1 dX1_setHeight_22 rfl rfl ?_
  refine g_get 26 C 0 0 1 iX1_setHeight_X1 lX1_setHeight_9 dX1_setHeight_23 rfl rfl rfl (by decide) rfl ?_
  refine g_iload 28 C 0 dX1_setHeight_26 rfl rfl ?_
  refine g_iload_n 29 C 4 dX1_setHeight_28 rfl rfl ?_
  refine g_iastore (ws' := [(_, .inr (1, [_, _, _, _])), (_, aI _ _ _)]) 30 C 1 dX1_setHeight_29 rfl rfl (by omega) rfl ?_
  exact g_vret C hr dX1_setHeight_30 ⟨rfl, rfl⟩
theorem lX1_setSide_15 : Cond.fieldLink RX1 15 (TX1 1).1 (TX1 1).2.1 (TX1 1).2.2.1 ∈ wsX1_setSide := by decide +kernel
theorem iX1_setSide_X1 : ∀ w ∈ u_ws RX1 TX1 4, w ∈ wsX1_setSide := by decide +kernel
set_option maxHeartbeats 4000000 in
set_option maxRecDepth 100000 in
theorem k_X1_setSide (E : gE) (l : Launch) {a_P a_hs a_se : Nat} {W h z i v : Int} {se : Int → Int} (hz : 0 ≤ z ∧ z < 25) (hi : 0 ≤ i ∧ i < 4) : gUpd E l yX1_setSide wsX1_setSide { frames := 0, cells := 0, slots := 0, locals := 0 } [.ref a_P, .int (iI z), .int (iI i), .int (iI v)] [(a_P, .inr (1, [.ref a_hs, .ref a_se, .int (iI W), .int (iI h)])), (a_se, aI E 100 se)] none [(a_P, .inr (1, [.ref a_hs, .ref a_se, .int (iI W), .int (iI h)])), (a_se, aI E 100 (uI se (z * 4 + i) v))] := by
  refine g_start (cc := cX1_setSide) (maxL := 5) (ret := none) (by decide) rfl (Nat.le_of_ble_eq_true rfl) ?_
  intro p_ e_ s_ m_ args_ below_ meth_ c_ A_ C hr hnm
  refine g_iload_n 1 C 1 dX1_setSide_0 rfl rfl ?_
  refine g_iconst 2 C dX1_setSide_1 rfl ?_
  refine g_imul 3 C dX1_setSide_2 rfl ?_
  refine g_iload_n 4 C 2 dX1_setSide_3 rfl rfl ?_
  refine g_iadd 5 C dX1_setSide_4 rfl ?_
  refine g_istore (lv' := [(4, _), (0, _), (1, _), (2, _), (3, _)]) 7 C dX1_setSide_5 rfl (by decide) rfl ?_
  refine g_iload 9 C 0 dX1_setSide_7 rfl rfl ?_
  refine g_if_lt 30 12 C dX1_setSide_9 (by decide) rfl (by omega) (fun h9 => absurd h9 (by omega)) ?_
  intro h9
  refine g_iload 14 C 0 dX1_setSide_12 rfl rfl ?_
  refine g_aload_n 15 C 1 dX1_setSide_14 rfl rfl ?_
  refine g_get 18 C 0 1 1 iX1_setSide_X1 lX1_setSide_15 dX1_setSide_15 rfl rfl rfl (by decide) rfl ?_
  refine g_alenI 19 C 1 dX1_setSide_18 rfl rfl ?_
  refine g_icmp_ge 30 22 C dX1_setSide_19 (by decide) rfl (by omega) (fun h19 => absurd h19 (by omega)) ?_
  intro h19
  refine g_aload_n 23 C 1 dX1_setSide_22 rfl rfl ?_
  refine g_get 26 C 0 1 1 iX1_setSide_X1 lX1_setSide_15 dX1_setSide_23 rfl rfl rfl (by decide) rfl ?_
  refine g_iload 28 C 0 dX1_setSide_26 rfl rfl ?_
  refine g_iload_n 29 C 4 dX1_setSide_28 rfl rfl ?_
  refine g_iastore (ws' := [(_, .inr (1, [_, _, _, _])), (_, aI _ _ _)]) 30 C 1 dX1_setSide_29 rfl rfl (by omega) rfl ?_
  exact g_vret C hr dX1_setSide_30 ⟨rfl, rfl⟩
theorem lX1_heightAt_9 : Cond.fieldLink RX1 9 (TX1 0).1 (TX1 0).2.1 (TX1 0).2.2.1 ∈ wsX1_heightAt := by decide +kernel
theorem iX1_heightAt_X1 : ∀ w ∈ u_ws RX1 TX1 4, w ∈ wsX1_heightAt := by decide +kernel
set_option maxHeartbeats 4000000 in
set_option maxRecDepth 100000 in
theorem k_X1_heightAt (E : gE) (l : Launch) {a_P a_hs a_se : Nat} {W h z i w : Int} {hs : Int → Int} (hz : 0 ≤ z ∧ z < 40) (hi : 0 ≤ i ∧ i < 5) (hw : w = 0 ∨ w = 1) : gFun E l yX1_heightAt wsX1_heightAt { frames := 0, cells := 0, slots := 0, locals := 0 } [.ref a_P, .int (iI z), .int (iI i), .int (iI w)] [(a_P, .inr (1, [.ref a_hs, .ref a_se, .int (iI W), .int (iI h)])), (a_hs, aI E 200 hs)] (.int (iI (htI hs z i w))) := by
  refine g_start (cc := cX1_heightAt) (maxL := 5) (ret := (some .int)) (by decide) rfl (Nat.le_of_ble_eq_true rfl) ?_
  intro p_ e_ s_ m_ args_ below_ meth_ c_ A_ C hr hnm
  refine g_iload_n 1 C 1 dX1_heightAt_0 rfl rfl ?_
  refine g_iconst 2 C dX1_heightAt_1 rfl ?_
  refine g_imul 3 C dX1_heightAt_2 rfl ?_
  refine g_iload_n 4 C 3 dX1_heightAt_3 rfl rfl ?_
  refine g_if_ne 11 7 C dX1_heightAt_4 (by decide) rfl (by omega) ?_ ?_
  · intro h4
    refine g_iconst 12 C dX1_heightAt_11 rfl ?_
    refine g_iload_n 13 C 2 dX1_heightAt_12 rfl rfl ?_
    refine g_isub 14 C dX1_heightAt_13 rfl ?_
    refine g_iadd 15 C dX1_heightAt_14 rfl ?_
    refine g_istore (lv' := [(4, _), (0, _), (1, _), (2, _), (3, _)]) 17 C dX1_heightAt_15 rfl (by decide) rfl ?_
    refine g_iload 19 C 0 dX1_heightAt_17 rfl rfl ?_
    refine g_if_lt 32 22 C dX1_heightAt_19 (by decide) rfl (by omega) (fun h19 => absurd h19 (by omega)) ?_
    intro h19
    refine g_iload 24 C 0 dX1_heightAt_22 rfl rfl ?_
    refine g_aload_n 25 C 1 dX1_heightAt_24 rfl rfl ?_
    refine g_get 28 C 0 0 1 iX1_heightAt_X1 lX1_heightAt_9 dX1_heightAt_25 rfl rfl rfl (by decide) rfl ?_
    refine g_alenI 29 C 1 dX1_heightAt_28 rfl rfl ?_
    refine g_icmp_lt 34 32 C dX1_heightAt_29 (by decide) rfl (by omega) ?_ (fun h29 => absurd h29 (by omega))
    intro h29
    refine g_iload_n 35 C 4 dX1_heightAt_34 rfl rfl ?_
    refine g_if_ne 48 38 C dX1_heightAt_35 (by decide) rfl (by omega) ?_ ?_
    · intro h35
      refine g_aload_n 49 C 1 dX1_heightAt_48 rfl rfl ?_
      refine g_get 52 C 0 0 1 iX1_heightAt_X1 lX1_heightAt_9 dX1_heightAt_49 rfl rfl rfl (by decide) rfl ?_
      refine g_iload 54 C 0 dX1_heightAt_52 rfl rfl ?_
      refine g_iaload 55 C 1 dX1_heightAt_54 rfl rfl (by omega) ?_
      refine g_ineg 56 C dX1_heightAt_55 rfl ?_
      exact g_iret C hr dX1_heightAt_56 ⟨g_ri (by unfold htI; (repeat' split) <;> first | rfl | omega), rfl⟩
    · intro h35
      refine g_aload_n 39 C 1 dX1_heightAt_38 rfl rfl ?_
      refine g_get 42 C 0 0 1 iX1_heightAt_X1 lX1_heightAt_9 dX1_heightAt_39 rfl rfl rfl (by decide) rfl ?_
      refine g_iload 44 C 0 dX1_heightAt_42 rfl rfl ?_
      refine g_iaload 45 C 1 dX1_heightAt_44 rfl rfl (by omega) ?_
      refine g_goto 56 C dX1_heightAt_45 (by decide) ?_
      exact g_iret C hr dX1_heightAt_56 ⟨g_ri (by unfold htI; (repeat' split) <;> first | rfl | omega), rfl⟩
  · intro h4
    refine g_iload_n 8 C 2 dX1_heightAt_7 rfl rfl ?_
    refine g_goto 14 C dX1_heightAt_8 (by decide) ?_
    refine g_iadd 15 C dX1_heightAt_14 rfl ?_
    refine g_istore (lv' := [(4, _), (0, _), (1, _), (2, _), (3, _)]) 17 C dX1_heightAt_15 rfl (by decide) rfl ?_
    refine g_iload 19 C 0 dX1_heightAt_17 rfl rfl ?_
    refine g_if_lt 32 22 C dX1_heightAt_19 (by decide) rfl (by omega) (fun h19 => absurd h19 (by omega)) ?_
    intro h19
    refine g_iload 24 C 0 dX1_heightAt_22 rfl rfl ?_
    refine g_aload_n 25 C 1 dX1_heightAt_24 rfl rfl ?_
    refine g_get 28 C 0 0 1 iX1_heightAt_X1 lX1_heightAt_9 dX1_heightAt_25 rfl rfl rfl (by decide) rfl ?_
    refine g_alenI 29 C 1 dX1_heightAt_28 rfl rfl ?_
    refine g_icmp_lt 34 32 C dX1_heightAt_29 (by decide) rfl (by omega) ?_ (fun h29 => absurd h29 (by omega))
    intro h29
    refine g_iload_n 35 C 4 dX1_heightAt_34 rfl rfl ?_
    refine g_if_ne 48 38 C dX1_heightAt_35 (by decide) rfl (by omega) ?_ ?_
    · intro h35
      refine g_aload_n 49 C 1 dX1_heightAt_48 rfl rfl ?_
      refine g_get 52 C 0 0 1 iX1_heightAt_X1 lX1_heightAt_9 dX1_heightAt_49 rfl rfl rfl (by decide) rfl ?_
      refine g_iload 54 C 0 dX1_heightAt_52 rfl rfl ?_
      refine g_iaload 55 C 1 dX1_heightAt_54 rfl rfl (by omega) ?_
      refine g_ineg 56 C dX1_heightAt_55 rfl ?_
      exact g_iret C hr dX1_heightAt_56 ⟨g_ri (by unfold htI; (repeat' split) <;> first | rfl | omega), rfl⟩
    · intro h35
      refine g_aload_n 39 C 1 dX1_heightAt_38 rfl rfl ?_
      refine g_get 42 C 0 0 1 iX1_heightAt_X1 lX1_heightAt_9 dX1_heightAt_39 rfl rfl rfl (by decide) rfl ?_
      refine g_iload 44 C 0 dX1_heightAt_42 rfl rfl ?_
      refine g_iaload 45 C 1 dX1_heightAt_44 rfl rfl (by omega) ?_
      refine g_goto 56 C dX1_heightAt_45 (by decide) ?_
      exact g_iret C hr dX1_heightAt_56 ⟨g_ri (by unfold htI; (repeat' split) <;> first | rfl | omega), rfl⟩
theorem cdX1_heightAt : yX1_heightAt.cls = RX1 ∧ yX1_heightAt.cls ≠ "java/lang/invoke/MethodHandle" ∧ yX1_heightAt.cls ≠ "java/lang/invoke/VarHandle" ∧ (parseMethodDescriptor yX1_heightAt.desc).map (fun d => d.parameters.length) = some 3 := by decide +kernel
set_option maxHeartbeats 4000000 in
set_option maxRecDepth 100000 in
theorem k_X1_edgeHeight (E : gE) (l : Launch) {a_P a_hs a_se : Nat} {W h p e i : Int} {hs se : Int → Int} (hB : 1 ≤ W ∧ W ≤ 5 ∧ 1 ≤ h ∧ h ≤ 5) (hp : 0 ≤ p ∧ p < W * h) (he : 0 ≤ e ∧ e < 4) (hse : ∀ p e : Int, 0 ≤ p ∧ p < W * h → 0 ≤ e ∧ e < 4 → se (p * 4 + e) = sdI W h p e) (hf : sdI W h p e ≠ -9) (hi : 0 ≤ i ∧ i < 5) : gFun E l yX1_edgeHeight wsX1_edgeHeight { frames := 1, cells := 0, slots := 0, locals := 24 } [.ref a_P, .int (iI p), .int (iI e), .int (iI i)] [(a_P, .inr (1, [.ref a_hs, .ref a_se, .int (iI W), .int (iI h)])), (a_hs, aI E 200 hs), (a_se, aI E 100 se)] (.int (iI (ehI W h hs p e i))) := by
  refine g_start (cc := cX1_edgeHeight) (maxL := 5) (ret := (some .int)) (by decide) rfl (Nat.le_of_ble_eq_true rfl) ?_
  intro p_ e_ s_ m_ args_ below_ meth_ c_ A_ C hr hnm
  have hn := nsd_b hB
  have hb := sdI_b hB hp he
  refine g_iload_n 1 C 2 dX1_edgeHeight_0 rfl rfl ?_
  refine g_iconst 2 C dX1_edgeHeight_1 rfl ?_
  refine g_icmp_eq 10 5 C dX1_edgeHeight_2 (by decide) rfl (by omega) ?_ ?_
  · intro h2
    refine g_iconst 11 C dX1_edgeHeight_10 rfl ?_
    refine g_goto 15 C dX1_edgeHeight_11 (by decide) ?_
    refine g_istore (lv' := [(4, _), (0, _), (1, _), (2, _), (3, _)]) 17 C dX1_edgeHeight_15 rfl (by decide) rfl ?_
    refine g_aload_n 18 C 1 dX1_edgeHeight_17 rfl rfl ?_
    refine g_aload_n 19 C 1 dX1_edgeHeight_18 rfl rfl ?_
    refine g_iload_n 20 C 2 dX1_edgeHeight_19 rfl rfl ?_
    refine g_iload_n 21 C 3 dX1_edgeHeight_20 rfl rfl ?_
    refine g_callVF 24 C [0, 2] dX1_edgeHeight_21 rfl (k_X1_sideAt E l  (by first | assumption | omega) (by first | assumption | omega) (by first | assumption | omega) (by first | assumption | omega)) (cwV 2 C.2.2.2.2.1 gX1_edgeHeight_X1_sideAt rfl rfl rfl cdX1_sideAt ⟨Nat.le_of_ble_eq_true rfl, Nat.le_of_ble_eq_true rfl⟩) rfl rfl rfl rfl (Nat.le_of_ble_eq_true rfl) 0 1 rfl rfl rfl ⟨Nat.le_of_ble_eq_true rfl, Nat.le_of_ble_eq_true rfl⟩ ?_
    refine g_iload_n 25 C 4 dX1_edgeHeight_24 rfl rfl ?_
    refine g_iload 27 C 0 dX1_edgeHeight_25 rfl rfl ?_
    refine g_callVF 30 C [0, 1] dX1_edgeHeight_27 rfl (k_X1_heightAt E l  (by first | assumption | omega) (by first | assumption | omega) (by first | assumption | omega)) (cwV 3 C.2.2.2.2.1 gX1_edgeHeight_X1_heightAt rfl rfl rfl cdX1_heightAt ⟨Nat.le_of_ble_eq_true rfl, Nat.le_of_ble_eq_true rfl⟩) rfl rfl rfl rfl (Nat.le_of_ble_eq_true rfl) 0 1 rfl rfl rfl ⟨Nat.le_of_ble_eq_true rfl, Nat.le_of_ble_eq_true rfl⟩ ?_
    exact g_iret C hr dX1_edgeHeight_30 ⟨g_ri (by unfold ehI wyI; split <;> first | rfl | omega), rfl⟩
  · intro h2
    refine g_iload_n 6 C 2 dX1_edgeHeight_5 rfl rfl ?_
    refine g_iconst 7 C dX1_edgeHeight_6 rfl ?_
    refine g_icmp_ne 14 10 C dX1_edgeHeight_7 (by decide) rfl (by omega) ?_ ?_
    · intro h7
      refine g_iconst 15 C dX1_edgeHeight_14 rfl ?_
      refine g_istore (lv' := [(4, _), (0, _), (1, _), (2, _), (3, _)]) 17 C dX1_edgeHeight_15 rfl (by decide) rfl ?_
      refine g_aload_n 18 C 1 dX1_edgeHeight_17 rfl rfl ?_
      refine g_aload_n 19 C 1 dX1_edgeHeight_18 rfl rfl ?_
      refine g_iload_n 20 C 2 dX1_edgeHeight_19 rfl rfl ?_
      refine g_iload_n 21 C 3 dX1_edgeHeight_20 rfl rfl ?_
      refine g_callVF 24 C [0, 2] dX1_edgeHeight_21 rfl (k_X1_sideAt E l  (by first | assumption | omega) (by first | assumption | omega) (by first | assumption | omega) (by first | assumption | omega)) (cwV 2 C.2.2.2.2.1 gX1_edgeHeight_X1_sideAt rfl rfl rfl cdX1_sideAt ⟨Nat.le_of_ble_eq_true rfl, Nat.le_of_ble_eq_true rfl⟩) rfl rfl rfl rfl (Nat.le_of_ble_eq_true rfl) 0 1 rfl rfl rfl ⟨Nat.le_of_ble_eq_true rfl, Nat.le_of_ble_eq_true rfl⟩ ?_
      refine g_iload_n 25 C 4 dX1_edgeHeight_24 rfl rfl ?_
      refine g_iload 27 C 0 dX1_edgeHeight_25 rfl rfl ?_
      refine g_callVF 30 C [0, 1] dX1_edgeHeight_27 rfl (k_X1_heightAt E l  (by first | assumption | omega) (by first | assumption | omega) (by first | assumption | omega)) (cwV 3 C.2.2.2.2.1 gX1_edgeHeight_X1_heightAt rfl rfl rfl cdX1_heightAt ⟨Nat.le_of_ble_eq_true rfl, Nat.le_of_ble_eq_true rfl⟩) rfl rfl rfl rfl (Nat.le_of_ble_eq_true rfl) 0 1 rfl rfl rfl ⟨Nat.le_of_ble_eq_true rfl, Nat.le_of_ble_eq_true rfl⟩ ?_
      exact g_iret C hr dX1_edgeHeight_30 ⟨g_ri (by unfold ehI wyI; split <;> first | rfl | omega), rfl⟩
    · intro h7
      refine g_iconst 11 C dX1_edgeHeight_10 rfl ?_
      refine g_goto 15 C dX1_edgeHeight_11 (by decide) ?_
      refine g_istore (lv' := [(4, _), (0, _), (1, _), (2, _), (3, _)]) 17 C dX1_edgeHeight_15 rfl (by decide) rfl ?_
      refine g_aload_n 18 C 1 dX1_edgeHeight_17 rfl rfl ?_
      refine g_aload_n 19 C 1 dX1_edgeHeight_18 rfl rfl ?_
      refine g_iload_n 20 C 2 dX1_edgeHeight_19 rfl rfl ?_
      refine g_iload_n 21 C 3 dX1_edgeHeight_20 rfl rfl ?_
      refine g_callVF 24 C [0, 2] dX1_edgeHeight_21 rfl (k_X1_sideAt E l  (by first | assumption | omega) (by first | assumption | omega) (by first | assumption | omega) (by first | assumption | omega)) (cwV 2 C.2.2.2.2.1 gX1_edgeHeight_X1_sideAt rfl rfl rfl cdX1_sideAt ⟨Nat.le_of_ble_eq_true rfl, Nat.le_of_ble_eq_true rfl⟩) rfl rfl rfl rfl (Nat.le_of_ble_eq_true rfl) 0 1 rfl rfl rfl ⟨Nat.le_of_ble_eq_true rfl, Nat.le_of_ble_eq_true rfl⟩ ?_
      refine g_iload_n 25 C 4 dX1_edgeHeight_24 rfl rfl ?_
      refine g_iload 27 C 0 dX1_edgeHeight_25 rfl rfl ?_
      refine g_callVF 30 C [0, 1] dX1_edgeHeight_27 rfl (k_X1_heightAt E l  (by first | assumption | omega) (by first | assumption | omega) (by first | assumption | omega)) (cwV 3 C.2.2.2.2.1 gX1_edgeHeight_X1_heightAt rfl rfl rfl cdX1_heightAt ⟨Nat.le_of_ble_eq_true rfl, Nat.le_of_ble_eq_true rfl⟩) rfl rfl rfl rfl (Nat.le_of_ble_eq_true rfl) 0 1 rfl rfl rfl ⟨Nat.le_of_ble_eq_true rfl, Nat.le_of_ble_eq_true rfl⟩ ?_
      exact g_iret C hr dX1_edgeHeight_30 ⟨g_ri (by unfold ehI wyI; split <;> first | rfl | omega), rfl⟩
theorem lX1_farness_58 : ∀ w ∈ ([Cond.methodLink RX1 58 Lib.Math.abs.name, Cond.static Lib.Math.abs.name, Cond.initialized "java/lang/Math", Cond.code Lib.Math.abs.name Lib.Math.abs.code 1 (some .int)] : List Cond), w ∈ wsX1_farness := by decide +kernel
theorem cdX1_edgeHeight : yX1_edgeHeight.cls = RX1 ∧ yX1_edgeHeight.cls ≠ "java/lang/invoke/MethodHandle" ∧ yX1_edgeHeight.cls ≠ "java/lang/invoke/VarHandle" ∧ (parseMethodDescriptor yX1_edgeHeight.desc).map (fun d => d.parameters.length) = some 3 := by decide +kernel
set_option maxHeartbeats 4000000 in
set_option maxRecDepth 100000 in
theorem k_X1_farness (E : gE) (l : Launch) {a_P a_hs a_se : Nat} {W h p e q f : Int} {hs se : Int → Int} (hB : 1 ≤ W ∧ W ≤ 5 ∧ 1 ≤ h ∧ h ≤ 5) (hp : 0 ≤ p ∧ p < W * h) (he : 0 ≤ e ∧ e < 4) (hse : ∀ p e : Int, 0 ≤ p ∧ p < W * h → 0 ≤ e ∧ e < 4 → se (p * 4 + e) = sdI W h p e) (hf : sdI W h p e ≠ -9) (hq : 0 ≤ q ∧ q < W * h) (hf4 : 0 ≤ f ∧ f < 4) (hg : sdI W h q f ≠ -9) (hh : hB9 hs) : gFun E l yX1_farness wsX1_farness { frames := 2, cells := 0, slots := 0, locals := 48 } [.ref a_P, .int (iI p), .int (iI e), .int (iI q), .int (iI f)] [(a_P, .inr (1, [.ref a_hs, .ref a_se, .int (iI W), .int (iI h)])), (a_hs, aI E 200 hs), (a_se, aI E 100 se)] (.int (iI (frI W h hs p e q f))) := by
  refine g_start (cc := cX1_farness) (maxL := 7) (ret := (some .int)) (by decide) rfl (Nat.le_of_ble_eq_true rfl) ?_
  intro p_ e_ s_ m_ args_ below_ meth_ c_ A_ C hr hnm
  have hn := nsd_b hB
  refine g_iconst 1 C dX1_farness_0 rfl ?_
  refine g_istore (lv' := [(5, _), (0, _), (1, _), (2, _), (3, _), (4, _)]) 3 C dX1_farness_1 rfl (by decide) rfl ?_
  refine g_iconst 4 C dX1_farness_3 rfl ?_
  refine g_istore (lv' := [(6, _), (5, _), (0, _), (1, _), (2, _), (3, _), (4, _)]) 6 C dX1_farness_4 rfl (by decide) rfl ?_
  refine g_iload 8 C 0 dX1_farness_6 rfl rfl ?_
  refine g_iconst 9 C dX1_farness_8 rfl ?_
  refine g_icmp_ge 46 12 C dX1_farness_9 (by decide) rfl (by omega) (fun q => absurd q (by omega)) ?_
  intro _
  refine g_iload 14 C 1 dX1_farness_12 rfl rfl ?_
  refine g_aload_n 15 C 2 dX1_farness_14 rfl rfl ?_
  refine g_iload_n 16 C 3 dX1_farness_15 rfl rfl ?_
  refine g_iload_n 17 C 4 dX1_farness_16 rfl rfl ?_
  refine g_iload 19 C 0 dX1_farness_17 rfl rfl ?_
  refine g_callVF 22 C [0, 1, 2] dX1_farness_19 rfl (k_X1_edgeHeight E l  (by first | assumption | omega) (by first | assumption | omega) (by first | assumption | omega) (by first | assumption | omega) (by first | assumption | omega) (by first | assumption | omega)) (cwV 3 C.2.2.2.2.1 gX1_farness_X1_edgeHeight rfl rfl rfl cdX1_edgeHeight ⟨Nat.le_of_ble_eq_true rfl, Nat.le_of_ble_eq_true rfl⟩) rfl rfl rfl rfl (Nat.le_of_ble_eq_true rfl) 0 1 rfl rfl rfl ⟨Nat.le_of_ble_eq_true rfl, Nat.le_of_ble_eq_true rfl⟩ ?_
  refine g_aload_n 23 C 2 dX1_farness_22 rfl rfl ?_
  refine g_iload_n 24 C 5 dX1_farness_23 rfl rfl ?_
  refine g_iload 26 C 6 dX1_farness_24 rfl rfl ?_
  refine g_iconst 27 C dX1_farness_26 rfl ?_
  refine g_iload 29 C 0 dX1_farness_27 rfl rfl ?_
  refine g_isub 30 C dX1_farness_29 rfl ?_
  refine g_callVF 33 C [0, 1, 2] dX1_farness_30 rfl (k_X1_edgeHeight E l  (by first | assumption | omega) (by first | assumption | omega) (by first | assumption | omega) (by first | assumption | omega) (by first | assumption | omega) (by first | assumption | omega)) (cwV 3 C.2.2.2.2.1 gX1_farness_X1_edgeHeight rfl rfl rfl cdX1_edgeHeight ⟨Nat.le_of_ble_eq_true rfl, Nat.le_of_ble_eq_true rfl⟩) rfl rfl rfl rfl (Nat.le_of_ble_eq_true rfl) 0 1 rfl rfl rfl ⟨Nat.le_of_ble_eq_true rfl, Nat.le_of_ble_eq_true rfl⟩ ?_
  refine g_iadd 34 C dX1_farness_33 rfl ?_
  have ha := ehI_b (W := W) (h := h) hh p e 0
  have hb := ehI_b (W := W) (h := h) hh q f (4 - 0)
  refine g_mabs 37 C dX1_farness_34 rfl lX1_farness_58 (Nat.le_of_ble_eq_true rfl) (Nat.le_of_ble_eq_true rfl) (Nat.le_of_ble_eq_true rfl) (Nat.le_of_ble_eq_true rfl) (by omega) ?_
  refine g_iadd 38 C dX1_farness_37 rfl ?_
  refine g_istore (lv' := [(5, _), (6, _), (0, _), (1, _), (2, _), (3, _), (4, _)]) 40 C dX1_farness_38 rfl (by decide) rfl ?_
  refine g_iinc (lv' := [(6, .int (iI 1)), (5, _), (0, _), (1, _), (2, _), (3, _), (4, _)]) 43 C 1 dX1_farness_40 rfl rfl (by decide) rfl ?_
  refine g_goto 6 C dX1_farness_43 (by decide) ?_
  refine g_iload 8 C 0 dX1_farness_6 rfl rfl ?_
  refine g_iconst 9 C dX1_farness_8 rfl ?_
  refine g_icmp_ge 46 12 C dX1_farness_9 (by decide) rfl (by omega) (fun q => absurd q (by omega)) ?_
  intro _
  refine g_iload 14 C 1 dX1_farness_12 rfl rfl ?_
  refine g_aload_n 15 C 2 dX1_farness_14 rfl rfl ?_
  refine g_iload_n 16 C 3 dX1_farness_15 rfl rfl ?_
  refine g_iload_n 17 C 4 dX1_farness_16 rfl rfl ?_
  refine g_iload 19 C 0 dX1_farness_17 rfl rfl ?_
  refine g_callVF 22 C [0, 1, 2] dX1_farness_19 rfl (k_X1_edgeHeight E l  (by first | assumption | omega) (by first | assumption | omega) (by first | assumption | omega) (by first | assumption | omega) (by first | assumption | omega) (by first | assumption | omega)) (cwV 3 C.2.2.2.2.1 gX1_farness_X1_edgeHeight rfl rfl rfl cdX1_edgeHeight ⟨Nat.le_of_ble_eq_true rfl, Nat.le_of_ble_eq_true rfl⟩) rfl rfl rfl rfl (Nat.le_of_ble_eq_true rfl) 0 1 rfl rfl rfl ⟨Nat.le_of_ble_eq_true rfl, Nat.le_of_ble_eq_true rfl⟩ ?_
  refine g_aload_n 23 C 2 dX1_farness_22 rfl rfl ?_
  refine g_iload_n 24 C 5 dX1_farness_23 rfl rfl ?_
  refine g_iload 26 C 6 dX1_farness_24 rfl rfl ?_
  refine g_iconst 27 C dX1_farness_26 rfl ?_
  refine g_iload 29 C 0 dX1_farness_27 rfl rfl ?_
  refine g_isub 30 C dX1_farness_29 rfl ?_
  refine g_callVF 33 C [0, 1, 2] dX1_farness_30 rfl (k_X1_edgeHeight E l  (by first | assumption | omega) (by first | assumption | omega) (by first | assumption | omega) (by first | assumption | omega) (by first | assumption | omega) (by first | assumption | omega)) (cwV 3 C.2.2.2.2.1 gX1_farness_X1_edgeHeight rfl rfl rfl cdX1_edgeHeight ⟨Nat.le_of_ble_eq_true rfl, Nat.le_of_ble_eq_true rfl⟩) rfl rfl rfl rfl (Nat.le_of_ble_eq_true rfl) 0 1 rfl rfl rfl ⟨Nat.le_of_ble_eq_true rfl, Nat.le_of_ble_eq_true rfl⟩ ?_
  refine g_iadd 34 C dX1_farness_33 rfl ?_
  have ha := ehI_b (W := W) (h := h) hh p e 1
  have hb := ehI_b (W := W) (h := h) hh q f (4 - 1)
  refine g_mabs 37 C dX1_farness_34 rfl lX1_farness_58 (Nat.le_of_ble_eq_true rfl) (Nat.le_of_ble_eq_true rfl) (Nat.le_of_ble_eq_true rfl) (Nat.le_of_ble_eq_true rfl) (by omega) ?_
  refine g_iadd 38 C dX1_farness_37 rfl ?_
  refine g_istore (lv' := [(5, _), (6, _), (0, _), (1, _), (2, _), (3, _), (4, _)]) 40 C dX1_farness_38 rfl (by decide) rfl ?_
  refine g_iinc (lv' := [(6, .int (iI 2)), (5, _), (0, _), (1, _), (2, _), (3, _), (4, _)]) 43 C 1 dX1_farness_40 rfl rfl (by decide) rfl ?_
  refine g_goto 6 C dX1_farness_43 (by decide) ?_
  refine g_iload 8 C 0 dX1_farness_6 rfl rfl ?_
  refine g_iconst 9 C dX1_farness_8 rfl ?_
  refine g_icmp_ge 46 12 C dX1_farness_9 (by decide) rfl (by omega) (fun q => absurd q (by omega)) ?_
  intro _
  refine g_iload 14 C 1 dX1_farness_12 rfl rfl ?_
  refine g_aload_n 15 C 2 dX1_farness_14 rfl rfl ?_
  refine g_iload_n 16 C 3 dX1_farness_15 rfl rfl ?_
  refine g_iload_n 17 C 4 dX1_farness_16 rfl rfl ?_
  refine g_iload 19 C 0 dX1_farness_17 rfl rfl ?_
  refine g_callVF 22 C [0, 1, 2] dX1_farness_19 rfl (k_X1_edgeHeight E l  (by first | assumption | omega) (by first | assumption | omega) (by first | assumption | omega) (by first | assumption | omega) (by first | assumption | omega) (by first | assumption | omega)) (cwV 3 C.2.2.2.2.1 gX1_farness_X1_edgeHeight rfl rfl rfl cdX1_edgeHeight ⟨Nat.le_of_ble_eq_true rfl, Nat.le_of_ble_eq_true rfl⟩) rfl rfl rfl rfl (Nat.le_of_ble_eq_true rfl) 0 1 rfl rfl rfl ⟨Nat.le_of_ble_eq_true rfl, Nat.le_of_ble_eq_true rfl⟩ ?_
  refine g_aload_n 23 C 2 dX1_farness_22 rfl rfl ?_
  refine g_iload_n 24 C 5 dX1_farness_23 rfl rfl ?_
  refine g_iload 26 C 6 dX1_farness_24 rfl rfl ?_
  refine g_iconst 27 C dX1_farness_26 rfl ?_
  refine g_iload 29 C 0 dX1_farness_27 rfl rfl ?_
  refine g_isub 30 C dX1_farness_29 rfl ?_
  refine g_callVF 33 C [0, 1, 2] dX1_farness_30 rfl (k_X1_edgeHeight E l  (by first | assumption | omega) (by first | assumption | omega) (by first | assumption | omega) (by first | assumption | omega) (by first | assumption | omega) (by first | assumption | omega)) (cwV 3 C.2.2.2.2.1 gX1_farness_X1_edgeHeight rfl rfl rfl cdX1_edgeHeight ⟨Nat.le_of_ble_eq_true rfl, Nat.le_of_ble_eq_true rfl⟩) rfl rfl rfl rfl (Nat.le_of_ble_eq_true rfl) 0 1 rfl rfl rfl ⟨Nat.le_of_ble_eq_true rfl, Nat.le_of_ble_eq_true rfl⟩ ?_
  refine g_iadd 34 C dX1_farness_33 rfl ?_
  have ha := ehI_b (W := W) (h := h) hh p e 2
  have hb := ehI_b (W := W) (h := h) hh q f (4 - 2)
  refine g_mabs 37 C dX1_farness_34 rfl lX1_farness_58 (Nat.le_of_ble_eq_true rfl) (Nat.le_of_ble_eq_true rfl) (Nat.le_of_ble_eq_true rfl) (Nat.le_of_ble_eq_true rfl) (by omega) ?_
  refine g_iadd 38 C dX1_farness_37 rfl ?_
  refine g_istore (lv' := [(5, _), (6, _), (0, _), (1, _), (2, _), (3, _), (4, _)]) 40 C dX1_farness_38 rfl (by decide) rfl ?_
  refine g_iinc (lv' := [(6, .int (iI 3)), (5, _), (0, _), (1, _), (2, _), (3, _), (4, _)]) 43 C 1 dX1_farness_40 rfl rfl (by decide) rfl ?_
  refine g_goto 6 C dX1_farness_43 (by decide) ?_
  refine g_iload 8 C 0 dX1_farness_6 rfl rfl ?_
  refine g_iconst 9 C dX1_farness_8 rfl ?_
  refine g_icmp_ge 46 12 C dX1_farness_9 (by decide) rfl (by omega) (fun q => absurd q (by omega)) ?_
  intro _
  refine g_iload 14 C 1 dX1_farness_12 rfl rfl ?_
  refine g_aload_n 15 C 2 dX1_farness_14 rfl rfl ?_
  refine g_iload_n 16 C 3 dX1_farness_15 rfl rfl ?_
  refine g_iload_n 17 C 4 dX1_farness_16 rfl rfl ?_
  refine g_iload 19 C 0 dX1_farness_17 rfl rfl ?_
  refine g_callVF 22 C [0, 1, 2] dX1_farness_19 rfl (k_X1_edgeHeight E l  (by first | assumption | omega) (by first | assumption | omega) (by first | assumption | omega) (by first | assumption | omega) (by first | assumption | omega) (by first | assumption | omega)) (cwV 3 C.2.2.2.2.1 gX1_farness_X1_edgeHeight rfl rfl rfl cdX1_edgeHeight ⟨Nat.le_of_ble_eq_true rfl, Nat.le_of_ble_eq_true rfl⟩) rfl rfl rfl rfl (Nat.le_of_ble_eq_true rfl) 0 1 rfl rfl rfl ⟨Nat.le_of_ble_eq_true rfl, Nat.le_of_ble_eq_true rfl⟩ ?_
  refine g_aload_n 23 C 2 dX1_farness_22 rfl rfl ?_
  refine g_iload_n 24 C 5 dX1_farness_23 rfl rfl ?_
  refine g_iload 26 C 6 dX1_farness_24 rfl rfl ?_
  refine g_iconst 27 C dX1_farness_26 rfl ?_
  refine g_iload 29 C 0 dX1_farness_27 rfl rfl ?_
  refine g_isub 30 C dX1_farness_29 rfl ?_
  refine g_callVF 33 C [0, 1, 2] dX1_farness_30 rfl (k_X1_edgeHeight E l  (by first | assumption | omega) (by first | assumption | omega) (by first | assumption | omega) (by first | assumption | omega) (by first | assumption | omega) (by first | assumption | omega)) (cwV 3 C.2.2.2.2.1 gX1_farness_X1_edgeHeight rfl rfl rfl cdX1_edgeHeight ⟨Nat.le_of_ble_eq_true rfl, Nat.le_of_ble_eq_true rfl⟩) rfl rfl rfl rfl (Nat.le_of_ble_eq_true rfl) 0 1 rfl rfl rfl ⟨Nat.le_of_ble_eq_true rfl, Nat.le_of_ble_eq_true rfl⟩ ?_
  refine g_iadd 34 C dX1_farness_33 rfl ?_
  have ha := ehI_b (W := W) (h := h) hh p e 3
  have hb := ehI_b (W := W) (h := h) hh q f (4 - 3)
  refine g_mabs 37 C dX1_farness_34 rfl lX1_farness_58 (Nat.le_of_ble_eq_true rfl) (Nat.le_of_ble_eq_true rfl) (Nat.le_of_ble_eq_true rfl) (Nat.le_of_ble_eq_true rfl) (by omega) ?_
  refine g_iadd 38 C dX1_farness_37 rfl ?_
  refine g_istore (lv' := [(5, _), (6, _), (0, _), (1, _), (2, _), (3, _), (4, _)]) 40 C dX1_farness_38 rfl (by decide) rfl ?_
  refine g_iinc (lv' := [(6, .int (iI 4)), (5, _), (0, _), (1, _), (2, _), (3, _), (4, _)]) 43 C 1 dX1_farness_40 rfl rfl (by decide) rfl ?_
  refine g_goto 6 C dX1_farness_43 (by decide) ?_
  refine g_iload 8 C 0 dX1_farness_6 rfl rfl ?_
  refine g_iconst 9 C dX1_farness_8 rfl ?_
  refine g_icmp_ge 46 12 C dX1_farness_9 (by decide) rfl (by omega) (fun q => absurd q (by omega)) ?_
  intro _
  refine g_iload 14 C 1 dX1_farness_12 rfl rfl ?_
  refine g_aload_n 15 C 2 dX1_farness_14 rfl rfl ?_
  refine g_iload_n 16 C 3 dX1_farness_15 rfl rfl ?_
  refine g_iload_n 17 C 4 dX1_farness_16 rfl rfl ?_
  refine g_iload 19 C 0 dX1_farness_17 rfl rfl ?_
  refine g_callVF 22 C [0, 1, 2] dX1_farness_19 rfl (k_X1_edgeHeight E l  (by first | assumption | omega) (by first | assumption | omega) (by first | assumption | omega) (by first | assumption | omega) (by first | assumption | omega) (by first | assumption | omega)) (cwV 3 C.2.2.2.2.1 gX1_farness_X1_edgeHeight rfl rfl rfl cdX1_edgeHeight ⟨Nat.le_of_ble_eq_true rfl, Nat.le_of_ble_eq_true rfl⟩) rfl rfl rfl rfl (Nat.le_of_ble_eq_true rfl) 0 1 rfl rfl rfl ⟨Nat.le_of_ble_eq_true rfl, Nat.le_of_ble_eq_true rfl⟩ ?_
  refine g_aload_n 23 C 2 dX1_farness_22 rfl rfl ?_
  refine g_iload_n 24 C 5 dX1_farness_23 rfl rfl ?_
  refine g_iload 26 C 6 dX1_farness_24 rfl rfl ?_
  refine g_iconst 27 C dX1_farness_26 rfl ?_
  refine g_iload 29 C 0 dX1_farness_27 rfl rfl ?_
  refine g_isub 30 C dX1_farness_29 rfl ?_
  refine g_callVF 33 C [0, 1, 2] dX1_farness_30 rfl (k_X1_edgeHeight E l  (by first | assumption | omega) (by first | assumption | omega) (by first | assumption | omega) (by first | assumption | omega) (by first | assumption | omega) (by first | assumption | omega)) (cwV 3 C.2.2.2.2.1 gX1_farness_X1_edgeHeight rfl rfl rfl cdX1_edgeHeight ⟨Nat.le_of_ble_eq_true rfl, Nat.le_of_ble_eq_true rfl⟩) rfl rfl rfl rfl (Nat.le_of_ble_eq_true rfl) 0 1 rfl rfl rfl ⟨Nat.le_of_ble_eq_true rfl, Nat.le_of_ble_eq_true rfl⟩ ?_
  refine g_iadd 34 C dX1_farness_33 rfl ?_
  have ha := ehI_b (W := W) (h := h) hh p e 4
  have hb := ehI_b (W := W) (h := h) hh q f (4 - 4)
  refine g_mabs 37 C dX1_farness_34 rfl lX1_farness_58 (Nat.le_of_ble_eq_true rfl) (Nat.le_of_ble_eq_true rfl) (Nat.le_of_ble_eq_true rfl) (Nat.le_of_ble_eq_true rfl) (by omega) ?_
  refine g_iadd 38 C dX1_farness_37 rfl ?_
  refine g_istore (lv' := [(5, _), (6, _), (0, _), (1, _), (2, _), (3, _), (4, _)]) 40 C dX1_farness_38 rfl (by decide) rfl ?_
  refine g_iinc (lv' := [(6, .int (iI 5)), (5, _), (0, _), (1, _), (2, _), (3, _), (4, _)]) 43 C 1 dX1_farness_40 rfl rfl (by decide) rfl ?_
  refine g_goto 6 C dX1_farness_43 (by decide) ?_
  refine g_iload 8 C 0 dX1_farness_6 rfl rfl ?_
  refine g_iconst 9 C dX1_farness_8 rfl ?_
  refine g_icmp_ge 46 12 C dX1_farness_9 (by decide) rfl (by omega) ?_ (fun q => absurd q (by omega))
  intro _
  refine g_iload 48 C 1 dX1_farness_46 rfl rfl ?_
  exact g_iret C hr dX1_farness_48 ⟨g_ri (rfl), rfl⟩
end
section
theorem cdX1_setSide : yX1_setSide.cls = RX1 ∧ yX1_setSide.cls ≠ "java/lang/invoke/MethodHandle" ∧ yX1_setSide.cls ≠ "java/lang/invoke/VarHandle" ∧ (parseMethodDescriptor yX1_setSide.desc).map (fun d => d.parameters.length) = some 3 := by decide +kernel
theorem lX1_layEdges_22 : Cond.fieldLink RX1 22 (TX1 2).1 (TX1 2).2.1 (TX1 2).2.2.1 ∈ wsX1_layEdges := by decide +kernel
theorem lX1_layEdges_26 : Cond.fieldLink RX1 26 (TX1 3).1 (TX1 3).2.1 (TX1 3).2.2.1 ∈ wsX1_layEdges := by decide +kernel
theorem iX1_layEdges_X1 : ∀ w ∈ u_ws RX1 TX1 4, w ∈ wsX1_layEdges := by decide +kernel
set_option maxHeartbeats 4000000 in
set_option maxRecDepth 100000 in
theorem k_X1_layEdges (E : gE) (l : Launch) {a_P a_hs a_se : Nat} {W h x y : Int} {se : Int → Int} (hB : 1 ≤ W ∧ W ≤ 5 ∧ 1 ≤ h ∧ h ≤ 5) (hx : 0 ≤ x ∧ x < W) (hy : 0 ≤ y ∧ y < h) : gUpd E l yX1_layEdges wsX1_layEdges { frames := 1, cells := 0, slots := 0, locals := 24 } [.ref a_P, .int (iI x), .int (iI y)] [(a_P, .inr (1, [.ref a_hs, .ref a_se, .int (iI W), .int (iI h)])), (a_se, aI E 100 se)] none [(a_P, .inr (1, [.ref a_hs, .ref a_se, .int (iI W), .int (iI h)])), (a_se, aI E 100 (leI W h se x y))] := by
  refine g_start (cc := cX1_layEdges) (maxL := 6) (ret := none) (by decide) rfl (Nat.le_of_ble_eq_true rfl) ?_
  intro p_ e_ s_ m_ args_ below_ meth_ c_ A_ C hr hnm
  have hn := nsd_b hB
  have hi := idx_b hB hx hy
  refine g_aload_n 1 C 0 dX1_layEdges_0 rfl rfl ?_
  refine g_get 4 C 0 2 1 iX1_layEdges_X1 lX1_layEdges_22 dX1_layEdges_1 rfl rfl rfl (by decide) rfl ?_
  refine g_iload_n 5 C 2 dX1_layEdges_4 rfl rfl ?_
  refine g_imul 6 C dX1_layEdges_5 rfl ?_
  refine g_iload_n 7 C 1 dX1_layEdges_6 rfl rfl ?_
  refine g_iadd 8 C dX1_layEdges_7 rfl ?_
  refine g_istore_n (lv' := [(3, _), (0, _), (1, _), (2, _)]) 9 C dX1_layEdges_8 rfl rfl (by decide) rfl ?_
  refine g_aload_n 10 C 1 dX1_layEdges_9 rfl rfl ?_
  refine g_get 13 C 0 2 1 iX1_layEdges_X1 lX1_layEdges_22 dX1_layEdges_10 rfl rfl rfl (by decide) rfl ?_
  refine g_iconst 14 C dX1_layEdges_13 rfl ?_
  refine g_isub 15 C dX1_layEdges_14 rfl ?_
  refine g_iload_n 16 C 3 dX1_layEdges_15 rfl rfl ?_
  refine g_imul 17 C dX1_layEdges_16 rfl ?_
  refine g_iload_n 18 C 2 dX1_layEdges_17 rfl rfl ?_
  refine g_iadd 19 C dX1_layEdges_18 rfl ?_
  refine g_istore (lv' := [(4, _), (3, _), (0, _), (1, _), (2, _)]) 21 C dX1_layEdges_19 rfl (by decide) rfl ?_
  refine g_aload_n 22 C 2 dX1_layEdges_21 rfl rfl ?_
  refine g_get 25 C 0 2 1 iX1_layEdges_X1 lX1_layEdges_22 dX1_layEdges_22 rfl rfl rfl (by decide) rfl ?_
  refine g_iconst 26 C dX1_layEdges_25 rfl ?_
  refine g_isub 27 C dX1_layEdges_26 rfl ?_
  refine g_aload_n 28 C 2 dX1_layEdges_27 rfl rfl ?_
  refine g_get 31 C 0 3 1 iX1_layEdges_X1 lX1_layEdges_26 dX1_layEdges_28 rfl rfl rfl (by decide) rfl ?_
  refine g_imul 32 C dX1_layEdges_31 rfl ?_
  refine g_aload_n 33 C 2 dX1_layEdges_32 rfl rfl ?_
  refine g_get 36 C 0 2 1 iX1_layEdges_X1 lX1_layEdges_22 dX1_layEdges_33 rfl rfl rfl (by decide) rfl ?_
  refine g_iload_n 37 C 4 dX1_layEdges_36 rfl rfl ?_
  refine g_imul 38 C dX1_layEdges_37 rfl ?_
  refine g_iadd 39 C dX1_layEdges_38 rfl ?_
  refine g_iload_n 40 C 3 dX1_layEdges_39 rfl rfl ?_
  refine g_iadd 41 C dX1_layEdges_40 rfl ?_
  refine g_istore (lv' := [(5, _), (4, _), (3, _), (0, _), (1, _), (2, _)]) 43 C dX1_layEdges_41 rfl (by decide) rfl ?_
  refine g_aload_n 44 C 3 dX1_layEdges_43 rfl rfl ?_
  refine g_iload_n 45 C 2 dX1_layEdges_44 rfl rfl ?_
  refine g_iconst 46 C dX1_layEdges_45 rfl ?_
  refine g_iload_n 47 C 5 dX1_layEdges_46 rfl rfl ?_
  refine g_joinv 62 1 (if y = 0 then -9 else (W - 1) * h + W * y + x - W) ?_ ?_
  · skip
    refine g_callVU (ws' := [(_, .inr (1, [_, _, _, _])), (_, aI _ _ _)]) 65 C [0, 1] dX1_layEdges_62 rfl (k_X1_setSide E l  (by first | assumption | omega) (by first | assumption | omega)) (cwV 3 C.2.2.2.2.1 gX1_layEdges_X1_setSide rfl rfl rfl cdX1_setSide ⟨Nat.le_of_ble_eq_true rfl, Nat.le_of_ble_eq_true rfl⟩) rfl rfl rfl rfl (Nat.le_of_ble_eq_true rfl) 0 1 rfl rfl rfl ⟨Nat.le_of_ble_eq_true rfl, Nat.le_of_ble_eq_true rfl⟩ rfl rfl ?_
    refine g_aload_n 66 C 3 dX1_layEdges_65 rfl rfl ?_
    refine g_iload_n 67 C 2 dX1_layEdges_66 rfl rfl ?_
    refine g_iconst 68 C dX1_layEdges_67 rfl ?_
    refine g_iload_n 69 C 4 dX1_layEdges_68 rfl rfl ?_
    refine g_aload_n 70 C 3 dX1_layEdges_69 rfl rfl ?_
    refine g_get 73 C 0 2 1 iX1_layEdges_X1 lX1_layEdges_22 dX1_layEdges_70 rfl rfl rfl (by decide) rfl ?_
    refine g_iconst 74 C dX1_layEdges_73 rfl ?_
    refine g_isub 75 C dX1_layEdges_74 rfl ?_
    refine g_joinv 85 2 (if x = W - 1 then -9 else (W - 1) * y + x) ?_ ?_
    · skip
      refine g_callVU (ws' := [(_, .inr (1, [_, _, _, _])), (_, aI _ _ _)]) 88 C [0, 1] dX1_layEdges_85 rfl (k_X1_setSide E l  (by first | assumption | omega) (by first | assumption | omega)) (cwV 3 C.2.2.2.2.1 gX1_layEdges_X1_setSide rfl rfl rfl cdX1_setSide ⟨Nat.le_of_ble_eq_true rfl, Nat.le_of_ble_eq_true rfl⟩) rfl rfl rfl rfl (Nat.le_of_ble_eq_true rfl) 0 1 rfl rfl rfl ⟨Nat.le_of_ble_eq_true rfl, Nat.le_of_ble_eq_true rfl⟩ rfl rfl ?_
      refine g_aload_n 89 C 3 dX1_layEdges_88 rfl rfl ?_
      refine g_iload_n 90 C 2 dX1_layEdges_89 rfl rfl ?_
      refine g_iconst 91 C dX1_layEdges_90 rfl ?_
      refine g_iload_n 92 C 5 dX1_layEdges_91 rfl rfl ?_
      refine g_aload_n 93 C 3 dX1_layEdges_92 rfl rfl ?_
      refine g_get 96 C 0 3 1 iX1_layEdges_X1 lX1_layEdges_26 dX1_layEdges_93 rfl rfl rfl (by decide) rfl ?_
      refine g_iconst 97 C dX1_layEdges_96 rfl ?_
      refine g_isub 98 C dX1_layEdges_97 rfl ?_
      refine g_joinv 108 2 (if y = h - 1 then -9 else (W - 1) * h + W * y + x) ?_ ?_
      · skip
        refine g_callVU (ws' := [(_, .inr (1, [_, _, _, _])), (_, aI _ _ _)]) 111 C [0, 1] dX1_layEdges_108 rfl (k_X1_setSide E l  (by first | assumption | omega) (by first | assumption | omega)) (cwV 3 C.2.2.2.2.1 gX1_layEdges_X1_setSide rfl rfl rfl cdX1_setSide ⟨Nat.le_of_ble_eq_true rfl, Nat.le_of_ble_eq_true rfl⟩) rfl rfl rfl rfl (Nat.le_of_ble_eq_true rfl) 0 1 rfl rfl rfl ⟨Nat.le_of_ble_eq_true rfl, Nat.le_of_ble_eq_true rfl⟩ rfl rfl ?_
        refine g_aload_n 112 C 3 dX1_layEdges_111 rfl rfl ?_
        refine g_iload_n 113 C 2 dX1_layEdges_112 rfl rfl ?_
        refine g_iconst 114 C dX1_layEdges_113 rfl ?_
        refine g_iload_n 115 C 4 dX1_layEdges_114 rfl rfl ?_
        refine g_joinv 127 1 (if x = 0 then -9 else (W - 1) * y + x - 1) ?_ ?_
        · skip
          refine g_callVU (ws' := [(_, .inr (1, [_, _, _, _])), (_, aI _ _ _)]) 130 C [0, 1] dX1_layEdges_127 rfl (k_X1_setSide E l  (by first | assumption | omega) (by first | assumption | omega)) (cwV 3 C.2.2.2.2.1 gX1_layEdges_X1_setSide rfl rfl rfl cdX1_setSide ⟨Nat.le_of_ble_eq_true rfl, Nat.le_of_ble_eq_true rfl⟩) rfl rfl rfl rfl (Nat.le_of_ble_eq_true rfl) 0 1 rfl rfl rfl ⟨Nat.le_of_ble_eq_true rfl, Nat.le_of_ble_eq_true rfl⟩ rfl rfl ?_
          exact g_vret C hr dX1_layEdges_130 ⟨rfl, rfl⟩
        · intro kj
          refine g_if_ne 123 118 C dX1_layEdges_115 (by decide) rfl (by omega) ?_ ?_
          · intro h115
            refine g_iload 125 C 1 dX1_layEdges_123 rfl rfl ?_
            refine g_iconst 126 C dX1_layEdges_125 rfl ?_
            refine g_isub 127 C dX1_layEdges_126 rfl ?_
            exact kj _ (by first | rfl | omega | exact (if_pos (by omega)).symm | exact (if_neg (by omega)).symm)
          · intro h115
            refine g_bipush 120 C dX1_layEdges_118 rfl (by decide) ?_
            refine g_goto 127 C dX1_layEdges_120 (by decide) ?_
            exact kj _ (by first | rfl | omega | exact (if_pos (by omega)).symm | exact (if_neg (by omega)).symm)
      · intro kj
        refine g_icmp_ne 106 101 C dX1_layEdges_98 (by decide) rfl (by omega) ?_ ?_
        · intro h98
          refine g_iload 108 C 0 dX1_layEdges_106 rfl rfl ?_
          exact kj _ (by first | rfl | omega | exact (if_pos (by omega)).symm | exact (if_neg (by omega)).symm)
        · intro h98
          refine g_bipush 103 C dX1_layEdges_101 rfl (by decide) ?_
          refine g_goto 108 C dX1_layEdges_103 (by decide) ?_
          exact kj _ (by first | rfl | omega | exact (if_pos (by omega)).symm | exact (if_neg (by omega)).symm)
    · intro kj
      refine g_icmp_ne 83 78 C dX1_layEdges_75 (by decide) rfl (by omega) ?_ ?_
      · intro h75
        refine g_iload 85 C 1 dX1_layEdges_83 rfl rfl ?_
        exact kj _ (by first | rfl | omega | exact (if_pos (by omega)).symm | exact (if_neg (by omega)).symm)
      · intro h75
        refine g_bipush 80 C dX1_layEdges_78 rfl (by decide) ?_
        refine g_goto 85 C dX1_layEdges_80 (by decide) ?_
        exact kj _ (by first | rfl | omega | exact (if_pos (by omega)).symm | exact (if_neg (by omega)).symm)
  · intro kj
    refine g_if_ne 55 50 C dX1_layEdges_47 (by decide) rfl (by omega) ?_ ?_
    · intro h47
      refine g_iload 57 C 0 dX1_layEdges_55 rfl rfl ?_
      refine g_aload_n 58 C 3 dX1_layEdges_57 rfl rfl ?_
      refine g_get 61 C 0 2 1 iX1_layEdges_X1 lX1_layEdges_22 dX1_layEdges_58 rfl rfl rfl (by decide) rfl ?_
      refine g_isub 62 C dX1_layEdges_61 rfl ?_
      exact kj _ (by first | rfl | omega | exact (if_pos (by omega)).symm | exact (if_neg (by omega)).symm)
    · intro h47
      refine g_bipush 52 C dX1_layEdges_50 rfl (by decide) ?_
      refine g_goto 62 C dX1_layEdges_52 (by decide) ?_
      exact kj _ (by first | rfl | omega | exact (if_pos (by omega)).symm | exact (if_neg (by omega)).symm)
theorem cdX1_layEdges : yX1_layEdges.cls = RX1 ∧ yX1_layEdges.cls ≠ "java/lang/invoke/MethodHandle" ∧ yX1_layEdges.cls ≠ "java/lang/invoke/VarHandle" ∧ (parseMethodDescriptor yX1_layEdges.desc).map (fun d => d.parameters.length) = some 2 := by decide +kernel
theorem lX1_cutAnew_22 : Cond.fieldLink RX1 22 (TX1 2).1 (TX1 2).2.1 (TX1 2).2.2.1 ∈ wsX1_cutAnew := by decide +kernel
theorem lX1_cutAnew_26 : Cond.fieldLink RX1 26 (TX1 3).1 (TX1 3).2.1 (TX1 3).2.2.1 ∈ wsX1_cutAnew := by decide +kernel
theorem lX1_cutAnew_9 : Cond.fieldLink RX1 9 (TX1 0).1 (TX1 0).2.1 (TX1 0).2.2.1 ∈ wsX1_cutAnew := by decide +kernel
theorem iX1_cutAnew_X1 : ∀ w ∈ u_ws RX1 TX1 4, w ∈ wsX1_cutAnew := by decide +kernel
set_option maxHeartbeats 4000000 in
set_option maxRecDepth 100000 in
theorem k_X1_cutAnew (E : gE) (l : Launch) {a_P a_hs a_se : Nat} {W h W0 h0 : Int} {hs se : Int → Int} (hB : 1 ≤ W ∧ W ≤ 5 ∧ 1 ≤ h ∧ h ≤ 5) : gMet E l yX1_cutAnew wsX1_cutAnew { frames := 2, cells := 0, slots := 0, locals := 49 } 0 0 [.ref a_P, .int (iI W), .int (iI h)] [(a_P, .inr (1, [.ref a_hs, .ref a_se, .int (iI W0), .int (iI h0)])), (a_hs, aI E 200 hs), (a_se, aI E 100 se)] (fun v w => ∃ f : Int → Int, (v = none ∧ ∀ p e : Int, 0 ≤ p ∧ p < W * h → 0 ≤ e ∧ e < 4 → f (p * 4 + e) = sdI W h p e) ∧ w = [(a_P, .inr (1, [.ref a_hs, .ref a_se, .int (iI W), .int (iI h)])), (a_hs, aI E 200 (zrI hs 200)), (a_se, aI E 100 f)]) := by
  refine g_start (cc := cX1_cutAnew) (maxL := 5) (ret := none) (by decide) rfl (Nat.le_of_ble_eq_true rfl) ?_
  intro p_ e_ s_ m_ args_ below_ meth_ c_ A_ C hr hnm
  have hn := nsd_b hB
  refine g_aload_n 1 C 0 dX1_cutAnew_0 rfl rfl ?_
  refine g_iload_n 2 C 1 dX1_cutAnew_1 rfl rfl ?_
  refine g_put (ws' := [(_, .inr (1, [_, _, _, _])), (_, aI _ _ _), (_, aI _ _ _)]) 5 C 0 2 1 tyX1 tyX1_ok nmX1 iX1_cutAnew_X1 lX1_cutAnew_22 dX1_cutAnew_2 rfl rfl rfl (by decide) rfl rfl rfl (Nat.le_of_ble_eq_true rfl) rfl ?_
  refine g_aload_n 6 C 0 dX1_cutAnew_5 rfl rfl ?_
  refine g_iload_n 7 C 2 dX1_cutAnew_6 rfl rfl ?_
  refine g_put (ws' := [(_, .inr (1, [_, _, _, _])), (_, aI _ _ _), (_, aI _ _ _)]) 10 C 0 3 1 tyX1 tyX1_ok nmX1 iX1_cutAnew_X1 lX1_cutAnew_26 dX1_cutAnew_7 rfl rfl rfl (by decide) rfl rfl rfl (Nat.le_of_ble_eq_true rfl) rfl ?_
  refine g_iconst 11 C dX1_cutAnew_10 rfl ?_
  refine g_istore_n (lv' := [(3, _), (0, _), (1, _), (2, _)]) 12 C dX1_cutAnew_11 rfl rfl (by decide) rfl ?_
  refine g_loop (α := Int) (fun zz => [(a_P, .inr (1, [.ref a_hs, .ref a_se, .int (iI W), .int (iI h)])), (a_hs, aI E 200 (zrI hs zz)), (a_se, aI E 100 se)]) (fun zz => [(3, .int (iI zz)), (2, .int (iI h)), (1, .int (iI W)), (0, .ref a_P)]) (fun zz => 0 ≤ zz ∧ zz ≤ 200) (fun zz => (200 - zz).toNat) (0) (by (try dsimp only); omega) [0, 3, 2, 1] (by rw [zrI_0]) rfl ?_
  rintro k hI ih12
  try dsimp only at hI ih12 ⊢
  obtain ⟨hk0, hk2⟩ := hI
  refine g_iload_n 13 C 0 dX1_cutAnew_12 rfl rfl ?_
  refine g_aload_n 14 C 3 dX1_cutAnew_13 rfl rfl ?_
  refine g_get 17 C 0 0 1 iX1_cutAnew_X1 lX1_cutAnew_9 dX1_cutAnew_14 rfl rfl rfl (by decide) rfl ?_
  refine g_alenI 18 C 1 dX1_cutAnew_17 rfl rfl ?_
  refine g_icmp_ge 34 21 C dX1_cutAnew_18 (by decide) rfl (by omega) ?_ ?_
  · intro h18
    refine g_iconst 35 C dX1_cutAnew_34 rfl ?_
    refine g_istore_n (lv' := [(3, _), (2, _), (1, _), (0, _)]) 36 C dX1_cutAnew_35 rfl rfl (by decide) rfl ?_
    refine g_loop (α := (Int → Int) × Int) (fun zz => [(a_P, .inr (1, [.ref a_hs, .ref a_se, .int (iI W), .int (iI h)])), (a_hs, aI E 200 (zrI hs 200)), (a_se, aI E 100 zz.1)]) (fun zz => [(3, .int (iI zz.2)), (2, .int (iI h)), (1, .int (iI W)), (0, .ref a_P)]) (fun zz => (0 ≤ zz.2 ∧ zz.2 ≤ h) ∧ ∀ p e : Int, 0 ≤ p ∧ p < W * zz.2 → 0 ≤ e ∧ e < 4 → zz.1 (p * 4 + e) = sdI W h p e) (fun zz => (h - zz.2).toNat) (se, 0) (by
            try dsimp only
            exact ⟨by omega, fun p e q => absurd q (by omega)⟩) [0, 1, 2, 3] (by rw [show k = 200 by omega]) rfl ?_
    rintro ⟨f, y⟩ hI ih36
    try dsimp only at hI ih36 ⊢
    obtain ⟨hy, hf⟩ := hI
    refine g_iload_n 37 C 0 dX1_cutAnew_36 rfl rfl ?_
    refine g_aload_n 38 C 3 dX1_cutAnew_37 rfl rfl ?_
    refine g_get 41 C 0 3 1 iX1_cutAnew_X1 lX1_cutAnew_26 dX1_cutAnew_38 rfl rfl rfl (by decide) rfl ?_
    refine g_icmp_ge 75 44 C dX1_cutAnew_41 (by decide) rfl (by omega) ?_ ?_
    · intro h41
      exact g_vret C hr dX1_cutAnew_75 ⟨_, ⟨rfl, fun p e q => hf p e (by rw [show y = h by omega]; exact q)⟩, rfl⟩
    · intro h41
      refine g_iconst 45 C dX1_cutAnew_44 rfl ?_
      refine g_istore (lv' := [(4, _), (3, _), (2, _), (1, _), (0, _)]) 47 C dX1_cutAnew_45 rfl (by decide) rfl ?_
      refine g_loop (α := (Int → Int) × Int) (fun zz => [(a_P, .inr (1, [.ref a_hs, .ref a_se, .int (iI W), .int (iI h)])), (a_hs, aI E 200 (zrI hs 200)), (a_se, aI E 100 zz.1)]) (fun zz => [(4, .int (iI zz.2)), (3, .int (iI y)), (2, .int (iI h)), (1, .int (iI W)), (0, .ref a_P)]) (fun zz => (0 ≤ zz.2 ∧ zz.2 ≤ W) ∧ ∀ p e : Int, 0 ≤ p ∧ p < W * y + zz.2 → 0 ≤ e ∧ e < 4 → zz.1 (p * 4 + e) = sdI W h p e) (fun zz => (W - zz.2).toNat) (f, 0) (by
            try dsimp only
            exact ⟨by omega, fun p e q => hf p e (by omega)⟩) [0, 1, 2, 3, 4] rfl rfl ?_
      rintro ⟨f, x⟩ hI ih47
      try dsimp only at hI ih47 ⊢
      obtain ⟨hx, hg⟩ := hI
      refine g_iload 49 C 0 dX1_cutAnew_47 rfl rfl ?_
      refine g_aload_n 50 C 4 dX1_cutAnew_49 rfl rfl ?_
      refine g_get 53 C 0 2 1 iX1_cutAnew_X1 lX1_cutAnew_22 dX1_cutAnew_50 rfl rfl rfl (by decide) rfl ?_
      refine g_icmp_ge 69 56 C dX1_cutAnew_53 (by decide) rfl (by omega) ?_ ?_
      · intro h53
        refine g_iinc (lv' := [(3, _), (4, _), (2, _), (1, _), (0, _)]) 72 C 1 dX1_cutAnew_69 rfl rfl (by decide) rfl ?_
        refine g_goto 36 C dX1_cutAnew_72 (by decide) ?_
        exact g_w [0, 2, 3, 4] rfl rfl (ih36 (f, (y + 1)) (by
            try dsimp only
            exact ⟨by omega, fun p e q => hg p e (by rw [show x = W by omega]; rw [Int.mul_add, Int.mul_one] at q; exact q)⟩) (by (try dsimp only); omega))
      · intro h53
        refine g_aload_n 57 C 4 dX1_cutAnew_56 rfl rfl ?_
        refine g_iload 59 C 0 dX1_cutAnew_57 rfl rfl ?_
        refine g_iload_n 60 C 1 dX1_cutAnew_59 rfl rfl ?_
        refine g_callVU (ws' := [(_, .inr (1, [_, _, _, _])), (_, aI _ _ _), (_, aI _ _ _)]) 63 C [0, 2] dX1_cutAnew_60 rfl (k_X1_layEdges E l  (by first | assumption | omega) (by first | assumption | omega) (by first | assumption | omega)) (cwV 2 C.2.2.2.2.1 gX1_cutAnew_X1_layEdges rfl rfl rfl cdX1_layEdges ⟨Nat.le_of_ble_eq_true rfl, Nat.le_of_ble_eq_true rfl⟩) rfl rfl rfl rfl (Nat.le_of_ble_eq_true rfl) 0 1 rfl rfl rfl ⟨Nat.le_of_ble_eq_true rfl, Nat.le_of_ble_eq_true rfl⟩ rfl rfl ?_
        refine g_iinc (lv' := [(4, _), (3, _), (2, _), (1, _), (0, _)]) 66 C 0 dX1_cutAnew_63 rfl rfl (by decide) rfl ?_
        refine g_goto 47 C dX1_cutAnew_66 (by decide) ?_
        exact g_w [0, 1, 2, 3, 4] rfl rfl (ih47 ((leI W h f x y), (x + 1)) (by
            try dsimp only
            exact ⟨by omega, leI_s hB (by omega) (by omega) hg⟩) (by (try dsimp only); omega))
  · intro h18
    refine g_aload_n 22 C 3 dX1_cutAnew_21 rfl rfl ?_
    refine g_get 25 C 0 0 1 iX1_cutAnew_X1 lX1_cutAnew_9 dX1_cutAnew_22 rfl rfl rfl (by decide) rfl ?_
    refine g_iload_n 26 C 0 dX1_cutAnew_25 rfl rfl ?_
    refine g_iconst 27 C dX1_cutAnew_26 rfl ?_
    refine g_iastore (ws' := [(_, .inr (1, [_, _, _, _])), (_, aI _ _ _), (_, aI _ _ _)]) 28 C 1 dX1_cutAnew_27 rfl rfl (by omega) rfl ?_
    refine g_iinc (lv' := [(3, _), (2, _), (1, _), (0, _)]) 31 C 0 dX1_cutAnew_28 rfl rfl (by decide) rfl ?_
    refine g_goto 12 C dX1_cutAnew_31 (by decide) ?_
    exact g_w [0, 1, 2, 3] (by (try dsimp only); rw [← zrI_s hs hk0]) rfl (ih12 ((k + 1)) (by (try dsimp only); omega) (by (try dsimp only); omega))
end
section
theorem lX0_begin_7 : Cond.fieldLink RX0 7 (TX0 0).1 (TX0 0).2.1 (TX0 0).2.2.1 ∈ wsX0_begin := by decide +kernel
theorem iX0_begin_X0 : ∀ w ∈ u_ws RX0 TX0 1, w ∈ wsX0_begin := by decide +kernel
set_option maxHeartbeats 4000000 in
set_option maxRecDepth 100000 in
theorem k_X0_begin (E : gE) (l : Launch) {a_D : Nat} {now sd : Int64}  : gUpd E l yX0_begin wsX0_begin { frames := 0, cells := 0, slots := 0, locals := 0 } [.ref a_D, .long sd] [(a_D, .inr (0, [.long now]))] none [(a_D, .inr (0, [.long sd]))] := by
  refine g_start (cc := cX0_begin) (maxL := 3) (ret := none) (by decide) rfl (Nat.le_of_ble_eq_true rfl) ?_
  intro p_ e_ s_ m_ args_ below_ meth_ c_ A_ C hr hnm
  refine g_aload_n 1 C 0 dX0_begin_0 rfl rfl ?_
  refine g_lload_n 2 C 1 dX0_begin_1 rfl rfl ?_
  refine g_put (ws' := [(_, .inr (0, [_]))]) 5 C 0 0 0 tyX0 tyX0_ok nmX0 iX0_begin_X0 lX0_begin_7 dX0_begin_2 rfl rfl rfl (by decide) rfl rfl rfl (Nat.le_of_ble_eq_true rfl) rfl ?_
  exact g_vret C hr dX0_begin_5 ⟨rfl, rfl⟩
theorem lX0_below_7 : Cond.fieldLink RX0 7 (TX0 0).1 (TX0 0).2.1 (TX0 0).2.2.1 ∈ wsX0_below := by decide +kernel
theorem lX0_below_13 : Cond.constantLong RX0 13 (6364136223846793005) ∈ wsX0_below := by decide +kernel
theorem lX0_below_15 : Cond.constantLong RX0 15 (1442695040888963407) ∈ wsX0_below := by decide +kernel
theorem lX0_below_17 : Cond.constantLong RX0 17 (2147483647) ∈ wsX0_below := by decide +kernel
theorem lX0_below_19 : Cond.constantLong RX0 19 (4096) ∈ wsX0_below := by decide +kernel
theorem iX0_below_X0 : ∀ w ∈ u_ws RX0 TX0 1, w ∈ wsX0_below := by decide +kernel
set_option maxHeartbeats 4000000 in
set_option maxRecDepth 100000 in
theorem k_X0_below (E : gE) (l : Launch) {a_D : Nat} {now : Int64} {n : Int} (hn : 1 ≤ n ∧ n < 2147483648) : gUpd E l yX0_below wsX0_below { frames := 0, cells := 0, slots := 0, locals := 0 } [.ref a_D, .int (iI n)] [(a_D, .inr (0, [.long now]))] (some (.int (iI (dvI (dnI now) n)))) [(a_D, .inr (0, [.long (dnI now)]))] := by
  refine g_start (cc := cX0_below) (maxL := 2) (ret := (some .int)) (by decide) rfl (Nat.le_of_ble_eq_true rfl) ?_
  intro p_ e_ s_ m_ args_ below_ meth_ c_ A_ C hr hnm
  refine g_aload_n 1 C 0 dX0_below_0 rfl rfl ?_
  refine g_aload_n 2 C 0 dX0_below_1 rfl rfl ?_
  refine g_get 5 C 0 0 0 iX0_below_X0 lX0_below_7 dX0_below_2 rfl rfl rfl (by decide) rfl ?_
  refine g_ldc2 8 C (6364136223846793005) dX0_below_5 rfl lX0_below_13 (by decide) ?_
  refine g_lmul_r 9 C dX0_below_8 rfl ?_
  refine g_ldc2 12 C (1442695040888963407) dX0_below_9 rfl lX0_below_15 (by decide) ?_
  refine g_ladd_r 13 C dX0_below_12 rfl ?_
  refine g_put (ws' := [(_, .inr (0, [_]))]) 16 C 0 0 0 tyX0 tyX0_ok nmX0 iX0_below_X0 lX0_below_7 dX0_below_13 rfl rfl rfl (by decide) rfl rfl rfl (Nat.le_of_ble_eq_true rfl) rfl ?_
  refine g_iload_n 17 C 1 dX0_below_16 rfl rfl ?_
  refine g_iconst 18 C dX0_below_17 rfl ?_
  refine g_icmp_ge 25 21 C dX0_below_18 (by decide) rfl (by omega) ?_ (fun h18 => absurd h18 (by omega))
  intro h18
  refine g_aload_n 26 C 0 dX0_below_25 rfl rfl ?_
  refine g_get 29 C 0 0 0 iX0_below_X0 lX0_below_7 dX0_below_26 rfl rfl rfl (by decide) rfl ?_
  refine g_ldc2 32 C (2147483647) dX0_below_29 rfl lX0_below_17 (by decide) ?_
  refine g_land_r 33 C dX0_below_32 rfl ?_
  refine g_ldc2 36 C (4096) dX0_below_33 rfl lX0_below_19 (by decide) ?_
  refine g_ldiv_r 37 C dX0_below_36 rfl (by decide) ?_
  refine g_iload_n 38 C 1 dX0_below_37 rfl rfl ?_
  refine g_i2l 39 C dX0_below_38 rfl (by omega) ?_
  refine g_lrem_r 40 C dX0_below_39 rfl (fun q => by have := (lI_inj (a := n) (b := 0) (by omega) (by omega) (by omega) (by omega)).mp q; omega) ?_
  refine g_l2i_r 41 C dX0_below_40 rfl ?_
  exact g_iret C hr dX0_below_41 ⟨congrArg some (congrArg Value.int (iI_of _).symm), rfl⟩
theorem lX2_size_18 : Cond.fieldLink RX2 18 (TX2 2).1 (TX2 2).2.1 (TX2 2).2.2.1 ∈ wsX2_size := by decide +kernel
theorem iX2_size_X2 : ∀ w ∈ u_ws RX2 TX2 3, w ∈ wsX2_size := by decide +kernel
set_option maxHeartbeats 4000000 in
set_option maxRecDepth 100000 in
theorem k_X2_size (E : gE) (l : Launch) {a_L a_pc a_tn : Nat} {n : Int}  : gFun E l yX2_size wsX2_size { frames := 0, cells := 0, slots := 0, locals := 0 } [.ref a_L] [(a_L, .inr (2, [.ref a_pc, .ref a_tn, .int (iI n)]))] (.int (iI n)) := by
  refine g_start (cc := cX2_size) (maxL := 1) (ret := (some .int)) (by decide) rfl (Nat.le_of_ble_eq_true rfl) ?_
  intro p_ e_ s_ m_ args_ below_ meth_ c_ A_ C hr hnm
  refine g_aload_n 1 C 0 dX2_size_0 rfl rfl ?_
  refine g_get 4 C 0 2 2 iX2_size_X2 lX2_size_18 dX2_size_1 rfl rfl rfl (by decide) rfl ?_
  exact g_iret C hr dX2_size_4 ⟨g_ri (by first | rfl | omega | exact (if_pos (by omega)).symm | exact (if_neg (by omega)).symm), rfl⟩
theorem lX2_isFull_18 : Cond.fieldLink RX2 18 (TX2 2).1 (TX2 2).2.1 (TX2 2).2.2.1 ∈ wsX2_isFull := by decide +kernel
theorem iX2_isFull_X2 : ∀ w ∈ u_ws RX2 TX2 3, w ∈ wsX2_isFull := by decide +kernel
set_option maxHeartbeats 4000000 in
set_option maxRecDepth 100000 in
theorem k_X2_isFull (E : gE) (l : Launch) {a_L a_pc a_tn : Nat} {n : Int} (hn : 0 ≤ n ∧ n ≤ 25) : gFun E l yX2_isFull wsX2_isFull { frames := 0, cells := 0, slots := 0, locals := 0 } [.ref a_L] [(a_L, .inr (2, [.ref a_pc, .ref a_tn, .int (iI n)]))] (.int (iI (if 25 ≤ n then 1 else 0))) := by
  refine g_start (cc := cX2_isFull) (maxL := 1) (ret := (some .boolean)) (by decide) rfl (Nat.le_of_ble_eq_true rfl) ?_
  intro p_ e_ s_ m_ args_ below_ meth_ c_ A_ C hr hnm
  refine g_aload_n 1 C 0 dX2_isFull_0 rfl rfl ?_
  refine g_get 4 C 0 2 2 iX2_isFull_X2 lX2_isFull_18 dX2_isFull_1 rfl rfl rfl (by decide) rfl ?_
  refine g_bipush 6 C dX2_isFull_4 rfl (by decide) ?_
  refine g_icmp_lt 13 9 C dX2_isFull_6 (by decide) rfl (by omega) ?_ ?_
  · intro h6
    refine g_iconst 14 C dX2_isFull_13 rfl ?_
    exact g_zret C hr dX2_isFull_14 (by first | rfl | decide | (split <;> rfl)) ⟨g_ri (by first | rfl | omega | exact (if_pos (by omega)).symm | exact (if_neg (by omega)).symm), rfl⟩
  · intro h6
    refine g_iconst 10 C dX2_isFull_9 rfl ?_
    refine g_goto 14 C dX2_isFull_10 (by decide) ?_
    exact g_zret C hr dX2_isFull_14 (by first | rfl | decide | (split <;> rfl)) ⟨g_ri (by first | rfl | omega | exact (if_pos (by omega)).symm | exact (if_neg (by omega)).symm), rfl⟩
theorem lX2_hasPlace_18 : Cond.fieldLink RX2 18 (TX2 2).1 (TX2 2).2.1 (TX2 2).2.2.1 ∈ wsX2_hasPlace := by decide +kernel
theorem iX2_hasPlace_X2 : ∀ w ∈ u_ws RX2 TX2 3, w ∈ wsX2_hasPlace := by decide +kernel
set_option maxHeartbeats 4000000 in
set_option maxRecDepth 100000 in
theorem k_X2_hasPlace (E : gE) (l : Launch) {a_L a_pc a_tn : Nat} {n i : Int} (hn : 0 ≤ n ∧ n ≤ 25) (hi : -2147483648 ≤ i ∧ i < 2147483648) : gFun E l yX2_hasPlace wsX2_hasPlace { frames := 0, cells := 0, slots := 0, locals := 0 } [.ref a_L, .int (iI i)] [(a_L, .inr (2, [.ref a_pc, .ref a_tn, .int (iI n)]))] (.int (iI (if 0 ≤ i ∧ i < n then 1 else 0))) := by
  refine g_start (cc := cX2_hasPlace) (maxL := 2) (ret := (some .boolean)) (by decide) rfl (Nat.le_of_ble_eq_true rfl) ?_
  intro p_ e_ s_ m_ args_ below_ meth_ c_ A_ C hr hnm
  refine g_iload_n 1 C 1 dX2_hasPlace_0 rfl rfl ?_
  refine g_if_lt 16 4 C dX2_hasPlace_1 (by decide) rfl (by omega) ?_ ?_
  · intro h1
    refine g_iconst 17 C dX2_hasPlace_16 rfl ?_
    exact g_zret C hr dX2_hasPlace_17 (by first | rfl | decide | (split <;> rfl)) ⟨g_ri (by first | rfl | omega | exact (if_pos (by omega)).symm | exact (if_neg (by omega)).symm), rfl⟩
  · intro h1
    refine g_iload_n 5 C 1 dX2_hasPlace_4 rfl rfl ?_
    refine g_aload_n 6 C 0 dX2_hasPlace_5 rfl rfl ?_
    refine g_get 9 C 0 2 2 iX2_hasPlace_X2 lX2_hasPlace_18 dX2_hasPlace_6 rfl rfl rfl (by decide) rfl ?_
    refine g_icmp_ge 16 12 C dX2_hasPlace_9 (by decide) rfl (by omega) ?_ ?_
    · intro h9
      refine g_iconst 17 C dX2_hasPlace_16 rfl ?_
      exact g_zret C hr dX2_hasPlace_17 (by first | rfl | decide | (split <;> rfl)) ⟨g_ri (by first | rfl | omega | exact (if_pos (by omega)).symm | exact (if_neg (by omega)).symm), rfl⟩
    · intro h9
      refine g_iconst 13 C dX2_hasPlace_12 rfl ?_
      refine g_goto 17 C dX2_hasPlace_13 (by decide) ?_
      exact g_zret C hr dX2_hasPlace_17 (by first | rfl | decide | (split <;> rfl)) ⟨g_ri (by first | rfl | omega | exact (if_pos (by omega)).symm | exact (if_neg (by omega)).symm), rfl⟩
theorem cdX2_hasPlace : yX2_hasPlace.cls = RX2 ∧ yX2_hasPlace.cls ≠ "java/lang/invoke/MethodHandle" ∧ yX2_hasPlace.cls ≠ "java/lang/invoke/VarHandle" ∧ (parseMethodDescriptor yX2_hasPlace.desc).map (fun d => d.parameters.length) = some 1 := by decide +kernel
theorem lX2_pieceAt_9 : Cond.fieldLink RX2 9 (TX2 0).1 (TX2 0).2.1 (TX2 0).2.2.1 ∈ wsX2_pieceAt := by decide +kernel
theorem iX2_pieceAt_X2 : ∀ w ∈ u_ws RX2 TX2 3, w ∈ wsX2_pieceAt := by decide +kernel
set_option maxHeartbeats 4000000 in
set_option maxRecDepth 100000 in
theorem k_X2_pieceAt (E : gE) (l : Launch) {a_L a_pc a_tn : Nat} {n i : Int} {pc : Int → Int} (hn : 0 ≤ n ∧ n ≤ 25) (hi : 0 ≤ i ∧ i < n) : gFun E l yX2_pieceAt wsX2_pieceAt { frames := 1, cells := 0, slots := 0, locals := 21 } [.ref a_L, .int (iI i)] [(a_L, .inr (2, [.ref a_pc, .ref a_tn, .int (iI n)])), (a_pc, aI E 25 pc)] (.int (iI (pc i))) := by
  refine g_start (cc := cX2_pieceAt) (maxL := 2) (ret := (some .int)) (by decide) rfl (Nat.le_of_ble_eq_true rfl) ?_
  intro p_ e_ s_ m_ args_ below_ meth_ c_ A_ C hr hnm
  refine g_aload_n 1 C 0 dX2_pieceAt_0 rfl rfl ?_
  refine g_iload_n 2 C 1 dX2_pieceAt_1 rfl rfl ?_
  refine g_callVF 5 C [0] dX2_pieceAt_2 rfl (k_X2_hasPlace E l  (by first | assumption | omega) (by first | assumption | omega)) (cwV 1 C.2.2.2.2.1 gX2_pieceAt_X2_hasPlace rfl rfl rfl cdX2_hasPlace ⟨Nat.le_of_ble_eq_true rfl, Nat.le_of_ble_eq_true rfl⟩) rfl rfl rfl rfl (Nat.le_of_ble_eq_true rfl) 0 2 rfl rfl rfl ⟨Nat.le_of_ble_eq_true rfl, Nat.le_of_ble_eq_true rfl⟩ ?_
  refine g_ifb_eq 17 8 C dX2_pieceAt_5 (by decide) rfl (fun h5 => absurd h5 (by omega)) ?_
  intro h5
  refine g_aload_n 9 C 0 dX2_pieceAt_8 rfl rfl ?_
  refine g_get 12 C 0 0 2 iX2_pieceAt_X2 lX2_pieceAt_9 dX2_pieceAt_9 rfl rfl rfl (by decide) rfl ?_
  refine g_iload_n 13 C 1 dX2_pieceAt_12 rfl rfl ?_
  refine g_iaload 14 C 1 dX2_pieceAt_13 rfl rfl (by omega) ?_
  refine g_goto 19 C dX2_pieceAt_14 (by decide) ?_
  exact g_iret C hr dX2_pieceAt_19 ⟨g_ri (by first | rfl | omega | exact (if_pos (by omega)).symm | exact (if_neg (by omega)).symm), rfl⟩
theorem lX2_turnAt_15 : Cond.fieldLink RX2 15 (TX2 1).1 (TX2 1).2.1 (TX2 1).2.2.1 ∈ wsX2_turnAt := by decide +kernel
theorem iX2_turnAt_X2 : ∀ w ∈ u_ws RX2 TX2 3, w ∈ wsX2_turnAt := by decide +kernel
set_option maxHeartbeats 4000000 in
set_option maxRecDepth 100000 in
theorem k_X2_turnAt (E : gE) (l : Launch) {a_L a_pc a_tn : Nat} {n i : Int} {tn : Int → Int} (hn : 0 ≤ n ∧ n ≤ 25) (hi : 0 ≤ i ∧ i < n) : gFun E l yX2_turnAt wsX2_turnAt { frames := 1, cells := 0, slots := 0, locals := 21 } [.ref a_L, .int (iI i)] [(a_L, .inr (2, [.ref a_pc, .ref a_tn, .int (iI n)])), (a_tn, aI E 25 tn)] (.int (iI (tn i))) := by
  refine g_start (cc := cX2_turnAt) (maxL := 2) (ret := (some .int)) (by decide) rfl (Nat.le_of_ble_eq_true rfl) ?_
  intro p_ e_ s_ m_ args_ below_ meth_ c_ A_ C hr hnm
  refine g_aload_n 1 C 0 dX2_turnAt_0 rfl rfl ?_
  refine g_iload_n 2 C 1 dX2_turnAt_1 rfl rfl ?_
  refine g_callVF 5 C [0] dX2_turnAt_2 rfl (k_X2_hasPlace E l  (by first | assumption | omega) (by first | assumption | omega)) (cwV 1 C.2.2.2.2.1 gX2_turnAt_X2_hasPlace rfl rfl rfl cdX2_hasPlace ⟨Nat.le_of_ble_eq_true rfl, Nat.le_of_ble_eq_true rfl⟩) rfl rfl rfl rfl (Nat.le_of_ble_eq_true rfl) 0 2 rfl rfl rfl ⟨Nat.le_of_ble_eq_true rfl, Nat.le_of_ble_eq_true rfl⟩ ?_
  refine g_ifb_eq 17 8 C dX2_turnAt_5 (by decide) rfl (fun h5 => absurd h5 (by omega)) ?_
  intro h5
  refine g_aload_n 9 C 0 dX2_turnAt_8 rfl rfl ?_
  refine g_get 12 C 0 1 2 iX2_turnAt_X2 lX2_turnAt_15 dX2_turnAt_9 rfl rfl rfl (by decide) rfl ?_
  refine g_iload_n 13 C 1 dX2_turnAt_12 rfl rfl ?_
  refine g_iaload 14 C 1 dX2_turnAt_13 rfl rfl (by omega) ?_
  refine g_goto 18 C dX2_turnAt_14 (by decide) ?_
  exact g_iret C hr dX2_turnAt_18 ⟨g_ri (by first | rfl | omega | exact (if_pos (by omega)).symm | exact (if_neg (by omega)).symm), rfl⟩
theorem lX2_clearAll_18 : Cond.fieldLink RX2 18 (TX2 2).1 (TX2 2).2.1 (TX2 2).2.2.1 ∈ wsX2_clearAll := by decide +kernel
theorem iX2_clearAll_X2 : ∀ w ∈ u_ws RX2 TX2 3, w ∈ wsX2_clearAll := by decide +kernel
set_option maxHeartbeats 4000000 in
set_option maxRecDepth 100000 in
theorem k_X2_clearAll (E : gE) (l : Launch) {a_L a_pc a_tn : Nat} {n : Int}  : gUpd E l yX2_clearAll wsX2_clearAll { frames := 0, cells := 0, slots := 0, locals := 0 } [.ref a_L] [(a_L, .inr (2, [.ref a_pc, .ref a_tn, .int (iI n)]))] none [(a_L, .inr (2, [.ref a_pc, .ref a_tn, .int (iI 0)]))] := by
  refine g_start (cc := cX2_clearAll) (maxL := 1) (ret := none) (by decide) rfl (Nat.le_of_ble_eq_true rfl) ?_
  intro p_ e_ s_ m_ args_ below_ meth_ c_ A_ C hr hnm
  refine g_aload_n 1 C 0 dX2_clearAll_0 rfl rfl ?_
  refine g_iconst 2 C dX2_clearAll_1 rfl ?_
  refine g_put (ws' := [(_, .inr (2, [_, _, _]))]) 5 C 0 2 2 tyX2 tyX2_ok nmX2 iX2_clearAll_X2 lX2_clearAll_18 dX2_clearAll_2 rfl rfl rfl (by decide) rfl rfl rfl (Nat.le_of_ble_eq_true rfl) rfl ?_
  exact g_vret C hr dX2_clearAll_5 ⟨rfl, rfl⟩
theorem cdX2_isFull : yX2_isFull.cls = RX2 ∧ yX2_isFull.cls ≠ "java/lang/invoke/MethodHandle" ∧ yX2_isFull.cls ≠ "java/lang/invoke/VarHandle" ∧ (parseMethodDescriptor yX2_isFull.desc).map (fun d => d.parameters.length) = some 0 := by decide +kernel
theorem lX2_append_15 : Cond.fieldLink RX2 15 (TX2 1).1 (TX2 1).2.1 (TX2 1).2.2.1 ∈ wsX2_append := by decide +kernel
theorem lX2_append_18 : Cond.fieldLink RX2 18 (TX2 2).1 (TX2 2).2.1 (TX2 2).2.2.1 ∈ wsX2_append := by decide +kernel
theorem lX2_append_9 : Cond.fieldLink RX2 9 (TX2 0).1 (TX2 0).2.1 (TX2 0).2.2.1 ∈ wsX2_append := by decide +kernel
theorem iX2_append_X2 : ∀ w ∈ u_ws RX2 TX2 3, w ∈ wsX2_append := by decide +kernel
set_option maxHeartbeats 4000000 in
set_option maxRecDepth 100000 in
theorem k_X2_append (E : gE) (l : Launch) {a_L a_pc a_tn : Nat} {n p t : Int} {pc tn : Int → Int} (hn : 0 ≤ n ∧ n < 25) : gUpd E l yX2_append wsX2_append { frames := 1, cells := 0, slots := 0, locals := 20 } [.ref a_L, .int (iI p), .int (iI t)] [(a_L, .inr (2, [.ref a_pc, .ref a_tn, .int (iI n)])), (a_pc, aI E 25 pc), (a_tn, aI E 25 tn)] none [(a_L, .inr (2, [.ref a_pc, .ref a_tn, .int (iI (n + 1))])), (a_pc, aI E 25 (uI pc n p)), (a_tn, aI E 25 (uI tn n t))] := by
  refine g_start (cc := cX2_append) (maxL := 3) (ret := none) (by decide) rfl (Nat.le_of_ble_eq_true rfl) ?_
  intro p_ e_ s_ m_ args_ below_ meth_ c_ A_ C hr hnm
  refine g_aload_n 1 C 0 dX2_append_0 rfl rfl ?_
  refine g_callVF 4 C [0] dX2_append_1 rfl (k_X2_isFull E l  (by first | assumption | omega)) (cwV 0 C.2.2.2.2.1 gX2_append_X2_isFull rfl rfl rfl cdX2_isFull ⟨Nat.le_of_ble_eq_true rfl, Nat.le_of_ble_eq_true rfl⟩) rfl rfl rfl rfl (Nat.le_of_ble_eq_true rfl) 0 2 rfl rfl rfl ⟨Nat.le_of_ble_eq_true rfl, Nat.le_of_ble_eq_true rfl⟩ ?_
  refine g_ifb_ne 37 7 C dX2_append_4 (by decide) rfl (fun h4 => absurd h4 (by omega)) ?_
  intro h4
  refine g_aload_n 8 C 0 dX2_append_7 rfl rfl ?_
  refine g_get 11 C 0 0 2 iX2_append_X2 lX2_append_9 dX2_append_8 rfl rfl rfl (by decide) rfl ?_
  refine g_aload_n 12 C 0 dX2_append_11 rfl rfl ?_
  refine g_get 15 C 0 2 2 iX2_append_X2 lX2_append_18 dX2_append_12 rfl rfl rfl (by decide) rfl ?_
  refine g_iload_n 16 C 1 dX2_append_15 rfl rfl ?_
  refine g_iastore (ws' := [(_, .inr (2, [_, _, _])), (_, aI _ _ _), (_, aI _ _ _)]) 17 C 1 dX2_append_16 rfl rfl (by omega) rfl ?_
  refine g_aload_n 18 C 0 dX2_append_17 rfl rfl ?_
  refine g_get 21 C 0 1 2 iX2_append_X2 lX2_append_15 dX2_append_18 rfl rfl rfl (by decide) rfl ?_
  refine g_aload_n 22 C 0 dX2_append_21 rfl rfl ?_
  refine g_get 25 C 0 2 2 iX2_append_X2 lX2_append_18 dX2_append_22 rfl rfl rfl (by decide) rfl ?_
  refine g_iload_n 26 C 2 dX2_append_25 rfl rfl ?_
  refine g_iastore (ws' := [(_, .inr (2, [_, _, _])), (_, aI _ _ _), (_, aI _ _ _)]) 27 C 2 dX2_append_26 rfl rfl (by omega) rfl ?_
  refine g_aload_n 28 C 0 dX2_append_27 rfl rfl ?_
  refine g_dup 29 C dX2_append_28 rfl rfl ?_
  refine g_get 32 C 0 2 2 iX2_append_X2 lX2_append_18 dX2_append_29 rfl rfl rfl (by decide) rfl ?_
  refine g_iconst 33 C dX2_append_32 rfl ?_
  refine g_iadd 34 C dX2_append_33 rfl ?_
  refine g_put (ws' := [(_, .inr (2, [_, _, _])), (_, aI _ _ _), (_, aI _ _ _)]) 37 C 0 2 2 tyX2 tyX2_ok nmX2 iX2_append_X2 lX2_append_18 dX2_append_34 rfl rfl rfl (by decide) rfl rfl rfl (Nat.le_of_ble_eq_true rfl) rfl ?_
  exact g_vret C hr dX2_append_37 ⟨rfl, rfl⟩
theorem lX2_setTurn_15 : Cond.fieldLink RX2 15 (TX2 1).1 (TX2 1).2.1 (TX2 1).2.2.1 ∈ wsX2_setTurn := by decide +kernel
theorem iX2_setTurn_X2 : ∀ w ∈ u_ws RX2 TX2 3, w ∈ wsX2_setTurn := by decide +kernel
set_option maxHeartbeats 4000000 in
set_option maxRecDepth 100000 in
theorem k_X2_setTurn (E : gE) (l : Launch) {a_L a_pc a_tn : Nat} {n i t : Int} {tn : Int → Int} (hn : 0 ≤ n ∧ n ≤ 25) (hi : 0 ≤ i ∧ i < n) : gUpd E l yX2_setTurn wsX2_setTurn { frames := 1, cells := 0, slots := 0, locals := 21 } [.ref a_L, .int (iI i), .int (iI t)] [(a_L, .inr (2, [.ref a_pc, .ref a_tn, .int (iI n)])), (a_tn, aI E 25 tn)] none [(a_L, .inr (2, [.ref a_pc, .ref a_tn, .int (iI n)])), (a_tn, aI E 25 (uI tn i t))] := by
  refine g_start (cc := cX2_setTurn) (maxL := 3) (ret := none) (by decide) rfl (Nat.le_of_ble_eq_true rfl) ?_
  intro p_ e_ s_ m_ args_ below_ meth_ c_ A_ C hr hnm
  refine g_aload_n 1 C 0 dX2_setTurn_0 rfl rfl ?_
  refine g_iload_n 2 C 1 dX2_setTurn_1 rfl rfl ?_
  refine g_callVF 5 C [0] dX2_setTurn_2 rfl (k_X2_hasPlace E l  (by first | assumption | omega) (by first | assumption | omega)) (cwV 1 C.2.2.2.2.1 gX2_setTurn_X2_hasPlace rfl rfl rfl cdX2_hasPlace ⟨Nat.le_of_ble_eq_true rfl, Nat.le_of_ble_eq_true rfl⟩) rfl rfl rfl rfl (Nat.le_of_ble_eq_true rfl) 0 2 rfl rfl rfl ⟨Nat.le_of_ble_eq_true rfl, Nat.le_of_ble_eq_true rfl⟩ ?_
  refine g_ifb_eq 15 8 C dX2_setTurn_5 (by decide) rfl (fun h5 => absurd h5 (by omega)) ?_
  intro h5
  refine g_aload_n 9 C 0 dX2_setTurn_8 rfl rfl ?_
  refine g_get 12 C 0 1 2 iX2_setTurn_X2 lX2_setTurn_15 dX2_setTurn_9 rfl rfl rfl (by decide) rfl ?_
  refine g_iload_n 13 C 1 dX2_setTurn_12 rfl rfl ?_
  refine g_iload_n 14 C 2 dX2_setTurn_13 rfl rfl ?_
  refine g_iastore (ws' := [(_, .inr (2, [_, _, _])), (_, aI _ _ _)]) 15 C 1 dX2_setTurn_14 rfl rfl (by omega) rfl ?_
  exact g_vret C hr dX2_setTurn_15 ⟨rfl, rfl⟩
theorem lX2_swapPieces_9 : Cond.fieldLink RX2 9 (TX2 0).1 (TX2 0).2.1 (TX2 0).2.2.1 ∈ wsX2_swapPieces := by decide +kernel
theorem iX2_swapPieces_X2 : ∀ w ∈ u_ws RX2 TX2 3, w ∈ wsX2_swapPieces := by decide +kernel
set_option maxHeartbeats 4000000 in
set_option maxRecDepth 100000 in
theorem k_X2_swapPieces (E : gE) (l : Launch) {a_L a_pc a_tn : Nat} {n i j : Int} {pc : Int → Int} (hn : 0 ≤ n ∧ n ≤ 25) (hi : 0 ≤ i ∧ i < n) (hj : 0 ≤ j ∧ j < n) : gUpd E l yX2_swapPieces wsX2_swapPieces { frames := 1, cells := 0, slots := 0, locals := 21 } [.ref a_L, .int (iI i), .int (iI j)] [(a_L, .inr (2, [.ref a_pc, .ref a_tn, .int (iI n)])), (a_pc, aI E 25 pc)] none [(a_L, .inr (2, [.ref a_pc, .ref a_tn, .int (iI n)])), (a_pc, aI E 25 (uI (uI pc i (pc j)) j (pc i)))] := by
  refine g_start (cc := cX2_swapPieces) (maxL := 4) (ret := none) (by decide) rfl (Nat.le_of_ble_eq_true rfl) ?_
  intro p_ e_ s_ m_ args_ below_ meth_ c_ A_ C hr hnm
  refine g_aload_n 1 C 0 dX2_swapPieces_0 rfl rfl ?_
  refine g_iload_n 2 C 1 dX2_swapPieces_1 rfl rfl ?_
  refine g_callVF 5 C [0] dX2_swapPieces_2 rfl (k_X2_hasPlace E l  (by first | assumption | omega) (by first | assumption | omega)) (cwV 1 C.2.2.2.2.1 gX2_swapPieces_X2_hasPlace rfl rfl rfl cdX2_hasPlace ⟨Nat.le_of_ble_eq_true rfl, Nat.le_of_ble_eq_true rfl⟩) rfl rfl rfl rfl (Nat.le_of_ble_eq_true rfl) 0 2 rfl rfl rfl ⟨Nat.le_of_ble_eq_true rfl, Nat.le_of_ble_eq_true rfl⟩ ?_
  refine g_ifb_eq 42 8 C dX2_swapPieces_5 (by decide) rfl (fun h5 => absurd h5 (by omega)) ?_
  intro h5
  refine g_aload_n 9 C 0 dX2_swapPieces_8 rfl rfl ?_
  refine g_iload_n 10 C 2 dX2_swapPieces_9 rfl rfl ?_
  refine g_callVF 13 C [0] dX2_swapPieces_10 rfl (k_X2_hasPlace E l  (by first | assumption | omega) (by first | assumption | omega)) (cwV 1 C.2.2.2.2.1 gX2_swapPieces_X2_hasPlace rfl rfl rfl cdX2_hasPlace ⟨Nat.le_of_ble_eq_true rfl, Nat.le_of_ble_eq_true rfl⟩) rfl rfl rfl rfl (Nat.le_of_ble_eq_true rfl) 0 2 rfl rfl rfl ⟨Nat.le_of_ble_eq_true rfl, Nat.le_of_ble_eq_true rfl⟩ ?_
  refine g_ifb_eq 42 16 C dX2_swapPieces_13 (by decide) rfl (fun h13 => absurd h13 (by omega)) ?_
  intro h13
  refine g_aload_n 17 C 0 dX2_swapPieces_16 rfl rfl ?_
  refine g_get 20 C 0 0 2 iX2_swapPieces_X2 lX2_swapPieces_9 dX2_swapPieces_17 rfl rfl rfl (by decide) rfl ?_
  refine g_iload_n 21 C 1 dX2_swapPieces_20 rfl rfl ?_
  refine g_iaload 22 C 1 dX2_swapPieces_21 rfl rfl (by omega) ?_
  refine g_istore_n (lv' := [(3, _), (0, _), (1, _), (2, _)]) 23 C dX2_swapPieces_22 rfl rfl (by decide) rfl ?_
  refine g_aload_n 24 C 1 dX2_swapPieces_23 rfl rfl ?_
  refine g_get 27 C 0 0 2 iX2_swapPieces_X2 lX2_swapPieces_9 dX2_swapPieces_24 rfl rfl rfl (by decide) rfl ?_
  refine g_iload_n 28 C 2 dX2_swapPieces_27 rfl rfl ?_
  refine g_aload_n 29 C 1 dX2_swapPieces_28 rfl rfl ?_
  refine g_get 32 C 0 0 2 iX2_swapPieces_X2 lX2_swapPieces_9 dX2_swapPieces_29 rfl rfl rfl (by decide) rfl ?_
  refine g_iload_n 33 C 3 dX2_swapPieces_32 rfl rfl ?_
  refine g_iaload 34 C 1 dX2_swapPieces_33 rfl rfl (by omega) ?_
  refine g_iastore (ws' := [(_, .inr (2, [_, _, _])), (_, aI _ _ _)]) 35 C 1 dX2_swapPieces_34 rfl rfl (by omega) rfl ?_
  refine g_aload_n 36 C 1 dX2_swapPieces_35 rfl rfl ?_
  refine g_get 39 C 0 0 2 iX2_swapPieces_X2 lX2_swapPieces_9 dX2_swapPieces_36 rfl rfl rfl (by decide) rfl ?_
  refine g_iload_n 40 C 3 dX2_swapPieces_39 rfl rfl ?_
  refine g_iload_n 41 C 0 dX2_swapPieces_40 rfl rfl ?_
  refine g_iastore (ws' := [(_, .inr (2, [_, _, _])), (_, aI _ _ _)]) 42 C 1 dX2_swapPieces_41 rfl rfl (by omega) rfl ?_
  exact g_vret C hr dX2_swapPieces_42 ⟨rfl, rfl⟩
theorem lX2_removeAt_15 : Cond.fieldLink RX2 15 (TX2 1).1 (TX2 1).2.1 (TX2 1).2.2.1 ∈ wsX2_removeAt := by decide +kernel
theorem lX2_removeAt_18 : Cond.fieldLink RX2 18 (TX2 2).1 (TX2 2).2.1 (TX2 2).2.2.1 ∈ wsX2_removeAt := by decide +kernel
theorem lX2_removeAt_9 : Cond.fieldLink RX2 9 (TX2 0).1 (TX2 0).2.1 (TX2 0).2.2.1 ∈ wsX2_removeAt := by decide +kernel
theorem iX2_removeAt_X2 : ∀ w ∈ u_ws RX2 TX2 3, w ∈ wsX2_removeAt := by decide +kernel
set_option maxHeartbeats 4000000 in
set_option maxRecDepth 100000 in
theorem k_X2_removeAt (E : gE) (l : Launch) {a_L a_pc a_tn : Nat} {n i : Int} {pc tn : Int → Int} (hn : 0 ≤ n ∧ n ≤ 25) (hi : 0 ≤ i ∧ i < n) : gUpd E l yX2_removeAt wsX2_removeAt { frames := 1, cells := 0, slots := 0, locals := 21 } [.ref a_L, .int (iI i)] [(a_L, .inr (2, [.ref a_pc, .ref a_tn, .int (iI n)])), (a_pc, aI E 25 pc), (a_tn, aI E 25 tn)] none [(a_L, .inr (2, [.ref a_pc, .ref a_tn, .int (iI (n - 1))])), (a_pc, aI E 25 (rmI pc i n)), (a_tn, aI E 25 (rmI tn i n))] := by
  refine g_start (cc := cX2_removeAt) (maxL := 3) (ret := none) (by decide) rfl (Nat.le_of_ble_eq_true rfl) ?_
  intro p_ e_ s_ m_ args_ below_ meth_ c_ A_ C hr hnm
  refine g_aload_n 1 C 0 dX2_removeAt_0 rfl rfl ?_
  refine g_iload_n 2 C 1 dX2_removeAt_1 rfl rfl ?_
  refine g_callVF 5 C [0] dX2_removeAt_2 rfl (k_X2_hasPlace E l  (by first | assumption | omega) (by first | assumption | omega)) (cwV 1 C.2.2.2.2.1 gX2_removeAt_X2_hasPlace rfl rfl rfl cdX2_hasPlace ⟨Nat.le_of_ble_eq_true rfl, Nat.le_of_ble_eq_true rfl⟩) rfl rfl rfl rfl (Nat.le_of_ble_eq_true rfl) 0 2 rfl rfl rfl ⟨Nat.le_of_ble_eq_true rfl, Nat.le_of_ble_eq_true rfl⟩ ?_
  refine g_ifb_eq 64 8 C dX2_removeAt_5 (by decide) rfl (fun h5 => absurd h5 (by omega)) ?_
  intro h5
  refine g_iload_n 9 C 1 dX2_removeAt_8 rfl rfl ?_
  refine g_iconst 10 C dX2_removeAt_9 rfl ?_
  refine g_iadd 11 C dX2_removeAt_10 rfl ?_
  refine g_istore_n (lv' := [(2, _), (0, _), (1, _)]) 12 C dX2_removeAt_11 rfl rfl (by decide) rfl ?_
  refine g_loop (α := Int) (fun zz => [(a_L, .inr (2, [.ref a_pc, .ref a_tn, .int (iI n)])), (a_pc, aI E 25 (rmI pc i zz)), (a_tn, aI E 25 (rmI tn i zz))]) (fun zz => [(2, .int (iI zz)), (1, .int (iI i)), (0, .ref a_L)]) (fun zz => i < zz ∧ zz ≤ n) (fun zz => (n - zz).toNat) ((i + 1)) (by (try dsimp only); omega) [0, 2, 1] (by rw [rmI_0, rmI_0]) rfl ?_
  rintro k hI ih12
  try dsimp only at hI ih12 ⊢
  obtain ⟨hk0, hkn⟩ := hI
  refine g_iload_n 13 C 0 dX2_removeAt_12 rfl rfl ?_
  refine g_aload_n 14 C 2 dX2_removeAt_13 rfl rfl ?_
  refine g_get 17 C 0 2 2 iX2_removeAt_X2 lX2_removeAt_18 dX2_removeAt_14 rfl rfl rfl (by decide) rfl ?_
  refine g_icmp_ge 54 20 C dX2_removeAt_17 (by decide) rfl (by omega) ?_ ?_
  · intro h17
    refine g_aload_n 55 C 2 dX2_removeAt_54 rfl rfl ?_
    refine g_dup 56 C dX2_removeAt_55 rfl rfl ?_
    refine g_get 59 C 0 2 2 iX2_removeAt_X2 lX2_removeAt_18 dX2_removeAt_56 rfl rfl rfl (by decide) rfl ?_
    refine g_iconst 60 C dX2_removeAt_59 rfl ?_
    refine g_isub 61 C dX2_removeAt_60 rfl ?_
    refine g_put (ws' := [(_, .inr (2, [_, _, _])), (_, aI _ _ _), (_, aI _ _ _)]) 64 C 0 2 2 tyX2 tyX2_ok nmX2 iX2_removeAt_X2 lX2_removeAt_18 dX2_removeAt_61 rfl rfl rfl (by decide) rfl rfl rfl (Nat.le_of_ble_eq_true rfl) rfl ?_
    exact g_vret C hr dX2_removeAt_64 ⟨rfl, by rw [show k = n by omega]⟩
  · intro h17
    refine g_aload_n 21 C 2 dX2_removeAt_20 rfl rfl ?_
    refine g_get 24 C 0 0 2 iX2_removeAt_X2 lX2_removeAt_9 dX2_removeAt_21 rfl rfl rfl (by decide) rfl ?_
    refine g_iload_n 25 C 0 dX2_removeAt_24 rfl rfl ?_
    refine g_iconst 26 C dX2_removeAt_25 rfl ?_
    refine g_isub 27 C dX2_removeAt_26 rfl ?_
    refine g_aload_n 28 C 2 dX2_removeAt_27 rfl rfl ?_
    refine g_get 31 C 0 0 2 iX2_removeAt_X2 lX2_removeAt_9 dX2_removeAt_28 rfl rfl rfl (by decide) rfl ?_
    refine g_iload_n 32 C 0 dX2_removeAt_31 rfl rfl ?_
    refine g_iaload 33 C 1 dX2_removeAt_32 rfl rfl (by omega) ?_
    refine g_iastore (ws' := [(_, .inr (2, [_, _, _])), (_, aI _ _ _), (_, aI _ _ _)]) 34 C 1 dX2_removeAt_33 rfl rfl (by omega) rfl ?_
    refine g_aload_n 35 C 2 dX2_removeAt_34 rfl rfl ?_
    refine g_get 38 C 0 1 2 iX2_removeAt_X2 lX2_removeAt_15 dX2_removeAt_35 rfl rfl rfl (by decide) rfl ?_
    refine g_iload_n 39 C 0 dX2_removeAt_38 rfl rfl ?_
    refine g_iconst 40 C dX2_removeAt_39 rfl ?_
    refine g_isub 41 C dX2_removeAt_40 rfl ?_
    refine g_aload_n 42 C 2 dX2_removeAt_41 rfl rfl ?_
    refine g_get 45 C 0 1 2 iX2_removeAt_X2 lX2_removeAt_15 dX2_removeAt_42 rfl rfl rfl (by decide) rfl ?_
    refine g_iload_n 46 C 0 dX2_removeAt_45 rfl rfl ?_
    refine g_iaload 47 C 2 dX2_removeAt_46 rfl rfl (by omega) ?_
    refine g_iastore (ws' := [(_, .inr (2, [_, _, _])), (_, aI _ _ _), (_, aI _ _ _)]) 48 C 2 dX2_removeAt_47 rfl rfl (by omega) rfl ?_
    refine g_iinc (lv' := [(2, _), (1, _), (0, _)]) 51 C 0 dX2_removeAt_48 rfl rfl (by decide) rfl ?_
    refine g_goto 12 C dX2_removeAt_51 (by decide) ?_
    exact g_w [0, 1, 2] (by (try dsimp only); rw [rmI_s pc hk0, rmI_s tn hk0]) rfl (ih12 ((k + 1)) (by (try dsimp only); omega) (by (try dsimp only); omega))
theorem lX2_timesOf_18 : Cond.fieldLink RX2 18 (TX2 2).1 (TX2 2).2.1 (TX2 2).2.2.1 ∈ wsX2_timesOf := by decide +kernel
theorem lX2_timesOf_9 : Cond.fieldLink RX2 9 (TX2 0).1 (TX2 0).2.1 (TX2 0).2.2.1 ∈ wsX2_timesOf := by decide +kernel
theorem iX2_timesOf_X2 : ∀ w ∈ u_ws RX2 TX2 3, w ∈ wsX2_timesOf := by decide +kernel
set_option maxHeartbeats 4000000 in
set_option maxRecDepth 100000 in
theorem k_X2_timesOf (E : gE) (l : Launch) {a_L a_pc a_tn : Nat} {n p : Int} {pc : Int → Int} (hn : 0 ≤ n ∧ n ≤ 25) (hpn : ∀ j : Int, 0 ≤ j ∧ j < n → 0 ≤ pc j ∧ pc j < 25) (hp : -2147483648 ≤ p ∧ p < 2147483648) : gFun E l yX2_timesOf wsX2_timesOf { frames := 0, cells := 0, slots := 0, locals := 0 } [.ref a_L, .int (iI p)] [(a_L, .inr (2, [.ref a_pc, .ref a_tn, .int (iI n)])), (a_pc, aI E 25 pc)] (.int (iI (cnI (fun j => pc j = p) n))) := by
  refine g_start (cc := cX2_timesOf) (maxL := 4) (ret := (some .int)) (by decide) rfl (Nat.le_of_ble_eq_true rfl) ?_
  intro p_ e_ s_ m_ args_ below_ meth_ c_ A_ C hr hnm
  refine g_iconst 1 C dX2_timesOf_0 rfl ?_
  refine g_istore_n (lv' := [(2, _), (0, _), (1, _)]) 2 C dX2_timesOf_1 rfl rfl (by decide) rfl ?_
  refine g_iconst 3 C dX2_timesOf_2 rfl ?_
  refine g_istore_n (lv' := [(3, _), (2, _), (0, _), (1, _)]) 4 C dX2_timesOf_3 rfl rfl (by decide) rfl ?_
  refine g_loop (α := Int × Int) (fun zz => [(a_L, .inr (2, [.ref a_pc, .ref a_tn, .int (iI n)])), (a_pc, aI E 25 pc)]) (fun zz => [(2, .int (iI zz.1)), (3, .int (iI zz.2)), (1, .int (iI p)), (0, .ref a_L)]) (fun zz => (0 ≤ zz.2 ∧ zz.2 ≤ n) ∧ zz.1 = cnI (fun j => pc j = p) zz.2) (fun zz => (n - zz.2).toNat) (0, 0) (by
            try dsimp only
            exact ⟨by omega, rfl⟩) [1, 0, 3, 2] rfl rfl ?_
  rintro ⟨c, k⟩ hI ih4
  try dsimp only at hI ih4 ⊢
  obtain ⟨hk, rfl⟩ := hI
  refine g_iload_n 5 C 1 dX2_timesOf_4 rfl rfl ?_
  refine g_aload_n 6 C 3 dX2_timesOf_5 rfl rfl ?_
  refine g_get 9 C 0 2 2 iX2_timesOf_X2 lX2_timesOf_18 dX2_timesOf_6 rfl rfl rfl (by decide) rfl ?_
  refine g_icmp_ge 31 12 C dX2_timesOf_9 (by decide) rfl (by omega) ?_ ?_
  · intro h9
    refine g_iload_n 32 C 0 dX2_timesOf_31 rfl rfl ?_
    exact g_iret C hr dX2_timesOf_32 ⟨g_ri (by rw [show k = n by omega]), rfl⟩
  · intro h9
    refine g_aload_n 13 C 3 dX2_timesOf_12 rfl rfl ?_
    refine g_get 16 C 0 0 2 iX2_timesOf_X2 lX2_timesOf_9 dX2_timesOf_13 rfl rfl rfl (by decide) rfl ?_
    refine g_iload_n 17 C 1 dX2_timesOf_16 rfl rfl ?_
    refine g_iaload 18 C 1 dX2_timesOf_17 rfl rfl (by omega) ?_
    have e0 := hpn k (by omega)
    refine g_iload_n 19 C 2 dX2_timesOf_18 rfl rfl ?_
    refine g_icmp_ne 25 22 C dX2_timesOf_19 (by decide) rfl (by omega) ?_ ?_
    · intro h19
      refine g_iinc (lv' := [(3, _), (2, _), (1, _), (0, _)]) 28 C 1 dX2_timesOf_25 rfl rfl (by decide) rfl ?_
      refine g_goto 4 C dX2_timesOf_28 (by decide) ?_
      first
      | exact g_w [1, 0, 2, 3] rfl rfl (ih4 ((cnI (fun j => pc j = p) k + 1), (k + 1)) (by
            try dsimp only
            exact ⟨by omega, by first | exact (cnI_st (fun j => pc j = p) hk.1 (by assumption)).symm | exact (cnI_sf (fun j => pc j = p) hk.1 (by assumption)).symm⟩) (by (try dsimp only); omega))
      | exact g_w [1, 0, 2, 3] rfl rfl (ih4 ((cnI (fun j => pc j = p) k), (k + 1)) (by
            try dsimp only
            exact ⟨by omega, by first | exact (cnI_st (fun j => pc j = p) hk.1 (by assumption)).symm | exact (cnI_sf (fun j => pc j = p) hk.1 (by assumption)).symm⟩) (by (try dsimp only); omega))
    · intro h19
      refine g_iinc (lv' := [(2, _), (3, _), (1, _), (0, _)]) 25 C 0 dX2_timesOf_22 rfl rfl (by decide) rfl ?_
      refine g_iinc (lv' := [(3, _), (2, _), (1, _), (0, _)]) 28 C 1 dX2_timesOf_25 rfl rfl (by decide) rfl ?_
      refine g_goto 4 C dX2_timesOf_28 (by decide) ?_
      first
      | exact g_w [1, 0, 2, 3] rfl rfl (ih4 ((cnI (fun j => pc j = p) k + 1), (k + 1)) (by
            try dsimp only
            exact ⟨by omega, by first | exact (cnI_st (fun j => pc j = p) hk.1 (by assumption)).symm | exact (cnI_sf (fun j => pc j = p) hk.1 (by assumption)).symm⟩) (by (try dsimp only); omega))
      | exact g_w [1, 0, 2, 3] rfl rfl (ih4 ((cnI (fun j => pc j = p) k), (k + 1)) (by
            try dsimp only
            exact ⟨by omega, by first | exact (cnI_st (fun j => pc j = p) hk.1 (by assumption)).symm | exact (cnI_sf (fun j => pc j = p) hk.1 (by assumption)).symm⟩) (by (try dsimp only); omega))
end
section
theorem dX3_init_0 : decode cX3_init 0 = .ok (.aload_n 0, 1) := by decide +kernel
theorem dX3_init_1 : decode cX3_init 1 = .ok (.invokespecial 3, 3) := by decide +kernel
theorem dX3_init_4 : decode cX3_init 4 = .ok (.aload_n 0, 1) := by decide +kernel
theorem dX3_init_5 : decode cX3_init 5 = .ok (.sipush 400, 3) := by decide +kernel
theorem dX3_init_8 : decode cX3_init 8 = .ok (.newarray .int, 2) := by decide +kernel
theorem dX3_init_10 : decode cX3_init 10 = .ok (.putfield 9, 3) := by decide +kernel
theorem dX3_init_13 : decode cX3_init 13 = .ok (.aload_n 0, 1) := by decide +kernel
theorem dX3_init_14 : decode cX3_init 14 = .ok (.sipush 400, 3) := by decide +kernel
theorem dX3_init_17 : decode cX3_init 17 = .ok (.newarray .int, 2) := by decide +kernel
theorem dX3_init_19 : decode cX3_init 19 = .ok (.putfield 15, 3) := by decide +kernel
theorem dX3_init_22 : decode cX3_init 22 = .ok (.aload_n 0, 1) := by decide +kernel
theorem dX3_init_23 : decode cX3_init 23 = .ok (.bipush 100, 2) := by decide +kernel
theorem dX3_init_25 : decode cX3_init 25 = .ok (.newarray .int, 2) := by decide +kernel
theorem dX3_init_27 : decode cX3_init 27 = .ok (.putfield 18, 3) := by decide +kernel
theorem dX3_init_30 : decode cX3_init 30 = .ok (.aload_n 0, 1) := by decide +kernel
theorem dX3_init_31 : decode cX3_init 31 = .ok (.bipush 25, 2) := by decide +kernel
theorem dX3_init_33 : decode cX3_init 33 = .ok (.newarray .boolean, 2) := by decide +kernel
theorem dX3_init_35 : decode cX3_init 35 = .ok (.putfield 21, 3) := by decide +kernel
theorem dX3_init_38 : decode cX3_init 38 = .ok (.aload_n 0, 1) := by decide +kernel
theorem dX3_init_39 : decode cX3_init 39 = .ok (.bipush 25, 2) := by decide +kernel
theorem dX3_init_41 : decode cX3_init 41 = .ok (.newarray .int, 2) := by decide +kernel
theorem dX3_init_43 : decode cX3_init 43 = .ok (.putfield 25, 3) := by decide +kernel
theorem dX3_init_46 : decode cX3_init 46 = .ok (.aload_n 0, 1) := by decide +kernel
theorem dX3_init_47 : decode cX3_init 47 = .ok (.bipush 25, 2) := by decide +kernel
theorem dX3_init_49 : decode cX3_init 49 = .ok (.newarray .int, 2) := by decide +kernel
theorem dX3_init_51 : decode cX3_init 51 = .ok (.putfield 28, 3) := by decide +kernel
theorem dX3_init_54 : decode cX3_init 54 = .ok (.aload_n 0, 1) := by decide +kernel
theorem dX3_init_55 : decode cX3_init 55 = .ok (.aload_n 1, 1) := by decide +kernel
theorem dX3_init_56 : decode cX3_init 56 = .ok (.putfield 31, 3) := by decide +kernel
theorem dX3_init_59 : decode cX3_init 59 = .ok (.aload_n 0, 1) := by decide +kernel
theorem dX3_init_60 : decode cX3_init 60 = .ok (.aload_n 2, 1) := by decide +kernel
theorem dX3_init_61 : decode cX3_init 61 = .ok (.putfield 35, 3) := by decide +kernel
theorem dX3_init_64 : decode cX3_init 64 = .ok (.return_, 1) := by decide +kernel
theorem dX3_trialsCounted_0 : decode cX3_trialsCounted 0 = .ok (.aload_n 0, 1) := by decide +kernel
theorem dX3_trialsCounted_1 : decode cX3_trialsCounted 1 = .ok (.getfield 39, 3) := by decide +kernel
theorem dX3_trialsCounted_4 : decode cX3_trialsCounted 4 = .ok (.ireturn, 1) := by decide +kernel
theorem dX3_hasJoined_0 : decode cX3_hasJoined 0 = .ok (.aload_n 0, 1) := by decide +kernel
theorem dX3_hasJoined_1 : decode cX3_hasJoined 1 = .ok (.getfield 43, 3) := by decide +kernel
theorem dX3_hasJoined_4 : decode cX3_hasJoined 4 = .ok (.ireturn, 1) := by decide +kernel
theorem dX3_forgetJoined_0 : decode cX3_forgetJoined 0 = .ok (.aload_n 0, 1) := by decide +kernel
theorem dX3_forgetJoined_1 : decode cX3_forgetJoined 1 = .ok (.iconst 0, 1) := by decide +kernel
theorem dX3_forgetJoined_2 : decode cX3_forgetJoined 2 = .ok (.putfield 43, 3) := by decide +kernel
theorem dX3_forgetJoined_5 : decode cX3_forgetJoined 5 = .ok (.return_, 1) := by decide +kernel
set_option maxRecDepth 20000 in
theorem ggX3_joinedFrom_X3_look : GoodIn wsX3_joinedFrom wsX3_look := goodIn_r _ [5] (by decide +kernel) (by decide +kernel)
set_option maxRecDepth 20000 in
theorem gX3_joinedFrom_X3_look : GoodIn wsX3_joinedFrom (va_wsS RX3 47 yX3_look wsX3_look) := goodIn_app (goodIn_of _ (by decide +kernel)) ggX3_joinedFrom_X3_look
theorem dX3_joinedFrom_0 : decode cX3_joinedFrom 0 = .ok (.aload_n 0, 1) := by decide +kernel
theorem dX3_joinedFrom_1 : decode cX3_joinedFrom 1 = .ok (.getfield 28, 3) := by decide +kernel
theorem dX3_joinedFrom_4 : decode cX3_joinedFrom 4 = .ok (.iload_n 1, 1) := by decide +kernel
theorem dX3_joinedFrom_5 : decode cX3_joinedFrom 5 = .ok (.invokestatic 47, 3) := by decide +kernel
theorem dX3_joinedFrom_8 : decode cX3_joinedFrom 8 = .ok (.iconst 4, 1) := by decide +kernel
theorem dX3_joinedFrom_9 : decode cX3_joinedFrom 9 = .ok (.idiv, 1) := by decide +kernel
theorem dX3_joinedFrom_10 : decode cX3_joinedFrom 10 = .ok (.ireturn, 1) := by decide +kernel
set_option maxRecDepth 20000 in
theorem ggX3_joinedTurn_X3_look : GoodIn wsX3_joinedTurn wsX3_look := goodIn_r _ [5] (by decide +kernel) (by decide +kernel)
set_option maxRecDepth 20000 in
theorem gX3_joinedTurn_X3_look : GoodIn wsX3_joinedTurn (va_wsS RX3 47 yX3_look wsX3_look) := goodIn_app (goodIn_of _ (by decide +kernel)) ggX3_joinedTurn_X3_look
theorem dX3_joinedTurn_0 : decode cX3_joinedTurn 0 = .ok (.aload_n 0, 1) := by decide +kernel
theorem dX3_joinedTurn_1 : decode cX3_joinedTurn 1 = .ok (.getfield 28, 3) := by decide +kernel
theorem dX3_joinedTurn_4 : decode cX3_joinedTurn 4 = .ok (.iload_n 1, 1) := by decide +kernel
theorem dX3_joinedTurn_5 : decode cX3_joinedTurn 5 = .ok (.invokestatic 47, 3) := by decide +kernel
theorem dX3_joinedTurn_8 : decode cX3_joinedTurn 8 = .ok (.iconst 4, 1) := by decide +kernel
theorem dX3_joinedTurn_9 : decode cX3_joinedTurn 9 = .ok (.irem, 1) := by decide +kernel
theorem dX3_joinedTurn_10 : decode cX3_joinedTurn 10 = .ok (.ireturn, 1) := by decide +kernel
set_option maxRecDepth 20000 in
theorem ggX3_countWays_X3_run : GoodIn wsX3_countWays wsX3_run := goodIn_r _ [7, 8, 9, 10, 1, 2, 11, 12, 13, 14, 15, 16, 17, 18, 19, 20, 6, 21, 22, 23, 24, 25, 26, 27, 28, 29, 30, 31, 32, 33, 34, 35, 36, 37, 38, 39, 40, 41, 42, 43, 44, 45, 46, 47, 48, 49, 50, 51, 52, 53, 54, 55, 56, 57, 58, 59, 60, 61, 62, 63, 64, 65, 66, 67, 68, 69, 70, 71, 72, 73, 74, 75, 76, 77, 78, 79, 80, 81, 82, 83, 84, 85, 86, 87, 88, 89, 90, 91, 92, 93, 94, 95, 96, 97, 98, 99, 100, 101, 102, 103, 104, 105, 106, 107, 108, 109, 110, 111, 112, 113, 114, 115, 116, 117, 118, 119, 120] (by decide +kernel) (by decide +kernel)
set_option maxRecDepth 20000 in
theorem gX3_countWays_X3_run : GoodIn wsX3_countWays (wsV RX3 51 RX3 yX3_run wsX3_run) := goodIn_app (goodIn_of _ (by decide +kernel)) ggX3_countWays_X3_run
theorem dX3_countWays_0 : decode cX3_countWays 0 = .ok (.aload_n 0, 1) := by decide +kernel
theorem dX3_countWays_1 : decode cX3_countWays 1 = .ok (.iconst 0, 1) := by decide +kernel
theorem dX3_countWays_2 : decode cX3_countWays 2 = .ok (.invokevirtual 51, 3) := by decide +kernel
theorem dX3_countWays_5 : decode cX3_countWays 5 = .ok (.aload_n 0, 1) := by decide +kernel
theorem dX3_countWays_6 : decode cX3_countWays 6 = .ok (.getfield 55, 3) := by decide +kernel
theorem dX3_countWays_9 : decode cX3_countWays 9 = .ok (.ifCond .eq 8, 3) := by decide +kernel
theorem dX3_countWays_12 : decode cX3_countWays 12 = .ok (.bipush (-6), 2) := by decide +kernel
theorem dX3_countWays_14 : decode cX3_countWays 14 = .ok (.goto 7, 3) := by decide +kernel
theorem dX3_countWays_17 : decode cX3_countWays 17 = .ok (.aload_n 0, 1) := by decide +kernel
theorem dX3_countWays_18 : decode cX3_countWays 18 = .ok (.getfield 58, 3) := by decide +kernel
theorem dX3_countWays_21 : decode cX3_countWays 21 = .ok (.ireturn, 1) := by decide +kernel
set_option maxRecDepth 20000 in
theorem ggX3_findFirst_X3_run : GoodIn wsX3_findFirst wsX3_run := goodIn_r _ [11, 12, 13, 14, 1, 2, 15, 16, 17, 18, 19, 20, 21, 22, 23, 24, 10, 25, 4, 26, 27, 28, 29, 30, 31, 32, 33, 34, 35, 36, 37, 38, 39, 40, 41, 42, 43, 44, 45, 46, 47, 48, 49, 50, 51, 52, 53, 54, 55, 56, 57, 58, 59, 60, 61, 62, 63, 64, 65, 66, 67, 68, 69, 70, 71, 72, 73, 74, 75, 76, 77, 78, 79, 80, 6, 81, 82, 83, 84, 85, 86, 87, 88, 89, 90, 91, 92, 93, 94, 95, 96, 97, 98, 99, 100, 101, 102, 103, 104, 105, 106, 107, 108, 109, 110, 111, 112, 113, 114, 115, 116, 117, 118, 119, 120, 121, 122] (by decide +kernel) (by decide +kernel)
set_option maxRecDepth 20000 in
theorem gX3_findFirst_X3_run : GoodIn wsX3_findFirst (wsV RX3 51 RX3 yX3_run wsX3_run) := goodIn_app (goodIn_of _ (by decide +kernel)) ggX3_findFirst_X3_run
set_option maxRecDepth 20000 in
theorem ggX3_findFirst_X1_pieces : GoodIn wsX3_findFirst wsX1_pieces := goodIn_r _ [84, 85, 86, 119, 120, 121, 122] (by decide +kernel) (by decide +kernel)
set_option maxRecDepth 20000 in
theorem gX3_findFirst_X1_pieces : GoodIn wsX3_findFirst (wsV RX3 61 RX1 yX1_pieces wsX1_pieces) := goodIn_app (goodIn_of _ (by decide +kernel)) ggX3_findFirst_X1_pieces
set_option maxRecDepth 20000 in
theorem ggX3_findFirst_X3_look : GoodIn wsX3_findFirst wsX3_look := goodIn_r _ [98] (by decide +kernel) (by decide +kernel)
set_option maxRecDepth 20000 in
theorem gX3_findFirst_X3_look : GoodIn wsX3_findFirst (va_wsS RX3 47 yX3_look wsX3_look) := goodIn_app (goodIn_of _ (by decide +kernel)) ggX3_findFirst_X3_look
set_option maxRecDepth 20000 in
theorem ggX3_findFirst_X3_note : GoodIn wsX3_findFirst wsX3_note := goodIn_r _ [71] (by decide +kernel) (by decide +kernel)
set_option maxRecDepth 20000 in
theorem gX3_findFirst_X3_note : GoodIn wsX3_findFirst (va_wsS RX3 67 yX3_note wsX3_note) := goodIn_app (goodIn_of _ (by decide +kernel)) ggX3_findFirst_X3_note
theorem dX3_findFirst_0 : decode cX3_findFirst 0 = .ok (.aload_n 0, 1) := by decide +kernel
theorem dX3_findFirst_1 : decode cX3_findFirst 1 = .ok (.iconst 1, 1) := by decide +kernel
theorem dX3_findFirst_2 : decode cX3_findFirst 2 = .ok (.invokevirtual 51, 3) := by decide +kernel
theorem dX3_findFirst_5 : decode cX3_findFirst 5 = .ok (.aload_n 0, 1) := by decide +kernel
theorem dX3_findFirst_6 : decode cX3_findFirst 6 = .ok (.getfield 55, 3) := by decide +kernel
theorem dX3_findFirst_9 : decode cX3_findFirst 9 = .ok (.ifCond .eq 6, 3) := by decide +kernel
theorem dX3_findFirst_12 : decode cX3_findFirst 12 = .ok (.bipush (-6), 2) := by decide +kernel
theorem dX3_findFirst_14 : decode cX3_findFirst 14 = .ok (.ireturn, 1) := by decide +kernel
theorem dX3_findFirst_15 : decode cX3_findFirst 15 = .ok (.aload_n 0, 1) := by decide +kernel
theorem dX3_findFirst_16 : decode cX3_findFirst 16 = .ok (.aload_n 0, 1) := by decide +kernel
theorem dX3_findFirst_17 : decode cX3_findFirst 17 = .ok (.getfield 58, 3) := by decide +kernel
theorem dX3_findFirst_20 : decode cX3_findFirst 20 = .ok (.ifCond .le 7, 3) := by decide +kernel
theorem dX3_findFirst_23 : decode cX3_findFirst 23 = .ok (.iconst 1, 1) := by decide +kernel
theorem dX3_findFirst_24 : decode cX3_findFirst 24 = .ok (.goto 4, 3) := by decide +kernel
theorem dX3_findFirst_27 : decode cX3_findFirst 27 = .ok (.iconst 0, 1) := by decide +kernel
theorem dX3_findFirst_28 : decode cX3_findFirst 28 = .ok (.putfield 43, 3) := by decide +kernel
theorem dX3_findFirst_31 : decode cX3_findFirst 31 = .ok (.iconst 0, 1) := by decide +kernel
theorem dX3_findFirst_32 : decode cX3_findFirst 32 = .ok (.istore_n 1, 1) := by decide +kernel
theorem dX3_findFirst_33 : decode cX3_findFirst 33 = .ok (.aload_n 0, 1) := by decide +kernel
theorem dX3_findFirst_34 : decode cX3_findFirst 34 = .ok (.getfield 43, 3) := by decide +kernel
theorem dX3_findFirst_37 : decode cX3_findFirst 37 = .ok (.ifCond .eq 36, 3) := by decide +kernel
theorem dX3_findFirst_40 : decode cX3_findFirst 40 = .ok (.iload_n 1, 1) := by decide +kernel
theorem dX3_findFirst_41 : decode cX3_findFirst 41 = .ok (.aload_n 0, 1) := by decide +kernel
theorem dX3_findFirst_42 : decode cX3_findFirst 42 = .ok (.getfield 31, 3) := by decide +kernel
theorem dX3_findFirst_45 : decode cX3_findFirst 45 = .ok (.invokevirtual 61, 3) := by decide +kernel
theorem dX3_findFirst_48 : decode cX3_findFirst 48 = .ok (.if_icmp .ge 25, 3) := by decide +kernel
theorem dX3_findFirst_51 : decode cX3_findFirst 51 = .ok (.aload_n 0, 1) := by decide +kernel
theorem dX3_findFirst_52 : decode cX3_findFirst 52 = .ok (.getfield 28, 3) := by decide +kernel
theorem dX3_findFirst_55 : decode cX3_findFirst 55 = .ok (.iload_n 1, 1) := by decide +kernel
theorem dX3_findFirst_56 : decode cX3_findFirst 56 = .ok (.aload_n 0, 1) := by decide +kernel
theorem dX3_findFirst_57 : decode cX3_findFirst 57 = .ok (.getfield 25, 3) := by decide +kernel
theorem dX3_findFirst_60 : decode cX3_findFirst 60 = .ok (.iload_n 1, 1) := by decide +kernel
theorem dX3_findFirst_61 : decode cX3_findFirst 61 = .ok (.invokestatic 47, 3) := by decide +kernel
theorem dX3_findFirst_64 : decode cX3_findFirst 64 = .ok (.invokestatic 67, 3) := by decide +kernel
theorem dX3_findFirst_67 : decode cX3_findFirst 67 = .ok (.iinc 1 1, 3) := by decide +kernel
theorem dX3_findFirst_70 : decode cX3_findFirst 70 = .ok (.goto (-37), 3) := by decide +kernel
theorem dX3_findFirst_73 : decode cX3_findFirst 73 = .ok (.aload_n 0, 1) := by decide +kernel
theorem dX3_findFirst_74 : decode cX3_findFirst 74 = .ok (.getfield 58, 3) := by decide +kernel
theorem dX3_findFirst_77 : decode cX3_findFirst 77 = .ok (.ireturn, 1) := by decide +kernel
set_option maxRecDepth 20000 in
theorem ggX3_run_X2_size : GoodIn wsX3_run wsX2_size := goodIn_r _ [11, 12, 110, 111, 112] (by decide +kernel) (by decide +kernel)
set_option maxRecDepth 20000 in
theorem gX3_run_X2_size : GoodIn wsX3_run (wsV RX3 71 RX2 yX2_size wsX2_size) := goodIn_app (goodIn_of _ (by decide +kernel)) ggX3_run_X2_size
set_option maxRecDepth 20000 in
theorem ggX3_run_X3_readEdges : GoodIn wsX3_run wsX3_readEdges := goodIn_r _ [17, 2, 18, 19, 20, 21, 22, 23, 10, 24, 25, 26, 27, 28, 29, 12, 30, 31, 32, 33, 34, 35, 36, 37, 38, 39, 40, 41, 42, 16, 43, 44, 45, 46, 47, 48, 49, 50, 51, 52, 53, 54, 55, 56, 57, 58, 59, 60, 61, 62, 63, 64, 97, 98, 99, 100, 101, 102, 103, 104, 105, 106, 107, 108, 109, 110, 111, 112, 113, 114, 115, 116] (by decide +kernel) (by decide +kernel)
set_option maxRecDepth 20000 in
theorem gX3_run_X3_readEdges : GoodIn wsX3_run (wsV RX3 76 RX3 yX3_readEdges wsX3_readEdges) := goodIn_app (goodIn_of _ (by decide +kernel)) ggX3_run_X3_readEdges
set_option maxRecDepth 20000 in
theorem ggX3_run_X3_fillFrom : GoodIn wsX3_run wsX3_fillFrom := goodIn_r _ [68, 18, 5, 2, 1, 69, 70, 71, 72, 6, 73, 4, 74, 3, 75, 76, 77, 33, 78, 79, 80, 81, 82, 83, 16, 84, 85, 20, 86, 87, 88, 89, 30, 31, 32, 34, 35, 36, 37, 38, 39, 90, 91, 92, 7, 8, 9, 10, 11, 12, 93, 94, 95, 96, 19, 62, 63, 64, 65, 66, 67, 97, 98, 99, 100, 101, 102, 103, 104, 105, 106, 107, 108, 109, 113, 114, 115, 116, 110, 111, 112] (by decide +kernel) (by decide +kernel)
set_option maxRecDepth 20000 in
theorem gX3_run_X3_fillFrom : GoodIn wsX3_run (wsV RX3 83 RX3 yX3_fillFrom wsX3_fillFrom) := goodIn_app (goodIn_of _ (by decide +kernel)) ggX3_run_X3_fillFrom
theorem dX3_run_0 : decode cX3_run 0 = .ok (.iconst 0, 1) := by decide +kernel
theorem dX3_run_1 : decode cX3_run 1 = .ok (.istore_n 2, 1) := by decide +kernel
theorem dX3_run_2 : decode cX3_run 2 = .ok (.iload_n 2, 1) := by decide +kernel
theorem dX3_run_3 : decode cX3_run 3 = .ok (.aload_n 0, 1) := by decide +kernel
theorem dX3_run_4 : decode cX3_run 4 = .ok (.getfield 21, 3) := by decide +kernel
theorem dX3_run_7 : decode cX3_run 7 = .ok (.arraylength, 1) := by decide +kernel
theorem dX3_run_8 : decode cX3_run 8 = .ok (.if_icmp .ge 16, 3) := by decide +kernel
theorem dX3_run_11 : decode cX3_run 11 = .ok (.aload_n 0, 1) := by decide +kernel
theorem dX3_run_12 : decode cX3_run 12 = .ok (.getfield 21, 3) := by decide +kernel
theorem dX3_run_15 : decode cX3_run 15 = .ok (.iload_n 2, 1) := by decide +kernel
theorem dX3_run_16 : decode cX3_run 16 = .ok (.iconst 0, 1) := by decide +kernel
theorem dX3_run_17 : decode cX3_run 17 = .ok (.bastore, 1) := by decide +kernel
theorem dX3_run_18 : decode cX3_run 18 = .ok (.iinc 2 1, 3) := by decide +kernel
theorem dX3_run_21 : decode cX3_run 21 = .ok (.goto (-19), 3) := by decide +kernel
theorem dX3_run_24 : decode cX3_run 24 = .ok (.iconst 0, 1) := by decide +kernel
theorem dX3_run_25 : decode cX3_run 25 = .ok (.istore_n 2, 1) := by decide +kernel
theorem dX3_run_26 : decode cX3_run 26 = .ok (.iload_n 2, 1) := by decide +kernel
theorem dX3_run_27 : decode cX3_run 27 = .ok (.aload_n 0, 1) := by decide +kernel
theorem dX3_run_28 : decode cX3_run 28 = .ok (.getfield 35, 3) := by decide +kernel
theorem dX3_run_31 : decode cX3_run 31 = .ok (.invokevirtual 71, 3) := by decide +kernel
theorem dX3_run_34 : decode cX3_run 34 = .ok (.if_icmp .ge 14, 3) := by decide +kernel
theorem dX3_run_37 : decode cX3_run 37 = .ok (.aload_n 0, 1) := by decide +kernel
theorem dX3_run_38 : decode cX3_run 38 = .ok (.iload_n 2, 1) := by decide +kernel
theorem dX3_run_39 : decode cX3_run 39 = .ok (.invokevirtual 76, 3) := by decide +kernel
theorem dX3_run_42 : decode cX3_run 42 = .ok (.iinc 2 1, 3) := by decide +kernel
theorem dX3_run_45 : decode cX3_run 45 = .ok (.goto (-19), 3) := by decide +kernel
theorem dX3_run_48 : decode cX3_run 48 = .ok (.aload_n 0, 1) := by decide +kernel
theorem dX3_run_49 : decode cX3_run 49 = .ok (.iload_n 1, 1) := by decide +kernel
theorem dX3_run_50 : decode cX3_run 50 = .ok (.putfield 80, 3) := by decide +kernel
theorem dX3_run_53 : decode cX3_run 53 = .ok (.aload_n 0, 1) := by decide +kernel
theorem dX3_run_54 : decode cX3_run 54 = .ok (.iconst 0, 1) := by decide +kernel
theorem dX3_run_55 : decode cX3_run 55 = .ok (.putfield 55, 3) := by decide +kernel
theorem dX3_run_58 : decode cX3_run 58 = .ok (.aload_n 0, 1) := by decide +kernel
theorem dX3_run_59 : decode cX3_run 59 = .ok (.iconst 0, 1) := by decide +kernel
theorem dX3_run_60 : decode cX3_run 60 = .ok (.putfield 58, 3) := by decide +kernel
theorem dX3_run_63 : decode cX3_run 63 = .ok (.aload_n 0, 1) := by decide +kernel
theorem dX3_run_64 : decode cX3_run 64 = .ok (.iconst 0, 1) := by decide +kernel
theorem dX3_run_65 : decode cX3_run 65 = .ok (.putfield 39, 3) := by decide +kernel
theorem dX3_run_68 : decode cX3_run 68 = .ok (.aload_n 0, 1) := by decide +kernel
theorem dX3_run_69 : decode cX3_run 69 = .ok (.iconst 0, 1) := by decide +kernel
theorem dX3_run_70 : decode cX3_run 70 = .ok (.invokevirtual 83, 3) := by decide +kernel
theorem dX3_run_73 : decode cX3_run 73 = .ok (.return_, 1) := by decide +kernel
set_option maxRecDepth 20000 in
theorem ggX3_readEdges_X2_pieceAt : GoodIn wsX3_readEdges wsX2_pieceAt := goodIn_r _ [9, 10, 11, 12, 13, 8, 14, 15, 65, 66, 67] (by decide +kernel) (by decide +kernel)
set_option maxRecDepth 20000 in
theorem gX3_readEdges_X2_pieceAt : GoodIn wsX3_readEdges (wsV RX3 86 RX2 yX2_pieceAt wsX2_pieceAt) := goodIn_app (goodIn_of _ (by decide +kernel)) ggX3_readEdges_X2_pieceAt
set_option maxRecDepth 20000 in
theorem ggX3_readEdges_X1_isFlat : GoodIn wsX3_readEdges wsX1_isFlat := goodIn_r _ [20, 21, 22, 23, 19, 24, 25, 68, 69, 70, 71] (by decide +kernel) (by decide +kernel)
set_option maxRecDepth 20000 in
theorem gX3_readEdges_X1_isFlat : GoodIn wsX3_readEdges (wsV RX3 90 RX1 yX1_isFlat wsX1_isFlat) := goodIn_app (goodIn_of _ (by decide +kernel)) ggX3_readEdges_X1_isFlat
set_option maxRecDepth 20000 in
theorem ggX3_readEdges_X3_codeOf : GoodIn wsX3_readEdges wsX3_codeOf := goodIn_r _ [30, 2, 31, 32, 33, 19, 34, 21, 22, 23, 24, 25, 35, 36, 37, 38, 39, 52, 53, 54, 55, 56, 57, 58, 59, 60, 61, 62, 63, 64, 68, 69, 70, 71] (by decide +kernel) (by decide +kernel)
set_option maxRecDepth 20000 in
theorem gX3_readEdges_X3_codeOf : GoodIn wsX3_readEdges (wsV RX3 94 RX3 yX3_codeOf wsX3_codeOf) := goodIn_app (goodIn_of _ (by decide +kernel)) ggX3_readEdges_X3_codeOf
set_option maxRecDepth 20000 in
theorem ggX3_readEdges_X3_mateOf : GoodIn wsX3_readEdges wsX3_mateOf := goodIn_r _ [43, 2, 31, 32, 33, 19, 34, 21, 22, 23, 24, 25, 35, 36, 37, 38, 39, 52, 53, 54, 55, 56, 57, 58, 59, 60, 61, 62, 63, 64, 68, 69, 70, 71] (by decide +kernel) (by decide +kernel)
set_option maxRecDepth 20000 in
theorem gX3_readEdges_X3_mateOf : GoodIn wsX3_readEdges (wsV RX3 98 RX3 yX3_mateOf wsX3_mateOf) := goodIn_app (goodIn_of _ (by decide +kernel)) ggX3_readEdges_X3_mateOf
set_option maxRecDepth 20000 in
theorem ggX3_readEdges_X2_turnAt : GoodIn wsX3_readEdges wsX2_turnAt := goodIn_r _ [47, 48, 11, 12, 13, 8, 14, 15, 65, 66, 67] (by decide +kernel) (by decide +kernel)
set_option maxRecDepth 20000 in
theorem gX3_readEdges_X2_turnAt : GoodIn wsX3_readEdges (wsV RX3 101 RX2 yX2_turnAt wsX2_turnAt) := goodIn_app (goodIn_of _ (by decide +kernel)) ggX3_readEdges_X2_turnAt
set_option maxRecDepth 20000 in
theorem ggX3_readEdges_X3_note : GoodIn wsX3_readEdges wsX3_note := goodIn_r _ [51] (by decide +kernel) (by decide +kernel)
set_option maxRecDepth 20000 in
theorem gX3_readEdges_X3_note : GoodIn wsX3_readEdges (va_wsS RX3 67 yX3_note wsX3_note) := goodIn_app (goodIn_of _ (by decide +kernel)) ggX3_readEdges_X3_note
theorem dX3_readEdges_0 : decode cX3_readEdges 0 = .ok (.aload_n 0, 1) := by decide +kernel
theorem dX3_readEdges_1 : decode cX3_readEdges 1 = .ok (.getfield 35, 3) := by decide +kernel
theorem dX3_readEdges_4 : decode cX3_readEdges 4 = .ok (.iload_n 1, 1) := by decide +kernel
theorem dX3_readEdges_5 : decode cX3_readEdges 5 = .ok (.invokevirtual 86, 3) := by decide +kernel
theorem dX3_readEdges_8 : decode cX3_readEdges 8 = .ok (.istore_n 2, 1) := by decide +kernel
theorem dX3_readEdges_9 : decode cX3_readEdges 9 = .ok (.iconst 0, 1) := by decide +kernel
theorem dX3_readEdges_10 : decode cX3_readEdges 10 = .ok (.istore_n 3, 1) := by decide +kernel
theorem dX3_readEdges_11 : decode cX3_readEdges 11 = .ok (.iload_n 3, 1) := by decide +kernel
theorem dX3_readEdges_12 : decode cX3_readEdges 12 = .ok (.iconst 4, 1) := by decide +kernel
theorem dX3_readEdges_13 : decode cX3_readEdges 13 = .ok (.if_icmp .ge 124, 3) := by decide +kernel
theorem dX3_readEdges_16 : decode cX3_readEdges 16 = .ok (.aload_n 0, 1) := by decide +kernel
theorem dX3_readEdges_17 : decode cX3_readEdges 17 = .ok (.getfield 31, 3) := by decide +kernel
theorem dX3_readEdges_20 : decode cX3_readEdges 20 = .ok (.iload_n 2, 1) := by decide +kernel
theorem dX3_readEdges_21 : decode cX3_readEdges 21 = .ok (.iload_n 3, 1) := by decide +kernel
theorem dX3_readEdges_22 : decode cX3_readEdges 22 = .ok (.invokevirtual 90, 3) := by decide +kernel
theorem dX3_readEdges_25 : decode cX3_readEdges 25 = .ok (.ifCond .eq 7, 3) := by decide +kernel
theorem dX3_readEdges_28 : decode cX3_readEdges 28 = .ok (.iconst (-1), 1) := by decide +kernel
theorem dX3_readEdges_29 : decode cX3_readEdges 29 = .ok (.goto 9, 3) := by decide +kernel
theorem dX3_readEdges_32 : decode cX3_readEdges 32 = .ok (.aload_n 0, 1) := by decide +kernel
theorem dX3_readEdges_33 : decode cX3_readEdges 33 = .ok (.iload_n 2, 1) := by decide +kernel
theorem dX3_readEdges_34 : decode cX3_readEdges 34 = .ok (.iload_n 3, 1) := by decide +kernel
theorem dX3_readEdges_35 : decode cX3_readEdges 35 = .ok (.invokevirtual 94, 3) := by decide +kernel
theorem dX3_readEdges_38 : decode cX3_readEdges 38 = .ok (.istore 4, 2) := by decide +kernel
theorem dX3_readEdges_40 : decode cX3_readEdges 40 = .ok (.aload_n 0, 1) := by decide +kernel
theorem dX3_readEdges_41 : decode cX3_readEdges 41 = .ok (.getfield 31, 3) := by decide +kernel
theorem dX3_readEdges_44 : decode cX3_readEdges 44 = .ok (.iload_n 2, 1) := by decide +kernel
theorem dX3_readEdges_45 : decode cX3_readEdges 45 = .ok (.iload_n 3, 1) := by decide +kernel
theorem dX3_readEdges_46 : decode cX3_readEdges 46 = .ok (.invokevirtual 90, 3) := by decide +kernel
theorem dX3_readEdges_49 : decode cX3_readEdges 49 = .ok (.ifCond .eq 7, 3) := by decide +kernel
theorem dX3_readEdges_52 : decode cX3_readEdges 52 = .ok (.iconst (-1), 1) := by decide +kernel
theorem dX3_readEdges_53 : decode cX3_readEdges 53 = .ok (.goto 9, 3) := by decide +kernel
theorem dX3_readEdges_56 : decode cX3_readEdges 56 = .ok (.aload_n 0, 1) := by decide +kernel
theorem dX3_readEdges_57 : decode cX3_readEdges 57 = .ok (.iload_n 2, 1) := by decide +kernel
theorem dX3_readEdges_58 : decode cX3_readEdges 58 = .ok (.iload_n 3, 1) := by decide +kernel
theorem dX3_readEdges_59 : decode cX3_readEdges 59 = .ok (.invokevirtual 98, 3) := by decide +kernel
theorem dX3_readEdges_62 : decode cX3_readEdges 62 = .ok (.istore 5, 2) := by decide +kernel
theorem dX3_readEdges_64 : decode cX3_readEdges 64 = .ok (.iconst 0, 1) := by decide +kernel
theorem dX3_readEdges_65 : decode cX3_readEdges 65 = .ok (.istore 6, 2) := by decide +kernel
theorem dX3_readEdges_67 : decode cX3_readEdges 67 = .ok (.iload 6, 2) := by decide +kernel
theorem dX3_readEdges_69 : decode cX3_readEdges 69 = .ok (.iconst 4, 1) := by decide +kernel
theorem dX3_readEdges_70 : decode cX3_readEdges 70 = .ok (.if_icmp .ge 61, 3) := by decide +kernel
theorem dX3_readEdges_73 : decode cX3_readEdges 73 = .ok (.iload_n 3, 1) := by decide +kernel
theorem dX3_readEdges_74 : decode cX3_readEdges 74 = .ok (.aload_n 0, 1) := by decide +kernel
theorem dX3_readEdges_75 : decode cX3_readEdges 75 = .ok (.getfield 35, 3) := by decide +kernel
theorem dX3_readEdges_78 : decode cX3_readEdges 78 = .ok (.iload_n 1, 1) := by decide +kernel
theorem dX3_readEdges_79 : decode cX3_readEdges 79 = .ok (.invokevirtual 101, 3) := by decide +kernel
theorem dX3_readEdges_82 : decode cX3_readEdges 82 = .ok (.iadd, 1) := by decide +kernel
theorem dX3_readEdges_83 : decode cX3_readEdges 83 = .ok (.iload 6, 2) := by decide +kernel
theorem dX3_readEdges_85 : decode cX3_readEdges 85 = .ok (.iadd, 1) := by decide +kernel
theorem dX3_readEdges_86 : decode cX3_readEdges 86 = .ok (.iconst 4, 1) := by decide +kernel
theorem dX3_readEdges_87 : decode cX3_readEdges 87 = .ok (.irem, 1) := by decide +kernel
theorem dX3_readEdges_88 : decode cX3_readEdges 88 = .ok (.istore 7, 2) := by decide +kernel
theorem dX3_readEdges_90 : decode cX3_readEdges 90 = .ok (.iload_n 1, 1) := by decide +kernel
theorem dX3_readEdges_91 : decode cX3_readEdges 91 = .ok (.iconst 4, 1) := by decide +kernel
theorem dX3_readEdges_92 : decode cX3_readEdges 92 = .ok (.imul, 1) := by decide +kernel
theorem dX3_readEdges_93 : decode cX3_readEdges 93 = .ok (.iload 6, 2) := by decide +kernel
theorem dX3_readEdges_95 : decode cX3_readEdges 95 = .ok (.iadd, 1) := by decide +kernel
theorem dX3_readEdges_96 : decode cX3_readEdges 96 = .ok (.iconst 4, 1) := by decide +kernel
theorem dX3_readEdges_97 : decode cX3_readEdges 97 = .ok (.imul, 1) := by decide +kernel
theorem dX3_readEdges_98 : decode cX3_readEdges 98 = .ok (.iload 7, 2) := by decide +kernel
theorem dX3_readEdges_100 : decode cX3_readEdges 100 = .ok (.iadd, 1) := by decide +kernel
theorem dX3_readEdges_101 : decode cX3_readEdges 101 = .ok (.istore 8, 2) := by decide +kernel
theorem dX3_readEdges_103 : decode cX3_readEdges 103 = .ok (.aload_n 0, 1) := by decide +kernel
theorem dX3_readEdges_104 : decode cX3_readEdges 104 = .ok (.getfield 9, 3) := by decide +kernel
theorem dX3_readEdges_107 : decode cX3_readEdges 107 = .ok (.iload 8, 2) := by decide +kernel
theorem dX3_readEdges_109 : decode cX3_readEdges 109 = .ok (.iload 4, 2) := by decide +kernel
theorem dX3_readEdges_111 : decode cX3_readEdges 111 = .ok (.invokestatic 67, 3) := by decide +kernel
theorem dX3_readEdges_114 : decode cX3_readEdges 114 = .ok (.aload_n 0, 1) := by decide +kernel
theorem dX3_readEdges_115 : decode cX3_readEdges 115 = .ok (.getfield 15, 3) := by decide +kernel
theorem dX3_readEdges_118 : decode cX3_readEdges 118 = .ok (.iload 8, 2) := by decide +kernel
theorem dX3_readEdges_120 : decode cX3_readEdges 120 = .ok (.iload 5, 2) := by decide +kernel
theorem dX3_readEdges_122 : decode cX3_readEdges 122 = .ok (.invokestatic 67, 3) := by decide +kernel
theorem dX3_readEdges_125 : decode cX3_readEdges 125 = .ok (.iinc 6 1, 3) := by decide +kernel
theorem dX3_readEdges_128 : decode cX3_readEdges 128 = .ok (.goto (-61), 3) := by decide +kernel
theorem dX3_readEdges_131 : decode cX3_readEdges 131 = .ok (.iinc 3 1, 3) := by decide +kernel
theorem dX3_readEdges_134 : decode cX3_readEdges 134 = .ok (.goto (-123), 3) := by decide +kernel
theorem dX3_readEdges_137 : decode cX3_readEdges 137 = .ok (.return_, 1) := by decide +kernel
set_option maxRecDepth 20000 in
theorem ggX3_codeOf_X1_edgeHeight : GoodIn wsX3_codeOf wsX1_edgeHeight := goodIn_r _ [6, 7, 8, 9, 5, 10, 11, 12, 13, 14, 15, 16, 30, 31, 32, 33] (by decide +kernel) (by decide +kernel)
set_option maxRecDepth 20000 in
theorem gX3_codeOf_X1_edgeHeight : GoodIn wsX3_codeOf (wsV RX3 104 RX1 yX1_edgeHeight wsX1_edgeHeight) := goodIn_app (goodIn_of _ (by decide +kernel)) ggX3_codeOf_X1_edgeHeight
theorem dX3_codeOf_0 : decode cX3_codeOf 0 = .ok (.iconst 0, 1) := by decide +kernel
theorem dX3_codeOf_1 : decode cX3_codeOf 1 = .ok (.istore_n 3, 1) := by decide +kernel
theorem dX3_codeOf_2 : decode cX3_codeOf 2 = .ok (.iconst 0, 1) := by decide +kernel
theorem dX3_codeOf_3 : decode cX3_codeOf 3 = .ok (.istore 4, 2) := by decide +kernel
theorem dX3_codeOf_5 : decode cX3_codeOf 5 = .ok (.iload 4, 2) := by decide +kernel
theorem dX3_codeOf_7 : decode cX3_codeOf 7 = .ok (.iconst 5, 1) := by decide +kernel
theorem dX3_codeOf_8 : decode cX3_codeOf 8 = .ok (.if_icmp .ge 29, 3) := by decide +kernel
theorem dX3_codeOf_11 : decode cX3_codeOf 11 = .ok (.iload_n 3, 1) := by decide +kernel
theorem dX3_codeOf_12 : decode cX3_codeOf 12 = .ok (.bipush 19, 2) := by decide +kernel
theorem dX3_codeOf_14 : decode cX3_codeOf 14 = .ok (.imul, 1) := by decide +kernel
theorem dX3_codeOf_15 : decode cX3_codeOf 15 = .ok (.bipush 9, 2) := by decide +kernel
theorem dX3_codeOf_17 : decode cX3_codeOf 17 = .ok (.iadd, 1) := by decide +kernel
theorem dX3_codeOf_18 : decode cX3_codeOf 18 = .ok (.aload_n 0, 1) := by decide +kernel
theorem dX3_codeOf_19 : decode cX3_codeOf 19 = .ok (.getfield 31, 3) := by decide +kernel
theorem dX3_codeOf_22 : decode cX3_codeOf 22 = .ok (.iload_n 1, 1) := by decide +kernel
theorem dX3_codeOf_23 : decode cX3_codeOf 23 = .ok (.iload_n 2, 1) := by decide +kernel
theorem dX3_codeOf_24 : decode cX3_codeOf 24 = .ok (.iload 4, 2) := by decide +kernel
theorem dX3_codeOf_26 : decode cX3_codeOf 26 = .ok (.invokevirtual 104, 3) := by decide +kernel
theorem dX3_codeOf_29 : decode cX3_codeOf 29 = .ok (.iadd, 1) := by decide +kernel
theorem dX3_codeOf_30 : decode cX3_codeOf 30 = .ok (.istore_n 3, 1) := by decide +kernel
theorem dX3_codeOf_31 : decode cX3_codeOf 31 = .ok (.iinc 4 1, 3) := by decide +kernel
theorem dX3_codeOf_34 : decode cX3_codeOf 34 = .ok (.goto (-29), 3) := by decide +kernel
theorem dX3_codeOf_37 : decode cX3_codeOf 37 = .ok (.iload_n 3, 1) := by decide +kernel
theorem dX3_codeOf_38 : decode cX3_codeOf 38 = .ok (.ireturn, 1) := by decide +kernel
set_option maxRecDepth 20000 in
theorem ggX3_mateOf_X1_edgeHeight : GoodIn wsX3_mateOf wsX1_edgeHeight := goodIn_r _ [6, 7, 8, 9, 5, 10, 11, 12, 13, 14, 15, 16, 30, 31, 32, 33] (by decide +kernel) (by decide +kernel)
set_option maxRecDepth 20000 in
theorem gX3_mateOf_X1_edgeHeight : GoodIn wsX3_mateOf (wsV RX3 104 RX1 yX1_edgeHeight wsX1_edgeHeight) := goodIn_app (goodIn_of _ (by decide +kernel)) ggX3_mateOf_X1_edgeHeight
theorem dX3_mateOf_0 : decode cX3_mateOf 0 = .ok (.iconst 0, 1) := by decide +kernel
theorem dX3_mateOf_1 : decode cX3_mateOf 1 = .ok (.istore_n 3, 1) := by decide +kernel
theorem dX3_mateOf_2 : decode cX3_mateOf 2 = .ok (.iconst 4, 1) := by decide +kernel
theorem dX3_mateOf_3 : decode cX3_mateOf 3 = .ok (.istore 4, 2) := by decide +kernel
theorem dX3_mateOf_5 : decode cX3_mateOf 5 = .ok (.iload 4, 2) := by decide +kernel
theorem dX3_mateOf_7 : decode cX3_mateOf 7 = .ok (.ifCond .lt 29, 3) := by decide +kernel
theorem dX3_mateOf_10 : decode cX3_mateOf 10 = .ok (.iload_n 3, 1) := by decide +kernel
theorem dX3_mateOf_11 : decode cX3_mateOf 11 = .ok (.bipush 19, 2) := by decide +kernel
theorem dX3_mateOf_13 : decode cX3_mateOf 13 = .ok (.imul, 1) := by decide +kernel
theorem dX3_mateOf_14 : decode cX3_mateOf 14 = .ok (.bipush 9, 2) := by decide +kernel
theorem dX3_mateOf_16 : decode cX3_mateOf 16 = .ok (.iadd, 1) := by decide +kernel
theorem dX3_mateOf_17 : decode cX3_mateOf 17 = .ok (.aload_n 0, 1) := by decide +kernel
theorem dX3_mateOf_18 : decode cX3_mateOf 18 = .ok (.getfield 31, 3) := by decide +kernel
theorem dX3_mateOf_21 : decode cX3_mateOf 21 = .ok (.iload_n 1, 1) := by decide +kernel
theorem dX3_mateOf_22 : decode cX3_mateOf 22 = .ok (.iload_n 2, 1) := by decide +kernel
theorem dX3_mateOf_23 : decode cX3_mateOf 23 = .ok (.iload 4, 2) := by decide +kernel
theorem dX3_mateOf_25 : decode cX3_mateOf 25 = .ok (.invokevirtual 104, 3) := by decide +kernel
theorem dX3_mateOf_28 : decode cX3_mateOf 28 = .ok (.isub, 1) := by decide +kernel
theorem dX3_mateOf_29 : decode cX3_mateOf 29 = .ok (.istore_n 3, 1) := by decide +kernel
theorem dX3_mateOf_30 : decode cX3_mateOf 30 = .ok (.iinc 4 (-1), 3) := by decide +kernel
theorem dX3_mateOf_33 : decode cX3_mateOf 33 = .ok (.goto (-28), 3) := by decide +kernel
theorem dX3_mateOf_36 : decode cX3_mateOf 36 = .ok (.iload_n 3, 1) := by decide +kernel
theorem dX3_mateOf_37 : decode cX3_mateOf 37 = .ok (.ireturn, 1) := by decide +kernel
set_option maxRecDepth 20000 in
theorem ggX3_fillFrom_X1_pieces : GoodIn wsX3_fillFrom wsX1_pieces := goodIn_r _ [18, 19, 20, 74, 75, 76, 77] (by decide +kernel) (by decide +kernel)
set_option maxRecDepth 20000 in
theorem gX3_fillFrom_X1_pieces : GoodIn wsX3_fillFrom (wsV RX3 61 RX1 yX1_pieces wsX1_pieces) := goodIn_app (goodIn_of _ (by decide +kernel)) ggX3_fillFrom_X1_pieces
set_option maxRecDepth 20000 in
theorem ggX3_fillFrom_X3_lookAround : GoodIn wsX3_fillFrom wsX3_lookAround := goodIn_r _ [25, 26, 1, 27, 12, 28, 29, 30, 17, 31, 19, 32, 33, 34, 35, 36, 37, 38, 39, 40, 41, 42, 24, 43, 61, 62, 63, 64, 65, 66, 67, 68, 69, 70, 71, 72, 73, 74, 75, 76, 77] (by decide +kernel) (by decide +kernel)
set_option maxRecDepth 20000 in
theorem gX3_fillFrom_X3_lookAround : GoodIn wsX3_fillFrom (wsV RX3 108 RX3 yX3_lookAround wsX3_lookAround) := goodIn_app (goodIn_of _ (by decide +kernel)) ggX3_fillFrom_X3_lookAround
set_option maxRecDepth 20000 in
theorem ggX3_fillFrom_X2_size : GoodIn wsX3_fillFrom wsX2_size := goodIn_r _ [48, 49, 78, 79, 80] (by decide +kernel) (by decide +kernel)
set_option maxRecDepth 20000 in
theorem gX3_fillFrom_X2_size : GoodIn wsX3_fillFrom (wsV RX3 71 RX2 yX2_size wsX2_size) := goodIn_app (goodIn_of _ (by decide +kernel)) ggX3_fillFrom_X2_size
set_option maxRecDepth 20000 in
theorem ggX3_fillFrom_X3_fits : GoodIn wsX3_fillFrom wsX3_fits := goodIn_r _ [53, 26, 54, 61, 62, 63, 64, 65, 66, 67, 68, 69, 70, 71, 72, 73] (by decide +kernel) (by decide +kernel)
set_option maxRecDepth 20000 in
theorem gX3_fillFrom_X3_fits : GoodIn wsX3_fillFrom (wsV RX3 117 RX3 yX3_fits wsX3_fits) := goodIn_app (goodIn_of _ (by decide +kernel)) ggX3_fillFrom_X3_fits
set_option maxRecDepth 20000 in
theorem ggX3_fillFrom_X3_note : GoodIn wsX3_fillFrom wsX3_note := goodIn_r _ [57] (by decide +kernel) (by decide +kernel)
set_option maxRecDepth 20000 in
theorem gX3_fillFrom_X3_note : GoodIn wsX3_fillFrom (va_wsS RX3 67 yX3_note wsX3_note) := goodIn_app (goodIn_of _ (by decide +kernel)) ggX3_fillFrom_X3_note
set_option maxRecDepth 20000 in
theorem ggX3_fillFrom_X3_fillFrom : GoodIn wsX3_fillFrom wsX3_fillFrom := goodIn_r _ [0, 1, 2, 3, 4, 5, 6, 7, 8, 9, 10, 11, 12, 13, 14, 15, 16, 17, 18, 19, 20, 21, 22, 23, 24, 25, 26, 27, 28, 29, 30, 31, 32, 33, 34, 35, 36, 37, 38, 39, 40, 41, 42, 43, 44, 45, 46, 47, 48, 49, 50, 51, 52, 53, 54, 55, 56, 57, 58, 59, 60, 61, 62, 63, 64, 65, 66, 67, 68, 69, 70, 71, 72, 73, 74, 75, 76, 77, 78, 79, 80] (by decide +kernel) (by decide +kernel)
set_option maxRecDepth 20000 in
theorem gX3_fillFrom_X3_fillFrom : GoodIn wsX3_fillFrom (wsV RX3 83 RX3 yX3_fillFrom wsX3_fillFrom) := goodIn_app (goodIn_of _ (by decide +kernel)) ggX3_fillFrom_X3_fillFrom
theorem dX3_fillFrom_0 : decode cX3_fillFrom 0 = .ok (.iload_n 1, 1) := by decide +kernel
theorem dX3_fillFrom_1 : decode cX3_fillFrom 1 = .ok (.aload_n 0, 1) := by decide +kernel
theorem dX3_fillFrom_2 : decode cX3_fillFrom 2 = .ok (.getfield 31, 3) := by decide +kernel
theorem dX3_fillFrom_5 : decode cX3_fillFrom 5 = .ok (.invokevirtual 61, 3) := by decide +kernel
theorem dX3_fillFrom_8 : decode cX3_fillFrom 8 = .ok (.if_icmp .lt 14, 3) := by decide +kernel
theorem dX3_fillFrom_11 : decode cX3_fillFrom 11 = .ok (.aload_n 0, 1) := by decide +kernel
theorem dX3_fillFrom_12 : decode cX3_fillFrom 12 = .ok (.dup, 1) := by decide +kernel
theorem dX3_fillFrom_13 : decode cX3_fillFrom 13 = .ok (.getfield 58, 3) := by decide +kernel
theorem dX3_fillFrom_16 : decode cX3_fillFrom 16 = .ok (.iconst 1, 1) := by decide +kernel
theorem dX3_fillFrom_17 : decode cX3_fillFrom 17 = .ok (.iadd, 1) := by decide +kernel
theorem dX3_fillFrom_18 : decode cX3_fillFrom 18 = .ok (.putfield 58, 3) := by decide +kernel
theorem dX3_fillFrom_21 : decode cX3_fillFrom 21 = .ok (.return_, 1) := by decide +kernel
theorem dX3_fillFrom_22 : decode cX3_fillFrom 22 = .ok (.aload_n 0, 1) := by decide +kernel
theorem dX3_fillFrom_23 : decode cX3_fillFrom 23 = .ok (.iload_n 1, 1) := by decide +kernel
theorem dX3_fillFrom_24 : decode cX3_fillFrom 24 = .ok (.invokevirtual 108, 3) := by decide +kernel
theorem dX3_fillFrom_27 : decode cX3_fillFrom 27 = .ok (.aload_n 0, 1) := by decide +kernel
theorem dX3_fillFrom_28 : decode cX3_fillFrom 28 = .ok (.getfield 35, 3) := by decide +kernel
theorem dX3_fillFrom_31 : decode cX3_fillFrom 31 = .ok (.invokevirtual 71, 3) := by decide +kernel
theorem dX3_fillFrom_34 : decode cX3_fillFrom 34 = .ok (.aload_n 0, 1) := by decide +kernel
theorem dX3_fillFrom_35 : decode cX3_fillFrom 35 = .ok (.getfield 21, 3) := by decide +kernel
theorem dX3_fillFrom_38 : decode cX3_fillFrom 38 = .ok (.arraylength, 1) := by decide +kernel
theorem dX3_fillFrom_39 : decode cX3_fillFrom 39 = .ok (.invokestatic 111, 3) := by decide +kernel
theorem dX3_fillFrom_42 : decode cX3_fillFrom 42 = .ok (.istore_n 2, 1) := by decide +kernel
theorem dX3_fillFrom_43 : decode cX3_fillFrom 43 = .ok (.iconst 0, 1) := by decide +kernel
theorem dX3_fillFrom_44 : decode cX3_fillFrom 44 = .ok (.istore_n 3, 1) := by decide +kernel
theorem dX3_fillFrom_45 : decode cX3_fillFrom 45 = .ok (.iload_n 3, 1) := by decide +kernel
theorem dX3_fillFrom_46 : decode cX3_fillFrom 46 = .ok (.iload_n 2, 1) := by decide +kernel
theorem dX3_fillFrom_47 : decode cX3_fillFrom 47 = .ok (.if_icmp .ge 132, 3) := by decide +kernel
theorem dX3_fillFrom_50 : decode cX3_fillFrom 50 = .ok (.aload_n 0, 1) := by decide +kernel
theorem dX3_fillFrom_51 : decode cX3_fillFrom 51 = .ok (.getfield 21, 3) := by decide +kernel
theorem dX3_fillFrom_54 : decode cX3_fillFrom 54 = .ok (.iload_n 3, 1) := by decide +kernel
theorem dX3_fillFrom_55 : decode cX3_fillFrom 55 = .ok (.baload, 1) := by decide +kernel
theorem dX3_fillFrom_56 : decode cX3_fillFrom 56 = .ok (.ifCond .eq 6, 3) := by decide +kernel
theorem dX3_fillFrom_59 : decode cX3_fillFrom 59 = .ok (.goto 114, 3) := by decide +kernel
theorem dX3_fillFrom_62 : decode cX3_fillFrom 62 = .ok (.iconst 0, 1) := by decide +kernel
theorem dX3_fillFrom_63 : decode cX3_fillFrom 63 = .ok (.istore 4, 2) := by decide +kernel
theorem dX3_fillFrom_65 : decode cX3_fillFrom 65 = .ok (.iload 4, 2) := by decide +kernel
theorem dX3_fillFrom_67 : decode cX3_fillFrom 67 = .ok (.iconst 4, 1) := by decide +kernel
theorem dX3_fillFrom_68 : decode cX3_fillFrom 68 = .ok (.if_icmp .ge 105, 3) := by decide +kernel
theorem dX3_fillFrom_71 : decode cX3_fillFrom 71 = .ok (.aload_n 0, 1) := by decide +kernel
theorem dX3_fillFrom_72 : decode cX3_fillFrom 72 = .ok (.getfield 39, 3) := by decide +kernel
theorem dX3_fillFrom_75 : decode cX3_fillFrom 75 = .ok (.ldc 116, 2) := by decide +kernel
theorem dX3_fillFrom_77 : decode cX3_fillFrom 77 = .ok (.if_icmp .lt 9, 3) := by decide +kernel
theorem dX3_fillFrom_80 : decode cX3_fillFrom 80 = .ok (.aload_n 0, 1) := by decide +kernel
theorem dX3_fillFrom_81 : decode cX3_fillFrom 81 = .ok (.iconst 1, 1) := by decide +kernel
theorem dX3_fillFrom_82 : decode cX3_fillFrom 82 = .ok (.putfield 55, 3) := by decide +kernel
theorem dX3_fillFrom_85 : decode cX3_fillFrom 85 = .ok (.return_, 1) := by decide +kernel
theorem dX3_fillFrom_86 : decode cX3_fillFrom 86 = .ok (.aload_n 0, 1) := by decide +kernel
theorem dX3_fillFrom_87 : decode cX3_fillFrom 87 = .ok (.dup, 1) := by decide +kernel
theorem dX3_fillFrom_88 : decode cX3_fillFrom 88 = .ok (.getfield 39, 3) := by decide +kernel
theorem dX3_fillFrom_91 : decode cX3_fillFrom 91 = .ok (.iconst 1, 1) := by decide +kernel
theorem dX3_fillFrom_92 : decode cX3_fillFrom 92 = .ok (.iadd, 1) := by decide +kernel
theorem dX3_fillFrom_93 : decode cX3_fillFrom 93 = .ok (.putfield 39, 3) := by decide +kernel
theorem dX3_fillFrom_96 : decode cX3_fillFrom 96 = .ok (.aload_n 0, 1) := by decide +kernel
theorem dX3_fillFrom_97 : decode cX3_fillFrom 97 = .ok (.iload_n 1, 1) := by decide +kernel
theorem dX3_fillFrom_98 : decode cX3_fillFrom 98 = .ok (.iload_n 3, 1) := by decide +kernel
theorem dX3_fillFrom_99 : decode cX3_fillFrom 99 = .ok (.iconst 4, 1) := by decide +kernel
theorem dX3_fillFrom_100 : decode cX3_fillFrom 100 = .ok (.imul, 1) := by decide +kernel
theorem dX3_fillFrom_101 : decode cX3_fillFrom 101 = .ok (.iload 4, 2) := by decide +kernel
theorem dX3_fillFrom_103 : decode cX3_fillFrom 103 = .ok (.iadd, 1) := by decide +kernel
theorem dX3_fillFrom_104 : decode cX3_fillFrom 104 = .ok (.invokevirtual 117, 3) := by decide +kernel
theorem dX3_fillFrom_107 : decode cX3_fillFrom 107 = .ok (.ifCond .eq 38, 3) := by decide +kernel
theorem dX3_fillFrom_110 : decode cX3_fillFrom 110 = .ok (.aload_n 0, 1) := by decide +kernel
theorem dX3_fillFrom_111 : decode cX3_fillFrom 111 = .ok (.getfield 25, 3) := by decide +kernel
theorem dX3_fillFrom_114 : decode cX3_fillFrom 114 = .ok (.iload_n 1, 1) := by decide +kernel
theorem dX3_fillFrom_115 : decode cX3_fillFrom 115 = .ok (.iload_n 3, 1) := by decide +kernel
theorem dX3_fillFrom_116 : decode cX3_fillFrom 116 = .ok (.iconst 4, 1) := by decide +kernel
theorem dX3_fillFrom_117 : decode cX3_fillFrom 117 = .ok (.imul, 1) := by decide +kernel
theorem dX3_fillFrom_118 : decode cX3_fillFrom 118 = .ok (.iload 4, 2) := by decide +kernel
theorem dX3_fillFrom_120 : decode cX3_fillFrom 120 = .ok (.iadd, 1) := by decide +kernel
theorem dX3_fillFrom_121 : decode cX3_fillFrom 121 = .ok (.invokestatic 67, 3) := by decide +kernel
theorem dX3_fillFrom_124 : decode cX3_fillFrom 124 = .ok (.aload_n 0, 1) := by decide +kernel
theorem dX3_fillFrom_125 : decode cX3_fillFrom 125 = .ok (.getfield 21, 3) := by decide +kernel
theorem dX3_fillFrom_128 : decode cX3_fillFrom 128 = .ok (.iload_n 3, 1) := by decide +kernel
theorem dX3_fillFrom_129 : decode cX3_fillFrom 129 = .ok (.iconst 1, 1) := by decide +kernel
theorem dX3_fillFrom_130 : decode cX3_fillFrom 130 = .ok (.bastore, 1) := by decide +kernel
theorem dX3_fillFrom_131 : decode cX3_fillFrom 131 = .ok (.aload_n 0, 1) := by decide +kernel
theorem dX3_fillFrom_132 : decode cX3_fillFrom 132 = .ok (.iload_n 1, 1) := by decide +kernel
theorem dX3_fillFrom_133 : decode cX3_fillFrom 133 = .ok (.iconst 1, 1) := by decide +kernel
theorem dX3_fillFrom_134 : decode cX3_fillFrom 134 = .ok (.iadd, 1) := by decide +kernel
theorem dX3_fillFrom_135 : decode cX3_fillFrom 135 = .ok (.invokevirtual 83, 3) := by decide +kernel
theorem dX3_fillFrom_138 : decode cX3_fillFrom 138 = .ok (.aload_n 0, 1) := by decide +kernel
theorem dX3_fillFrom_139 : decode cX3_fillFrom 139 = .ok (.getfield 21, 3) := by decide +kernel
theorem dX3_fillFrom_142 : decode cX3_fillFrom 142 = .ok (.iload_n 3, 1) := by decide +kernel
theorem dX3_fillFrom_143 : decode cX3_fillFrom 143 = .ok (.iconst 0, 1) := by decide +kernel
theorem dX3_fillFrom_144 : decode cX3_fillFrom 144 = .ok (.bastore, 1) := by decide +kernel
theorem dX3_fillFrom_145 : decode cX3_fillFrom 145 = .ok (.aload_n 0, 1) := by decide +kernel
theorem dX3_fillFrom_146 : decode cX3_fillFrom 146 = .ok (.getfield 55, 3) := by decide +kernel
theorem dX3_fillFrom_149 : decode cX3_fillFrom 149 = .ok (.ifCond .ne 17, 3) := by decide +kernel
theorem dX3_fillFrom_152 : decode cX3_fillFrom 152 = .ok (.aload_n 0, 1) := by decide +kernel
theorem dX3_fillFrom_153 : decode cX3_fillFrom 153 = .ok (.getfield 80, 3) := by decide +kernel
theorem dX3_fillFrom_156 : decode cX3_fillFrom 156 = .ok (.ifCond .eq 11, 3) := by decide +kernel
theorem dX3_fillFrom_159 : decode cX3_fillFrom 159 = .ok (.aload_n 0, 1) := by decide +kernel
theorem dX3_fillFrom_160 : decode cX3_fillFrom 160 = .ok (.getfield 58, 3) := by decide +kernel
theorem dX3_fillFrom_163 : decode cX3_fillFrom 163 = .ok (.ifCond .le 4, 3) := by decide +kernel
theorem dX3_fillFrom_166 : decode cX3_fillFrom 166 = .ok (.return_, 1) := by decide +kernel
theorem dX3_fillFrom_167 : decode cX3_fillFrom 167 = .ok (.iinc 4 1, 3) := by decide +kernel
theorem dX3_fillFrom_170 : decode cX3_fillFrom 170 = .ok (.goto (-105), 3) := by decide +kernel
theorem dX3_fillFrom_173 : decode cX3_fillFrom 173 = .ok (.iinc 3 1, 3) := by decide +kernel
theorem dX3_fillFrom_176 : decode cX3_fillFrom 176 = .ok (.goto (-131), 3) := by decide +kernel
theorem dX3_fillFrom_179 : decode cX3_fillFrom 179 = .ok (.return_, 1) := by decide +kernel
set_option maxRecDepth 20000 in
theorem ggX3_lookAround_X1_nextTo : GoodIn wsX3_lookAround wsX1_nextTo := goodIn_r _ [9, 10, 37, 38, 39, 40] (by decide +kernel) (by decide +kernel)
set_option maxRecDepth 20000 in
theorem gX3_lookAround_X1_nextTo : GoodIn wsX3_lookAround (wsV RX3 120 RX1 yX1_nextTo wsX1_nextTo) := goodIn_app (goodIn_of _ (by decide +kernel)) ggX3_lookAround_X1_nextTo
set_option maxRecDepth 20000 in
theorem ggX3_lookAround_X1_isFlat : GoodIn wsX3_lookAround wsX1_isFlat := goodIn_r _ [14, 15, 16, 17, 8, 18, 19, 37, 38, 39, 40] (by decide +kernel) (by decide +kernel)
set_option maxRecDepth 20000 in
theorem gX3_lookAround_X1_isFlat : GoodIn wsX3_lookAround (wsV RX3 90 RX1 yX1_isFlat wsX1_isFlat) := goodIn_app (goodIn_of _ (by decide +kernel)) ggX3_lookAround_X1_isFlat
set_option maxRecDepth 20000 in
theorem ggX3_lookAround_X3_look : GoodIn wsX3_lookAround wsX3_look := goodIn_r _ [23] (by decide +kernel) (by decide +kernel)
set_option maxRecDepth 20000 in
theorem gX3_lookAround_X3_look : GoodIn wsX3_lookAround (va_wsS RX3 47 yX3_look wsX3_look) := goodIn_app (goodIn_of _ (by decide +kernel)) ggX3_lookAround_X3_look
theorem dX3_lookAround_0 : decode cX3_lookAround 0 = .ok (.iload_n 1, 1) := by decide +kernel
theorem dX3_lookAround_1 : decode cX3_lookAround 1 = .ok (.iconst 4, 1) := by decide +kernel
theorem dX3_lookAround_2 : decode cX3_lookAround 2 = .ok (.imul, 1) := by decide +kernel
theorem dX3_lookAround_3 : decode cX3_lookAround 3 = .ok (.istore_n 2, 1) := by decide +kernel
theorem dX3_lookAround_4 : decode cX3_lookAround 4 = .ok (.iload_n 2, 1) := by decide +kernel
theorem dX3_lookAround_5 : decode cX3_lookAround 5 = .ok (.ifCond .lt 14, 3) := by decide +kernel
theorem dX3_lookAround_8 : decode cX3_lookAround 8 = .ok (.iload_n 2, 1) := by decide +kernel
theorem dX3_lookAround_9 : decode cX3_lookAround 9 = .ok (.aload_n 0, 1) := by decide +kernel
theorem dX3_lookAround_10 : decode cX3_lookAround 10 = .ok (.getfield 18, 3) := by decide +kernel
theorem dX3_lookAround_13 : decode cX3_lookAround 13 = .ok (.arraylength, 1) := by decide +kernel
theorem dX3_lookAround_14 : decode cX3_lookAround 14 = .ok (.iconst 4, 1) := by decide +kernel
theorem dX3_lookAround_15 : decode cX3_lookAround 15 = .ok (.isub, 1) := by decide +kernel
theorem dX3_lookAround_16 : decode cX3_lookAround 16 = .ok (.if_icmp .le 4, 3) := by decide +kernel
theorem dX3_lookAround_19 : decode cX3_lookAround 19 = .ok (.return_, 1) := by decide +kernel
theorem dX3_lookAround_20 : decode cX3_lookAround 20 = .ok (.iconst 0, 1) := by decide +kernel
theorem dX3_lookAround_21 : decode cX3_lookAround 21 = .ok (.istore_n 3, 1) := by decide +kernel
theorem dX3_lookAround_22 : decode cX3_lookAround 22 = .ok (.iload_n 3, 1) := by decide +kernel
theorem dX3_lookAround_23 : decode cX3_lookAround 23 = .ok (.iconst 4, 1) := by decide +kernel
theorem dX3_lookAround_24 : decode cX3_lookAround 24 = .ok (.if_icmp .ge 84, 3) := by decide +kernel
theorem dX3_lookAround_27 : decode cX3_lookAround 27 = .ok (.aload_n 0, 1) := by decide +kernel
theorem dX3_lookAround_28 : decode cX3_lookAround 28 = .ok (.getfield 31, 3) := by decide +kernel
theorem dX3_lookAround_31 : decode cX3_lookAround 31 = .ok (.iload_n 1, 1) := by decide +kernel
theorem dX3_lookAround_32 : decode cX3_lookAround 32 = .ok (.iload_n 3, 1) := by decide +kernel
theorem dX3_lookAround_33 : decode cX3_lookAround 33 = .ok (.invokevirtual 120, 3) := by decide +kernel
theorem dX3_lookAround_36 : decode cX3_lookAround 36 = .ok (.istore 4, 2) := by decide +kernel
theorem dX3_lookAround_38 : decode cX3_lookAround 38 = .ok (.bipush (-2), 2) := by decide +kernel
theorem dX3_lookAround_40 : decode cX3_lookAround 40 = .ok (.istore 5, 2) := by decide +kernel
theorem dX3_lookAround_42 : decode cX3_lookAround 42 = .ok (.aload_n 0, 1) := by decide +kernel
theorem dX3_lookAround_43 : decode cX3_lookAround 43 = .ok (.getfield 31, 3) := by decide +kernel
theorem dX3_lookAround_46 : decode cX3_lookAround 46 = .ok (.iload_n 1, 1) := by decide +kernel
theorem dX3_lookAround_47 : decode cX3_lookAround 47 = .ok (.iload_n 3, 1) := by decide +kernel
theorem dX3_lookAround_48 : decode cX3_lookAround 48 = .ok (.invokevirtual 90, 3) := by decide +kernel
theorem dX3_lookAround_51 : decode cX3_lookAround 51 = .ok (.ifCond .eq 9, 3) := by decide +kernel
theorem dX3_lookAround_54 : decode cX3_lookAround 54 = .ok (.iconst (-1), 1) := by decide +kernel
theorem dX3_lookAround_55 : decode cX3_lookAround 55 = .ok (.istore 5, 2) := by decide +kernel
theorem dX3_lookAround_57 : decode cX3_lookAround 57 = .ok (.goto 35, 3) := by decide +kernel
theorem dX3_lookAround_60 : decode cX3_lookAround 60 = .ok (.iload 4, 2) := by decide +kernel
theorem dX3_lookAround_62 : decode cX3_lookAround 62 = .ok (.iload_n 1, 1) := by decide +kernel
theorem dX3_lookAround_63 : decode cX3_lookAround 63 = .ok (.if_icmp .ge 29, 3) := by decide +kernel
theorem dX3_lookAround_66 : decode cX3_lookAround 66 = .ok (.aload_n 0, 1) := by decide +kernel
theorem dX3_lookAround_67 : decode cX3_lookAround 67 = .ok (.getfield 15, 3) := by decide +kernel
theorem dX3_lookAround_70 : decode cX3_lookAround 70 = .ok (.aload_n 0, 1) := by decide +kernel
theorem dX3_lookAround_71 : decode cX3_lookAround 71 = .ok (.getfield 25, 3) := by decide +kernel
theorem dX3_lookAround_74 : decode cX3_lookAround 74 = .ok (.iload 4, 2) := by decide +kernel
theorem dX3_lookAround_76 : decode cX3_lookAround 76 = .ok (.invokestatic 47, 3) := by decide +kernel
theorem dX3_lookAround_79 : decode cX3_lookAround 79 = .ok (.iconst 4, 1) := by decide +kernel
theorem dX3_lookAround_80 : decode cX3_lookAround 80 = .ok (.imul, 1) := by decide +kernel
theorem dX3_lookAround_81 : decode cX3_lookAround 81 = .ok (.iload_n 3, 1) := by decide +kernel
theorem dX3_lookAround_82 : decode cX3_lookAround 82 = .ok (.iconst 2, 1) := by decide +kernel
theorem dX3_lookAround_83 : decode cX3_lookAround 83 = .ok (.iadd, 1) := by decide +kernel
theorem dX3_lookAround_84 : decode cX3_lookAround 84 = .ok (.iconst 4, 1) := by decide +kernel
theorem dX3_lookAround_85 : decode cX3_lookAround 85 = .ok (.irem, 1) := by decide +kernel
theorem dX3_lookAround_86 : decode cX3_lookAround 86 = .ok (.iadd, 1) := by decide +kernel
theorem dX3_lookAround_87 : decode cX3_lookAround 87 = .ok (.invokestatic 47, 3) := by decide +kernel
theorem dX3_lookAround_90 : decode cX3_lookAround 90 = .ok (.istore 5, 2) := by decide +kernel
theorem dX3_lookAround_92 : decode cX3_lookAround 92 = .ok (.aload_n 0, 1) := by decide +kernel
theorem dX3_lookAround_93 : decode cX3_lookAround 93 = .ok (.getfield 18, 3) := by decide +kernel
theorem dX3_lookAround_96 : decode cX3_lookAround 96 = .ok (.iload_n 2, 1) := by decide +kernel
theorem dX3_lookAround_97 : decode cX3_lookAround 97 = .ok (.iload_n 3, 1) := by decide +kernel
theorem dX3_lookAround_98 : decode cX3_lookAround 98 = .ok (.iadd, 1) := by decide +kernel
theorem dX3_lookAround_99 : decode cX3_lookAround 99 = .ok (.iload 5, 2) := by decide +kernel
theorem dX3_lookAround_101 : decode cX3_lookAround 101 = .ok (.iastore, 1) := by decide +kernel
theorem dX3_lookAround_102 : decode cX3_lookAround 102 = .ok (.iinc 3 1, 3) := by decide +kernel
theorem dX3_lookAround_105 : decode cX3_lookAround 105 = .ok (.goto (-83), 3) := by decide +kernel
theorem dX3_lookAround_108 : decode cX3_lookAround 108 = .ok (.return_, 1) := by decide +kernel
theorem dX3_fits_0 : decode cX3_fits 0 = .ok (.iload_n 1, 1) := by decide +kernel
theorem dX3_fits_1 : decode cX3_fits 1 = .ok (.iconst 4, 1) := by decide +kernel
theorem dX3_fits_2 : decode cX3_fits 2 = .ok (.imul, 1) := by decide +kernel
theorem dX3_fits_3 : decode cX3_fits 3 = .ok (.istore_n 3, 1) := by decide +kernel
theorem dX3_fits_4 : decode cX3_fits 4 = .ok (.iload_n 2, 1) := by decide +kernel
theorem dX3_fits_5 : decode cX3_fits 5 = .ok (.iconst 4, 1) := by decide +kernel
theorem dX3_fits_6 : decode cX3_fits 6 = .ok (.imul, 1) := by decide +kernel
theorem dX3_fits_7 : decode cX3_fits 7 = .ok (.istore 4, 2) := by decide +kernel
theorem dX3_fits_9 : decode cX3_fits 9 = .ok (.iload_n 3, 1) := by decide +kernel
theorem dX3_fits_10 : decode cX3_fits 10 = .ok (.ifCond .lt 31, 3) := by decide +kernel
theorem dX3_fits_13 : decode cX3_fits 13 = .ok (.iload_n 3, 1) := by decide +kernel
theorem dX3_fits_14 : decode cX3_fits 14 = .ok (.aload_n 0, 1) := by decide +kernel
theorem dX3_fits_15 : decode cX3_fits 15 = .ok (.getfield 18, 3) := by decide +kernel
theorem dX3_fits_18 : decode cX3_fits 18 = .ok (.arraylength, 1) := by decide +kernel
theorem dX3_fits_19 : decode cX3_fits 19 = .ok (.iconst 4, 1) := by decide +kernel
theorem dX3_fits_20 : decode cX3_fits 20 = .ok (.isub, 1) := by decide +kernel
theorem dX3_fits_21 : decode cX3_fits 21 = .ok (.if_icmp .gt 20, 3) := by decide +kernel
theorem dX3_fits_24 : decode cX3_fits 24 = .ok (.iload 4, 2) := by decide +kernel
theorem dX3_fits_26 : decode cX3_fits 26 = .ok (.ifCond .lt 15, 3) := by decide +kernel
theorem dX3_fits_29 : decode cX3_fits 29 = .ok (.iload 4, 2) := by decide +kernel
theorem dX3_fits_31 : decode cX3_fits 31 = .ok (.aload_n 0, 1) := by decide +kernel
theorem dX3_fits_32 : decode cX3_fits 32 = .ok (.getfield 9, 3) := by decide +kernel
theorem dX3_fits_35 : decode cX3_fits 35 = .ok (.arraylength, 1) := by decide +kernel
theorem dX3_fits_36 : decode cX3_fits 36 = .ok (.iconst 4, 1) := by decide +kernel
theorem dX3_fits_37 : decode cX3_fits 37 = .ok (.isub, 1) := by decide +kernel
theorem dX3_fits_38 : decode cX3_fits 38 = .ok (.if_icmp .le 5, 3) := by decide +kernel
theorem dX3_fits_41 : decode cX3_fits 41 = .ok (.iconst 0, 1) := by decide +kernel
theorem dX3_fits_42 : decode cX3_fits 42 = .ok (.ireturn, 1) := by decide +kernel
theorem dX3_fits_43 : decode cX3_fits 43 = .ok (.iconst 0, 1) := by decide +kernel
theorem dX3_fits_44 : decode cX3_fits 44 = .ok (.istore 5, 2) := by decide +kernel
theorem dX3_fits_46 : decode cX3_fits 46 = .ok (.iload 5, 2) := by decide +kernel
theorem dX3_fits_48 : decode cX3_fits 48 = .ok (.iconst 4, 1) := by decide +kernel
theorem dX3_fits_49 : decode cX3_fits 49 = .ok (.if_icmp .ge 57, 3) := by decide +kernel
theorem dX3_fits_52 : decode cX3_fits 52 = .ok (.aload_n 0, 1) := by decide +kernel
theorem dX3_fits_53 : decode cX3_fits 53 = .ok (.getfield 18, 3) := by decide +kernel
theorem dX3_fits_56 : decode cX3_fits 56 = .ok (.iload_n 3, 1) := by decide +kernel
theorem dX3_fits_57 : decode cX3_fits 57 = .ok (.iload 5, 2) := by decide +kernel
theorem dX3_fits_59 : decode cX3_fits 59 = .ok (.iadd, 1) := by decide +kernel
theorem dX3_fits_60 : decode cX3_fits 60 = .ok (.iaload, 1) := by decide +kernel
theorem dX3_fits_61 : decode cX3_fits 61 = .ok (.istore 6, 2) := by decide +kernel
theorem dX3_fits_63 : decode cX3_fits 63 = .ok (.aload_n 0, 1) := by decide +kernel
theorem dX3_fits_64 : decode cX3_fits 64 = .ok (.getfield 9, 3) := by decide +kernel
theorem dX3_fits_67 : decode cX3_fits 67 = .ok (.iload 4, 2) := by decide +kernel
theorem dX3_fits_69 : decode cX3_fits 69 = .ok (.iload 5, 2) := by decide +kernel
theorem dX3_fits_71 : decode cX3_fits 71 = .ok (.iadd, 1) := by decide +kernel
theorem dX3_fits_72 : decode cX3_fits 72 = .ok (.iaload, 1) := by decide +kernel
theorem dX3_fits_73 : decode cX3_fits 73 = .ok (.istore 7, 2) := by decide +kernel
theorem dX3_fits_75 : decode cX3_fits 75 = .ok (.iload 6, 2) := by decide +kernel
theorem dX3_fits_77 : decode cX3_fits 77 = .ok (.bipush (-2), 2) := by decide +kernel
theorem dX3_fits_79 : decode cX3_fits 79 = .ok (.if_icmp .ne 12, 3) := by decide +kernel
theorem dX3_fits_82 : decode cX3_fits 82 = .ok (.iload 7, 2) := by decide +kernel
theorem dX3_fits_84 : decode cX3_fits 84 = .ok (.iconst (-1), 1) := by decide +kernel
theorem dX3_fits_85 : decode cX3_fits 85 = .ok (.if_icmp .ne 15, 3) := by decide +kernel
theorem dX3_fits_88 : decode cX3_fits 88 = .ok (.goto 10, 3) := by decide +kernel
theorem dX3_fits_91 : decode cX3_fits 91 = .ok (.iload 7, 2) := by decide +kernel
theorem dX3_fits_93 : decode cX3_fits 93 = .ok (.iload 6, 2) := by decide +kernel
theorem dX3_fits_95 : decode cX3_fits 95 = .ok (.if_icmp .eq 5, 3) := by decide +kernel
theorem dX3_fits_98 : decode cX3_fits 98 = .ok (.iconst 0, 1) := by decide +kernel
theorem dX3_fits_99 : decode cX3_fits 99 = .ok (.ireturn, 1) := by decide +kernel
theorem dX3_fits_100 : decode cX3_fits 100 = .ok (.iinc 5 1, 3) := by decide +kernel
theorem dX3_fits_103 : decode cX3_fits 103 = .ok (.goto (-57), 3) := by decide +kernel
theorem dX3_fits_106 : decode cX3_fits 106 = .ok (.iconst 1, 1) := by decide +kernel
theorem dX3_fits_107 : decode cX3_fits 107 = .ok (.ireturn, 1) := by decide +kernel
theorem dX3_look_0 : decode cX3_look 0 = .ok (.iload_n 1, 1) := by decide +kernel
theorem dX3_look_1 : decode cX3_look 1 = .ok (.ifCond .lt 15, 3) := by decide +kernel
theorem dX3_look_4 : decode cX3_look 4 = .ok (.iload_n 1, 1) := by decide +kernel
theorem dX3_look_5 : decode cX3_look 5 = .ok (.aload_n 0, 1) := by decide +kernel
theorem dX3_look_6 : decode cX3_look 6 = .ok (.arraylength, 1) := by decide +kernel
theorem dX3_look_7 : decode cX3_look 7 = .ok (.if_icmp .ge 9, 3) := by decide +kernel
theorem dX3_look_10 : decode cX3_look 10 = .ok (.aload_n 0, 1) := by decide +kernel
theorem dX3_look_11 : decode cX3_look 11 = .ok (.iload_n 1, 1) := by decide +kernel
theorem dX3_look_12 : decode cX3_look 12 = .ok (.iaload, 1) := by decide +kernel
theorem dX3_look_13 : decode cX3_look 13 = .ok (.goto 4, 3) := by decide +kernel
theorem dX3_look_16 : decode cX3_look 16 = .ok (.iconst 0, 1) := by decide +kernel
theorem dX3_look_17 : decode cX3_look 17 = .ok (.ireturn, 1) := by decide +kernel
theorem dX3_note_0 : decode cX3_note 0 = .ok (.iload_n 1, 1) := by decide +kernel
theorem dX3_note_1 : decode cX3_note 1 = .ok (.ifCond .lt 13, 3) := by decide +kernel
theorem dX3_note_4 : decode cX3_note 4 = .ok (.iload_n 1, 1) := by decide +kernel
theorem dX3_note_5 : decode cX3_note 5 = .ok (.aload_n 0, 1) := by decide +kernel
theorem dX3_note_6 : decode cX3_note 6 = .ok (.arraylength, 1) := by decide +kernel
theorem dX3_note_7 : decode cX3_note 7 = .ok (.if_icmp .ge 7, 3) := by decide +kernel
theorem dX3_note_10 : decode cX3_note 10 = .ok (.aload_n 0, 1) := by decide +kernel
theorem dX3_note_11 : decode cX3_note 11 = .ok (.iload_n 1, 1) := by decide +kernel
theorem dX3_note_12 : decode cX3_note 12 = .ok (.iload_n 2, 1) := by decide +kernel
theorem dX3_note_13 : decode cX3_note 13 = .ok (.iastore, 1) := by decide +kernel
theorem dX3_note_14 : decode cX3_note 14 = .ok (.return_, 1) := by decide +kernel
end
section
/-! the search's tables -/
def shV (W h : Int) (hs pc tn : Int → Int) (v d : Int) : Int := if sdI W h (pc (v / 4)) (edI tn v d) = -9 then -1 else coI W h hs (pc (v / 4)) (edI tn v d)
def fiV (W h : Int) (hs pc tn : Int → Int) (v d : Int) : Int := if sdI W h (pc (v / 4)) (edI tn v d) = -9 then -1 else maI W h hs (pc (v / 4)) (edI tn v d)
def okN (g : Int → Int) (f0 f : Int → Int) (i T e t : Int) : Prop := (∀ e' t' : Int, 0 ≤ e' ∧ e' < 4 → 0 ≤ t' ∧ t' < 4 → (e' < e ∨ (e' = e ∧ t' < t)) → f ((i * 4 + t') * 4 + (e' + T + t') % 4) = g e') ∧ ∀ j : Int, ¬ (i * 16 ≤ j ∧ j < i * 16 + 16) → f j = f0 j
theorem okN_0 (g f0 : Int → Int) (i T : Int) : okN g f0 f0 i T 0 0 := ⟨fun e' t' h1 h2 h3 => by omega, fun _ _ => rfl⟩
theorem okN_s {g f0 f : Int → Int} {i T e t v : Int} (hT : 0 ≤ T ∧ T < 4) (he : 0 ≤ e ∧ e < 4) (ht : 0 ≤ t ∧ t < 4) (hv : v = g e) (q : okN g f0 f i T e t) : okN g f0 (uI f ((i * 4 + t) * 4 + (e + T + t) % 4) v) i T e (t + 1) := by
  refine ⟨fun e' t' h1 h2 h3 => ?_, fun j hj => ?_⟩
  · by_cases z : e' = e ∧ t' = t
    · obtain ⟨rfl, rfl⟩ := z
      rw [uI_eq, hv]
    · rw [uI_ne (by omega)]
      exact q.1 e' t' h1 h2 (by omega)
  · rw [uI_ne (by omega)]
    exact q.2 j hj
theorem okN_e {g f0 f : Int → Int} {i T e t : Int} (ht : 4 ≤ t) (q : okN g f0 f i T e t) : okN g f0 f i T (e + 1) 0 := ⟨fun e' t' h1 h2 h3 => q.1 e' t' h1 h2 (by omega), q.2⟩
theorem okN_f {g f0 f : Int → Int} {i T e : Int} (hT : 0 ≤ T ∧ T < 4) (he : 4 ≤ e) (q : okN g f0 f i T e 0) {t d : Int} (ht : 0 ≤ t ∧ t < 4) (hd : 0 ≤ d ∧ d < 4) : f ((i * 4 + t) * 4 + d) = g ((d + 8 - T - t) % 4) := by
  have h := q.1 ((d + 8 - T - t) % 4) t (by omega) ht (by omega)
  rw [show ((d + 8 - T - t) % 4 + T + t) % 4 = d by omega] at h
  exact h
def laI (wa : Int → Int) (k : Int) (g : Int → Int) (i : Int) : Int → Int := fun j => if k * 4 ≤ j ∧ j < k * 4 + i then g (j - k * 4) else wa j
theorem laI_0 (wa : Int → Int) (k : Int) (g : Int → Int) : laI wa k g 0 = wa := by
  funext j
  exact if_neg (by omega)
theorem laI_s {wa g : Int → Int} {k i v : Int} (h : 0 ≤ i) (hv : v = g i) : uI (laI wa k g i) (k * 4 + i) v = laI wa k g (i + 1) := by
  funext j
  unfold uI laI
  by_cases e : j = k * 4 + i
  · rw [if_pos e, if_pos (by omega), hv, show j - k * 4 = i by omega]
  · rw [if_neg e]
    by_cases q : k * 4 ≤ j ∧ j < k * 4 + i
    · rw [if_pos q, if_pos (by omega)]
    · rw [if_neg q, if_neg (by omega)]
def waV (W h : Int) (fi ly : Int → Int) (k d : Int) : Int := if sdI W h k d = -9 then -1 else if 0 ≤ nxI W k d ∧ nxI W k d < k then fi (ly (nxI W k d) * 4 + (d + 2) % 4) else -2
theorem nxI_b {W p e : Int} (hW : 1 ≤ W ∧ W ≤ 5) : p - 5 ≤ nxI W p e ∧ nxI W p e ≤ p + 5 := by unfold nxI; (repeat' split) <;> omega
def okD (wa sh : Int → Int) (v k d : Int) : Prop := (wa (k * 4 + d) = -2 ∧ sh (v * 4 + d) ≠ -1) ∨ (wa (k * 4 + d) ≠ -2 ∧ sh (v * 4 + d) = wa (k * 4 + d))
end
section
/-! a trial's test is what fits; the search's steps against the machine of its trials -/
theorem sdI_fln (W h p e : Nat) (hW : W < 6) (hh : h < 6) (hp : p < 25) (he : e < 4) : 1 ≤ W → 1 ≤ h → p < W * h → ((sdI W h p 0 = -9 ↔ (p : Int) / W = 0) ∧ (sdI W h p 1 = -9 ↔ (p : Int) % W = W - 1) ∧ (sdI W h p 2 = -9 ↔ (p : Int) / W = h - 1) ∧ (sdI W h p 3 = -9 ↔ (p : Int) % W = 0)) := chk4 (P := fun W h p e => 1 ≤ W → 1 ≤ h → p < W * h → ((sdI (W : Nat) (h : Nat) (p : Nat) 0 = -9 ↔ (p : Int) / W = 0) ∧ (sdI W h p 1 = -9 ↔ (p : Int) % W = W - 1) ∧ (sdI W h p 2 = -9 ↔ (p : Int) / W = h - 1) ∧ (sdI W h p 3 = -9 ↔ (p : Int) % W = 0))) (by decide +kernel) W h p e hW hh hp he
theorem sdI_fl {W h p : Int} (hB : 1 ≤ W ∧ W ≤ 5 ∧ 1 ≤ h ∧ h ≤ 5) (hp : 0 ≤ p ∧ p < W * h) : (sdI W h p 0 = -9 ↔ p / W = 0) ∧ (sdI W h p 1 = -9 ↔ p % W = W - 1) ∧ (sdI W h p 2 = -9 ↔ p / W = h - 1) ∧ (sdI W h p 3 = -9 ↔ p % W = 0) := by
  have hn := nsd_b hB
  obtain ⟨w, rfl⟩ := Int.eq_ofNat_of_zero_le (show 0 ≤ W by omega)
  obtain ⟨k, rfl⟩ := Int.eq_ofNat_of_zero_le (show 0 ≤ h by omega)
  obtain ⟨q, rfl⟩ := Int.eq_ofNat_of_zero_le hp.1
  have hq : q < w * k := by
    have := hp.2
    rw [← Int.natCast_mul] at this
    omega
  exact sdI_fln w k q 0 (by omega) (by omega) (by have := hn.2.2.2; omega) (by omega) (by omega) (by omega) hq
theorem shV_m {W h : Int} {hs pc tn : Int → Int} (hh : hB9 hs) (v d : Int) : (shV W h hs pc tn v d = -1 ↔ ftF W h pc tn v d) ∧ -1 ≤ shV W h hs pc tn v d ∧ shV W h hs pc tn v d < 2476099 ∧ (¬ ftF W h pc tn v d → shV W h hs pc tn v d = coI W h hs (pc (v / 4)) (edI tn v d)) := by
  have hb := coI_b (W := W) (h := h) hh (pc (v / 4)) (edI tn v d)
  unfold shV ftF
  by_cases z : sdI W h (pc (v / 4)) (edI tn v d) = -9
  · rw [if_pos z]; exact ⟨⟨fun _ => z, fun _ => rfl⟩, by omega, by omega, fun q => absurd z q⟩
  · rw [if_neg z]; exact ⟨⟨fun q => by omega, fun q => absurd q z⟩, by omega, by omega, fun _ => rfl⟩
theorem fiV_m {W h : Int} {hs pc tn : Int → Int} (hh : hB9 hs) (v d : Int) : -1 ≤ fiV W h hs pc tn v d ∧ fiV W h hs pc tn v d < 2476099 ∧ (¬ ftF W h pc tn v d → fiV W h hs pc tn v d = maI W h hs (pc (v / 4)) (edI tn v d)) := by
  have hb := maI_b (W := W) (h := h) hh (pc (v / 4)) (edI tn v d)
  unfold fiV ftF
  by_cases z : sdI W h (pc (v / 4)) (edI tn v d) = -9
  · rw [if_pos z]; exact ⟨by omega, by omega, fun q => absurd z q⟩
  · rw [if_neg z]; exact ⟨by omega, by omega, fun _ => rfl⟩
theorem kW_f {W k : Int} (hW : 1 ≤ W) (hk : 0 ≤ k) (h : k / W ≠ 0) : 0 ≤ k - W ∧ (k - W) / W = k / W - 1 := by
  have h1 : W ≤ k := by
    by_cases z : k < W
    · exact absurd (Int.ediv_eq_zero_of_lt hk z) h
    · omega
  refine ⟨by omega, ?_⟩
  have := Int.add_mul_ediv_right k (-1) (show W ≠ 0 by omega)
  rw [show k + -1 * W = k - W by omega] at this
  omega
theorem k1_f {W k : Int} (hW : 1 ≤ W) (hk : 0 ≤ k) (h : k % W ≠ 0) : 0 ≤ k - 1 ∧ (k - 1) % W = k % W - 1 := by
  have h0 := Int.emod_nonneg k (show W ≠ 0 by omega)
  have h1 := Int.emod_lt_of_pos k (show 0 < W by omega)
  refine ⟨?_, ?_⟩
  · by_cases z : k = 0
    · rw [z, Int.zero_emod] at h; omega
    · omega
  · have e := Int.mul_ediv_add_emod k W
    rw [show k - 1 = (k % W - 1) + W * (k / W) by omega, Int.add_mul_emod_self_left]
    exact Int.emod_eq_of_lt (by omega) (by omega)
section FI
variable {W h n k v : Int} {hs pc tn fi sh ly wa q : Int → Int}
theorem waV_f (hB : 1 ≤ W ∧ W ≤ 5 ∧ 1 ≤ h ∧ h ≤ 5) (hk : 0 ≤ k ∧ k < W * h) (hh : hB9 hs) (hLY : ∀ j, 0 ≤ j ∧ j < k → 0 ≤ ly j ∧ ly j < n * 4 ∧ FT W h hs pc tn ly j) (hFI : ∀ v d : Int, 0 ≤ v ∧ v < n * 4 → 0 ≤ d ∧ d < 4 → fi (v * 4 + d) = fiV W h hs pc tn v d) :
    (waV W h fi ly k 0 = if k / W = 0 then -1 else maI W h hs (pc (ly (k - W) / 4)) (edI tn (ly (k - W)) 2)) ∧ (k / W ≠ 0 → ¬ ftF W h pc tn (ly (k - W)) 2) ∧ (waV W h fi ly k 1 = if k % W = W - 1 then -1 else -2) ∧ (waV W h fi ly k 2 = if k / W = h - 1 then -1 else -2) ∧ (waV W h fi ly k 3 = if k % W = 0 then -1 else maI W h hs (pc (ly (k - 1) / 4)) (edI tn (ly (k - 1)) 1)) ∧ (k % W ≠ 0 → ¬ ftF W h pc tn (ly (k - 1)) 1) := by
  obtain ⟨f0, f1, f2, f3⟩ := sdI_fl hB hk
  have n2 : k / W ≠ 0 → ¬ ftF W h pc tn (ly (k - W)) 2 := fun z => by
    obtain ⟨a1, a2⟩ := kW_f hB.1 hk.1 z
    obtain ⟨-, -, b⟩ := hLY (k - W) ⟨a1, by omega⟩
    intro y
    have := b.1.2.2.1.mp y
    have h9 : k / W < h := Int.ediv_lt_of_lt_mul (by omega) (by rw [Int.mul_comm]; exact hk.2)
    omega
  have n1 : k % W ≠ 0 → ¬ ftF W h pc tn (ly (k - 1)) 1 := fun z => by
    obtain ⟨a1, a2⟩ := k1_f hB.1 hk.1 z
    obtain ⟨-, -, b⟩ := hLY (k - 1) ⟨a1, by omega⟩
    intro y
    have := b.1.2.1.mp y
    have h9 := Int.emod_lt_of_pos k (show 0 < W by omega)
    omega
  have x0 : nxI W k 0 = k - W := rfl
  have x1 : nxI W k 1 = k + 1 := rfl
  have x2 : nxI W k 2 = k + W := rfl
  have x3 : nxI W k 3 = k - 1 := rfl
  refine ⟨?_, n2, ?_, ?_, ?_, n1⟩
  · unfold waV
    rw [x0]
    by_cases z : k / W = 0
    · rw [if_pos z, if_pos (f0.mpr z)]
    · obtain ⟨a1, a2⟩ := kW_f hB.1 hk.1 z
      obtain ⟨b1, b2, -⟩ := hLY (k - W) ⟨a1, by omega⟩
      rw [if_neg z, if_neg (fun y => z (f0.mp y)), if_pos ⟨a1, by omega⟩, show ((0 : Int) + 2) % 4 = 2 from rfl, hFI _ 2 ⟨b1, b2⟩ (by omega), (fiV_m hh _ _).2.2 (n2 z)]
  · unfold waV
    rw [x1]
    by_cases z : k % W = W - 1
    · rw [if_pos z, if_pos (f1.mpr z)]
    · rw [if_neg z, if_neg (fun y => z (f1.mp y)), if_neg (by omega)]
  · unfold waV
    rw [x2]
    by_cases z : k / W = h - 1
    · rw [if_pos z, if_pos (f2.mpr z)]
    · rw [if_neg z, if_neg (fun y => z (f2.mp y)), if_neg (by omega)]
  · unfold waV
    rw [x3]
    by_cases z : k % W = 0
    · rw [if_pos z, if_pos (f3.mpr z)]
    · obtain ⟨a1, a2⟩ := k1_f hB.1 hk.1 z
      obtain ⟨b1, b2, -⟩ := hLY (k - 1) ⟨a1, by omega⟩
      rw [if_neg z, if_neg (fun y => z (f3.mp y)), if_pos ⟨a1, by omega⟩, show ((3 : Int) + 2) % 4 = 1 from rfl, hFI _ 1 ⟨b1, b2⟩ (by omega), (fiV_m hh _ _).2.2 (n1 z)]
theorem waV_r (hB : 1 ≤ W ∧ W ≤ 5 ∧ 1 ≤ h ∧ h ≤ 5) (hk : 0 ≤ k ∧ k < W * h) (hh : hB9 hs) (hLY : ∀ j, 0 ≤ j ∧ j < k → 0 ≤ ly j ∧ ly j < n * 4 ∧ FT W h hs pc tn ly j) (hFI : ∀ v d : Int, 0 ≤ v ∧ v < n * 4 → 0 ≤ d ∧ d < 4 → fi (v * 4 + d) = fiV W h hs pc tn v d) (d : Int) (hd : 0 ≤ d ∧ d < 4) : -2147483648 ≤ waV W h fi ly k d ∧ waV W h fi ly k d < 2147483648 := by
  obtain ⟨a0, -, a1, a2, a3, -⟩ := waV_f hB hk hh hLY hFI
  have m0 := maI_b (W := W) (h := h) hh (pc (ly (k - W) / 4)) (edI tn (ly (k - W)) 2)
  have m1 := maI_b (W := W) (h := h) hh (pc (ly (k - 1) / 4)) (edI tn (ly (k - 1)) 1)
  have h4 : d = 0 ∨ d = 1 ∨ d = 2 ∨ d = 3 := by omega
  rcases h4 with rfl | rfl | rfl | rfl
  · rw [a0]; split <;> omega
  · rw [a1]; split <;> omega
  · rw [a2]; split <;> omega
  · rw [a3]; split <;> omega
theorem ok_b {a b : Int} {P : Prop} (hb : b = -1 ↔ P) {C : Prop} (hc : (C → a = -1) ∧ (¬ C → a = -2)) : ((a = -2 ∧ b ≠ -1) ∨ (a ≠ -2 ∧ b = a)) ↔ (P ↔ C) := by
  by_cases z : C
  · have := hc.1 z
    constructor
    · intro q
      exact ⟨fun _ => z, fun _ => hb.mp (by omega)⟩
    · intro q
      exact Or.inr ⟨by omega, by have := hb.mpr (q.mpr z); omega⟩
  · have := hc.2 z
    constructor
    · intro q
      exact ⟨fun p => by have := hb.mpr p; omega, fun p => absurd p z⟩
    · intro q
      exact Or.inl ⟨by omega, fun p => z (q.mp (hb.mp p))⟩
theorem ok_m {a b co ma fr : Int} {P C M : Prop} (hb : b = -1 ↔ P) (hbn : ¬ P → b = co) (hc : (C → a = -1) ∧ (¬ C → a = ma)) (hm : 0 ≤ ma) (hM : ¬ C → ¬ M) (hf : co = ma ↔ fr = 0) : ((a = -2 ∧ b ≠ -1) ∨ (a ≠ -2 ∧ b = a)) ↔ ((P ↔ C) ∧ (C ∨ (¬ P ∧ ¬ M ∧ fr = 0))) := by
  by_cases z : C
  · have := hc.1 z
    constructor
    · intro q
      exact ⟨⟨fun _ => z, fun _ => hb.mp (by omega)⟩, Or.inl z⟩
    · intro q
      exact Or.inr ⟨by omega, by have := hb.mpr (q.1.mpr z); omega⟩
  · have ha := hc.2 z
    constructor
    · intro q
      have e : b = a := by omega
      have np : ¬ P := fun p => by have := hb.mpr p; omega
      exact ⟨⟨fun p => absurd p np, fun p => absurd p z⟩, Or.inr ⟨np, hM z, hf.mp (by rw [← hbn np, e, ha])⟩⟩
    · intro q
      rcases q.2 with y | ⟨y1, y2, y3⟩
      · exact absurd y z
      · exact Or.inr ⟨by omega, by rw [hbn y1, ha]; exact hf.mpr y3⟩
theorem fits_iff (hB : 1 ≤ W ∧ W ≤ 5 ∧ 1 ≤ h ∧ h ≤ 5) (hk : 0 ≤ k ∧ k < W * h) (hh : hB9 hs) (hLY : ∀ j, 0 ≤ j ∧ j < k → 0 ≤ ly j ∧ ly j < n * 4 ∧ FT W h hs pc tn ly j) (hSH : ∀ v d : Int, 0 ≤ v ∧ v < n * 4 → 0 ≤ d ∧ d < 4 → sh (v * 4 + d) = shV W h hs pc tn v d) (hFI : ∀ v d : Int, 0 ≤ v ∧ v < n * 4 → 0 ≤ d ∧ d < 4 → fi (v * 4 + d) = fiV W h hs pc tn v d)
    (hwa : ∀ d, 0 ≤ d ∧ d < 4 → wa (k * 4 + d) = waV W h fi ly k d) (hv : 0 ≤ v ∧ v < n * 4) (hq : ∀ j, 0 ≤ j ∧ j < k → q j = ly j) (hqk : q k = v) : (∀ d : Int, 0 ≤ d → d < 4 → okD wa sh v k d) ↔ FT W h hs pc tn q k := by
  obtain ⟨a0, n0, a1, a2, a3, n3⟩ := waV_f hB hk hh hLY hFI
  have s0 := shV_m (W := W) (h := h) (pc := pc) (tn := tn) hh v 0
  have s1 := shV_m (W := W) (h := h) (pc := pc) (tn := tn) hh v 1
  have s2 := shV_m (W := W) (h := h) (pc := pc) (tn := tn) hh v 2
  have s3 := shV_m (W := W) (h := h) (pc := pc) (tn := tn) hh v 3
  have e0 : okD wa sh v k 0 ↔ ((ftF W h pc tn v 0 ↔ k / W = 0) ∧ (k / W = 0 ∨ ftM W h hs pc tn v 0 (ly (k - W)) 2)) := by
    unfold okD
    rw [hwa 0 (by omega), hSH v 0 hv (by omega)]
    exact ok_m s0.1 s0.2.2.2 ⟨fun z => by rw [a0, if_pos z], fun z => by rw [a0, if_neg z]⟩ (maI_b hh _ _).1 n0 (coI_ma hh _ _ _ _)
  have e3 : okD wa sh v k 3 ↔ ((ftF W h pc tn v 3 ↔ k % W = 0) ∧ (k % W = 0 ∨ ftM W h hs pc tn v 3 (ly (k - 1)) 1)) := by
    unfold okD
    rw [hwa 3 (by omega), hSH v 3 hv (by omega)]
    exact ok_m s3.1 s3.2.2.2 ⟨fun z => by rw [a3, if_pos z], fun z => by rw [a3, if_neg z]⟩ (maI_b hh _ _).1 n3 (coI_ma hh _ _ _ _)
  have e1 : okD wa sh v k 1 ↔ (ftF W h pc tn v 1 ↔ k % W = W - 1) := by
    unfold okD
    rw [hwa 1 (by omega), hSH v 1 hv (by omega)]
    exact ok_b s1.1 ⟨fun z => by rw [a1, if_pos z], fun z => by rw [a1, if_neg z]⟩
  have e2 : okD wa sh v k 2 ↔ (ftF W h pc tn v 2 ↔ k / W = h - 1) := by
    unfold okD
    rw [hwa 2 (by omega), hSH v 2 hv (by omega)]
    exact ok_b s2.1 ⟨fun z => by rw [a2, if_pos z], fun z => by rw [a2, if_neg z]⟩
  have hall : (∀ d : Int, 0 ≤ d → d < 4 → okD wa sh v k d) ↔ (okD wa sh v k 0 ∧ okD wa sh v k 1 ∧ okD wa sh v k 2 ∧ okD wa sh v k 3) := by
    constructor
    · exact fun z => ⟨z 0 (by omega) (by omega), z 1 (by omega) (by omega), z 2 (by omega) (by omega), z 3 (by omega) (by omega)⟩
    · rintro ⟨z0, z1, z2, z3⟩ d h1 h2
      have h4 : d = 0 ∨ d = 1 ∨ d = 2 ∨ d = 3 := by omega
      rcases h4 with rfl | rfl | rfl | rfl <;> assumption
  rw [hall, e0, e1, e2, e3]
  unfold FT
  rw [hqk]
  constructor
  · rintro ⟨⟨z0, y0⟩, z1, z2, z3, y3⟩
    refine ⟨⟨z0, z1, z2, z3⟩, ?_, ?_⟩
    · by_cases c : k / W = 0
      · exact Or.inl c
      · rw [hq (k - W) ⟨(kW_f hB.1 hk.1 c).1, by omega⟩]; exact y0
    · by_cases c : k % W = 0
      · exact Or.inl c
      · rw [hq (k - 1) ⟨(k1_f hB.1 hk.1 c).1, by omega⟩]; exact y3
  · rintro ⟨⟨z0, z1, z2, z3⟩, y0, y3⟩
    refine ⟨⟨z0, ?_⟩, z1, z2, z3, ?_⟩
    · by_cases c : k / W = 0
      · exact Or.inl c
      · rw [hq (k - W) ⟨(kW_f hB.1 hk.1 c).1, by omega⟩] at y0; exact y0
    · by_cases c : k % W = 0
      · exact Or.inl c
      · rw [hq (k - 1) ⟨(k1_f hB.1 hk.1 c).1, by omega⟩] at y3; exact y3
end FI
end
section
theorem nx_nf {W h k d : Int} (hB : 1 ≤ W ∧ W ≤ 5 ∧ 1 ≤ h ∧ h ≤ 5) (hk : 0 ≤ k ∧ k < W * h) (hd : 0 ≤ d ∧ d < 4) (hf : sdI W h k d ≠ -9) (hx : nxI W k d < k) : 0 ≤ nxI W k d := by
  obtain ⟨f0, f1, f2, f3⟩ := sdI_fl hB hk
  have h4 : d = 0 ∨ d = 1 ∨ d = 2 ∨ d = 3 := by omega
  rcases h4 with rfl | rfl | rfl | rfl
  · exact (kW_f hB.1 hk.1 (fun z => hf (f0.mpr z))).1
  · have e : nxI W k 1 = k + 1 := rfl
    omega
  · have e : nxI W k 2 = k + W := rfl
    omega
  · exact (k1_f hB.1 hk.1 (fun z => hf (f3.mpr z))).1
set_option maxHeartbeats 4000000 in
set_option maxRecDepth 100000 in
theorem k_X3_look (E : gE) (l : Launch) {a_a : Nat} {N : Nat} {z : Int} {f : Int → Int} (hz : 0 ≤ z ∧ z < (N : Int)) (hN : N < 2147483648) : gFun E l yX3_look wsX3_look { frames := 0, cells := 0, slots := 0, locals := 0 } [.ref a_a, .int (iI z)] [(a_a, aI E N f)] (.int (iI (f z))) := by
  refine g_start (cc := cX3_look) (maxL := 2) (ret := (some .int)) (by decide) rfl (Nat.le_of_ble_eq_true rfl) ?_
  intro p_ e_ s_ m_ args_ below_ meth_ c_ A_ C hr hnm
  refine g_iload_n 1 C 1 dX3_look_0 rfl rfl ?_
  refine g_if_lt 16 4 C dX3_look_1 (by decide) rfl (by omega) (fun h1 => absurd h1 (by omega)) ?_
  intro h1
  refine g_iload_n 5 C 1 dX3_look_4 rfl rfl ?_
  refine g_aload_n 6 C 0 dX3_look_5 rfl rfl ?_
  refine g_alenI 7 C 0 dX3_look_6 rfl rfl ?_
  refine g_icmp_ge 16 10 C dX3_look_7 (by decide) rfl (by omega) (fun h7 => absurd h7 (by omega)) ?_
  intro h7
  refine g_aload_n 11 C 0 dX3_look_10 rfl rfl ?_
  refine g_iload_n 12 C 1 dX3_look_11 rfl rfl ?_
  refine g_iaload 13 C 0 dX3_look_12 rfl rfl (by omega) ?_
  refine g_goto 17 C dX3_look_13 (by decide) ?_
  exact g_iret C hr dX3_look_17 ⟨g_ri (rfl), rfl⟩
set_option maxHeartbeats 4000000 in
set_option maxRecDepth 100000 in
theorem k_X3_note (E : gE) (l : Launch) {a_a : Nat} {N : Nat} {z v : Int} {f : Int → Int} (hz : 0 ≤ z ∧ z < (N : Int)) (hN : N < 2147483648) : gUpd E l yX3_note wsX3_note { frames := 0, cells := 0, slots := 0, locals := 0 } [.ref a_a, .int (iI z), .int (iI v)] [(a_a, aI E N f)] none [(a_a, aI E N (uI f z v))] := by
  refine g_start (cc := cX3_note) (maxL := 3) (ret := none) (by decide) rfl (Nat.le_of_ble_eq_true rfl) ?_
  intro p_ e_ s_ m_ args_ below_ meth_ c_ A_ C hr hnm
  refine g_iload_n 1 C 1 dX3_note_0 rfl rfl ?_
  refine g_if_lt 14 4 C dX3_note_1 (by decide) rfl (by omega) (fun h1 => absurd h1 (by omega)) ?_
  intro h1
  refine g_iload_n 5 C 1 dX3_note_4 rfl rfl ?_
  refine g_aload_n 6 C 0 dX3_note_5 rfl rfl ?_
  refine g_alenI 7 C 0 dX3_note_6 rfl rfl ?_
  refine g_icmp_ge 14 10 C dX3_note_7 (by decide) rfl (by omega) (fun h7 => absurd h7 (by omega)) ?_
  intro h7
  refine g_aload_n 11 C 0 dX3_note_10 rfl rfl ?_
  refine g_iload_n 12 C 1 dX3_note_11 rfl rfl ?_
  refine g_iload_n 13 C 2 dX3_note_12 rfl rfl ?_
  refine g_iastore (ws' := [(_, aI _ _ _)]) 14 C 0 dX3_note_13 rfl rfl (by omega) rfl ?_
  exact g_vret C hr dX3_note_14 ⟨rfl, rfl⟩
theorem cdX3_look : yX3_look.cls ≠ "java/lang/invoke/MethodHandle" ∧ yX3_look.cls ≠ "java/lang/invoke/VarHandle" ∧ (parseMethodDescriptor yX3_look.desc).map (fun d => d.parameters.length) = some 2 := by decide +kernel
theorem lX3_joinedFrom_28 : Cond.fieldLink RX3 28 (TX3 7).1 (TX3 7).2.1 (TX3 7).2.2.1 ∈ wsX3_joinedFrom := by decide +kernel
theorem iX3_joinedFrom_X3 : ∀ w ∈ u_ws RX3 TX3 13, w ∈ wsX3_joinedFrom := by decide +kernel
set_option maxHeartbeats 4000000 in
set_option maxRecDepth 100000 in
theorem k_X3_joinedFrom (E : gE) (l : Launch) {a_L a_P a_R a_fi a_jl a_ly a_sh a_us a_wa : Nat} {z : Int} {jl : Int → Int} {jo fo sp fd tc : Int} (hz : 0 ≤ z ∧ z < 25) (hjl : 0 ≤ jl z ∧ jl z < 100) : gFun E l yX3_joinedFrom wsX3_joinedFrom { frames := 1, cells := 0, slots := 0, locals := 21 } [.ref a_R, .int (iI z)] [(a_R, .inr (3, [.ref a_P, .ref a_L, .ref a_sh, .ref a_fi, .ref a_wa, .ref a_us, .ref a_ly, .ref a_jl, .int (iI jo), .int (iI fo), .int (iI sp), .int (iI fd), .int (iI tc)])), (a_jl, aI E 25 jl)] (.int (iI (jl z / 4))) := by
  refine g_start (cc := cX3_joinedFrom) (maxL := 2) (ret := (some .int)) (by decide) rfl (Nat.le_of_ble_eq_true rfl) ?_
  intro p_ e_ s_ m_ args_ below_ meth_ c_ A_ C hr hnm
  refine g_aload_n 1 C 0 dX3_joinedFrom_0 rfl rfl ?_
  refine g_get 4 C 0 7 3 iX3_joinedFrom_X3 lX3_joinedFrom_28 dX3_joinedFrom_1 rfl rfl rfl (by decide) rfl ?_
  refine g_iload_n 5 C 1 dX3_joinedFrom_4 rfl rfl ?_
  refine g_callSF 8 C [1] dX3_joinedFrom_5 rfl (k_X3_look E l  (by first | assumption | omega) (by first | assumption | omega)) (va_cwS 2 C.2.2.2.2.1 gX3_joinedFrom_X3_look rfl rfl rfl cdX3_look ⟨Nat.le_of_ble_eq_true rfl, Nat.le_of_ble_eq_true rfl⟩) rfl rfl rfl rfl (Nat.le_of_ble_eq_true rfl) ⟨Nat.le_of_ble_eq_true rfl, Nat.le_of_ble_eq_true rfl⟩ ?_
  refine g_iconst 9 C dX3_joinedFrom_8 rfl ?_
  refine g_idiv 10 C dX3_joinedFrom_9 rfl (by omega) ?_
  exact g_iret C hr dX3_joinedFrom_10 ⟨g_ri (by first | rfl | omega | exact (if_pos (by omega)).symm | exact (if_neg (by omega)).symm), rfl⟩
theorem lX3_joinedTurn_28 : Cond.fieldLink RX3 28 (TX3 7).1 (TX3 7).2.1 (TX3 7).2.2.1 ∈ wsX3_joinedTurn := by decide +kernel
theorem iX3_joinedTurn_X3 : ∀ w ∈ u_ws RX3 TX3 13, w ∈ wsX3_joinedTurn := by decide +kernel
set_option maxHeartbeats 4000000 in
set_option maxRecDepth 100000 in
theorem k_X3_joinedTurn (E : gE) (l : Launch) {a_L a_P a_R a_fi a_jl a_ly a_sh a_us a_wa : Nat} {z : Int} {jl : Int → Int} {jo fo sp fd tc : Int} (hz : 0 ≤ z ∧ z < 25) (hjl : 0 ≤ jl z ∧ jl z < 100) : gFun E l yX3_joinedTurn wsX3_joinedTurn { frames := 1, cells := 0, slots := 0, locals := 21 } [.ref a_R, .int (iI z)] [(a_R, .inr (3, [.ref a_P, .ref a_L, .ref a_sh, .ref a_fi, .ref a_wa, .ref a_us, .ref a_ly, .ref a_jl, .int (iI jo), .int (iI fo), .int (iI sp), .int (iI fd), .int (iI tc)])), (a_jl, aI E 25 jl)] (.int (iI (jl z % 4))) := by
  refine g_start (cc := cX3_joinedTurn) (maxL := 2) (ret := (some .int)) (by decide) rfl (Nat.le_of_ble_eq_true rfl) ?_
  intro p_ e_ s_ m_ args_ below_ meth_ c_ A_ C hr hnm
  refine g_aload_n 1 C 0 dX3_joinedTurn_0 rfl rfl ?_
  refine g_get 4 C 0 7 3 iX3_joinedTurn_X3 lX3_joinedTurn_28 dX3_joinedTurn_1 rfl rfl rfl (by decide) rfl ?_
  refine g_iload_n 5 C 1 dX3_joinedTurn_4 rfl rfl ?_
  refine g_callSF 8 C [1] dX3_joinedTurn_5 rfl (k_X3_look E l  (by first | assumption | omega) (by first | assumption | omega)) (va_cwS 2 C.2.2.2.2.1 gX3_joinedTurn_X3_look rfl rfl rfl cdX3_look ⟨Nat.le_of_ble_eq_true rfl, Nat.le_of_ble_eq_true rfl⟩) rfl rfl rfl rfl (Nat.le_of_ble_eq_true rfl) ⟨Nat.le_of_ble_eq_true rfl, Nat.le_of_ble_eq_true rfl⟩ ?_
  refine g_iconst 9 C dX3_joinedTurn_8 rfl ?_
  refine g_irem 10 C dX3_joinedTurn_9 rfl (by omega) ?_
  exact g_iret C hr dX3_joinedTurn_10 ⟨g_ri (by first | rfl | omega | exact (if_pos (by omega)).symm | exact (if_neg (by omega)).symm), rfl⟩
theorem lX3_trialsCounted_39 : Cond.fieldLink RX3 39 (TX3 12).1 (TX3 12).2.1 (TX3 12).2.2.1 ∈ wsX3_trialsCounted := by decide +kernel
theorem iX3_trialsCounted_X3 : ∀ w ∈ u_ws RX3 TX3 13, w ∈ wsX3_trialsCounted := by decide +kernel
set_option maxHeartbeats 4000000 in
set_option maxRecDepth 100000 in
theorem k_X3_trialsCounted (E : gE) (l : Launch) {a_L a_P a_R a_fi a_jl a_ly a_sh a_us a_wa : Nat} {jo fo sp fd tc : Int}  : gFun E l yX3_trialsCounted wsX3_trialsCounted { frames := 0, cells := 0, slots := 0, locals := 0 } [.ref a_R] [(a_R, .inr (3, [.ref a_P, .ref a_L, .ref a_sh, .ref a_fi, .ref a_wa, .ref a_us, .ref a_ly, .ref a_jl, .int (iI jo), .int (iI fo), .int (iI sp), .int (iI fd), .int (iI tc)]))] (.int (iI tc)) := by
  refine g_start (cc := cX3_trialsCounted) (maxL := 1) (ret := (some .int)) (by decide) rfl (Nat.le_of_ble_eq_true rfl) ?_
  intro p_ e_ s_ m_ args_ below_ meth_ c_ A_ C hr hnm
  refine g_aload_n 1 C 0 dX3_trialsCounted_0 rfl rfl ?_
  refine g_get 4 C 0 12 3 iX3_trialsCounted_X3 lX3_trialsCounted_39 dX3_trialsCounted_1 rfl rfl rfl (by decide) rfl ?_
  exact g_iret C hr dX3_trialsCounted_4 ⟨g_ri (by first | rfl | omega | exact (if_pos (by omega)).symm | exact (if_neg (by omega)).symm), rfl⟩
theorem lX3_hasJoined_43 : Cond.fieldLink RX3 43 (TX3 8).1 (TX3 8).2.1 (TX3 8).2.2.1 ∈ wsX3_hasJoined := by decide +kernel
theorem iX3_hasJoined_X3 : ∀ w ∈ u_ws RX3 TX3 13, w ∈ wsX3_hasJoined := by decide +kernel
set_option maxHeartbeats 4000000 in
set_option maxRecDepth 100000 in
theorem k_X3_hasJoined (E : gE) (l : Launch) {a_L a_P a_R a_fi a_jl a_ly a_sh a_us a_wa : Nat} {jo fo sp fd tc : Int} (hjo : jo = 0 ∨ jo = 1) : gFun E l yX3_hasJoined wsX3_hasJoined { frames := 0, cells := 0, slots := 0, locals := 0 } [.ref a_R] [(a_R, .inr (3, [.ref a_P, .ref a_L, .ref a_sh, .ref a_fi, .ref a_wa, .ref a_us, .ref a_ly, .ref a_jl, .int (iI jo), .int (iI fo), .int (iI sp), .int (iI fd), .int (iI tc)]))] (.int (iI jo)) := by
  refine g_start (cc := cX3_hasJoined) (maxL := 1) (ret := (some .boolean)) (by decide) rfl (Nat.le_of_ble_eq_true rfl) ?_
  intro p_ e_ s_ m_ args_ below_ meth_ c_ A_ C hr hnm
  refine g_aload_n 1 C 0 dX3_hasJoined_0 rfl rfl ?_
  refine g_get 4 C 0 8 3 iX3_hasJoined_X3 lX3_hasJoined_43 dX3_hasJoined_1 rfl rfl rfl (by decide) rfl ?_
  exact g_zret C hr dX3_hasJoined_4 (by rcases hjo with rfl | rfl <;> rfl) ⟨g_ri (by first | rfl | omega | exact (if_pos (by omega)).symm | exact (if_neg (by omega)).symm), rfl⟩
theorem lX3_forgetJoined_43 : Cond.fieldLink RX3 43 (TX3 8).1 (TX3 8).2.1 (TX3 8).2.2.1 ∈ wsX3_forgetJoined := by decide +kernel
theorem iX3_forgetJoined_X3 : ∀ w ∈ u_ws RX3 TX3 13, w ∈ wsX3_forgetJoined := by decide +kernel
set_option maxHeartbeats 4000000 in
set_option maxRecDepth 100000 in
theorem k_X3_forgetJoined (E : gE) (l : Launch) {a_L a_P a_R a_fi a_jl a_ly a_sh a_us a_wa : Nat} {jo fo sp fd tc : Int}  : gUpd E l yX3_forgetJoined wsX3_forgetJoined { frames := 0, cells := 0, slots := 0, locals := 0 } [.ref a_R] [(a_R, .inr (3, [.ref a_P, .ref a_L, .ref a_sh, .ref a_fi, .ref a_wa, .ref a_us, .ref a_ly, .ref a_jl, .int (iI jo), .int (iI fo), .int (iI sp), .int (iI fd), .int (iI tc)]))] none [(a_R, .inr (3, [.ref a_P, .ref a_L, .ref a_sh, .ref a_fi, .ref a_wa, .ref a_us, .ref a_ly, .ref a_jl, .int (iI 0), .int (iI fo), .int (iI sp), .int (iI fd), .int (iI tc)]))] := by
  refine g_start (cc := cX3_forgetJoined) (maxL := 1) (ret := none) (by decide) rfl (Nat.le_of_ble_eq_true rfl) ?_
  intro p_ e_ s_ m_ args_ below_ meth_ c_ A_ C hr hnm
  refine g_aload_n 1 C 0 dX3_forgetJoined_0 rfl rfl ?_
  refine g_iconst 2 C dX3_forgetJoined_1 rfl ?_
  refine g_put (ws' := [(_, .inr (3, [_, _, _, _, _, _, _, _, _, _, _, _, _]))]) 5 C 0 8 3 tyX3 tyX3_ok nmX3 iX3_forgetJoined_X3 lX3_forgetJoined_43 dX3_forgetJoined_2 rfl rfl rfl (by decide) rfl (by decide) rfl (Nat.le_of_ble_eq_true rfl) rfl ?_
  exact g_vret C hr dX3_forgetJoined_5 ⟨rfl, rfl⟩
theorem lX3_codeOf_31 : Cond.fieldLink RX3 31 (TX3 0).1 (TX3 0).2.1 (TX3 0).2.2.1 ∈ wsX3_codeOf := by decide +kernel
theorem iX3_codeOf_X3 : ∀ w ∈ u_ws RX3 TX3 13, w ∈ wsX3_codeOf := by decide +kernel
set_option maxHeartbeats 4000000 in
set_option maxRecDepth 100000 in
theorem k_X3_codeOf (E : gE) (l : Launch) {a_L a_P a_R a_fi a_hs a_jl a_ly a_se a_sh a_us a_wa : Nat} {W h p e : Int} {hs se : Int → Int} {jo fo sp fd tc : Int} (hB : 1 ≤ W ∧ W ≤ 5 ∧ 1 ≤ h ∧ h ≤ 5) (hp : 0 ≤ p ∧ p < W * h) (he : 0 ≤ e ∧ e < 4) (hse : ∀ p e : Int, 0 ≤ p ∧ p < W * h → 0 ≤ e ∧ e < 4 → se (p * 4 + e) = sdI W h p e) (hf : sdI W h p e ≠ -9) (hh : hB9 hs) : gFun E l yX3_codeOf wsX3_codeOf { frames := 2, cells := 0, slots := 0, locals := 48 } [.ref a_R, .int (iI p), .int (iI e)] [(a_R, .inr (3, [.ref a_P, .ref a_L, .ref a_sh, .ref a_fi, .ref a_wa, .ref a_us, .ref a_ly, .ref a_jl, .int (iI jo), .int (iI fo), .int (iI sp), .int (iI fd), .int (iI tc)])), (a_P, .inr (1, [.ref a_hs, .ref a_se, .int (iI W), .int (iI h)])), (a_hs, aI E 200 hs), (a_se, aI E 100 se)] (.int (iI (coI W h hs p e))) := by
  refine g_start (cc := cX3_codeOf) (maxL := 5) (ret := (some .int)) (by decide) rfl (Nat.le_of_ble_eq_true rfl) ?_
  intro p_ e_ s_ m_ args_ below_ meth_ c_ A_ C hr hnm
  refine g_iconst 1 C dX3_codeOf_0 rfl ?_
  refine g_istore_n (lv' := [(3, _), (0, _), (1, _), (2, _)]) 2 C dX3_codeOf_1 rfl rfl (by decide) rfl ?_
  refine g_iconst 3 C dX3_codeOf_2 rfl ?_
  refine g_istore (lv' := [(4, _), (3, _), (0, _), (1, _), (2, _)]) 5 C dX3_codeOf_3 rfl (by decide) rfl ?_
  refine g_iload 7 C 0 dX3_codeOf_5 rfl rfl ?_
  refine g_iconst 8 C dX3_codeOf_7 rfl ?_
  refine g_icmp_ge 37 11 C dX3_codeOf_8 (by decide) rfl (by omega) (fun q => absurd q (by omega)) ?_
  intro _
  refine g_iload_n 12 C 1 dX3_codeOf_11 rfl rfl ?_
  refine g_bipush 14 C dX3_codeOf_12 rfl (by decide) ?_
  refine g_imul 15 C dX3_codeOf_14 rfl ?_
  refine g_bipush 17 C dX3_codeOf_15 rfl (by decide) ?_
  refine g_iadd 18 C dX3_codeOf_17 rfl ?_
  refine g_aload_n 19 C 2 dX3_codeOf_18 rfl rfl ?_
  refine g_get 22 C 0 0 3 iX3_codeOf_X3 lX3_codeOf_31 dX3_codeOf_19 rfl rfl rfl (by decide) rfl ?_
  refine g_iload_n 23 C 3 dX3_codeOf_22 rfl rfl ?_
  refine g_iload_n 24 C 4 dX3_codeOf_23 rfl rfl ?_
  refine g_iload 26 C 0 dX3_codeOf_24 rfl rfl ?_
  refine g_callVF 29 C [1, 2, 3] dX3_codeOf_26 rfl (k_X1_edgeHeight E l  (by first | assumption | omega) (by first | assumption | omega) (by first | assumption | omega) (by first | assumption | omega) (by first | assumption | omega) (by first | assumption | omega)) (cwV 3 C.2.2.2.2.1 gX3_codeOf_X1_edgeHeight rfl rfl rfl cdX1_edgeHeight ⟨Nat.le_of_ble_eq_true rfl, Nat.le_of_ble_eq_true rfl⟩) rfl rfl rfl rfl (Nat.le_of_ble_eq_true rfl) 1 1 rfl rfl rfl ⟨Nat.le_of_ble_eq_true rfl, Nat.le_of_ble_eq_true rfl⟩ ?_
  refine g_iadd 30 C dX3_codeOf_29 rfl ?_
  refine g_istore_n (lv' := [(3, _), (4, _), (0, _), (1, _), (2, _)]) 31 C dX3_codeOf_30 rfl rfl (by decide) rfl ?_
  refine g_iinc (lv' := [(4, .int (iI 1)), (3, _), (0, _), (1, _), (2, _)]) 34 C 1 dX3_codeOf_31 rfl rfl (by decide) rfl ?_
  refine g_goto 5 C dX3_codeOf_34 (by decide) ?_
  refine g_iload 7 C 0 dX3_codeOf_5 rfl rfl ?_
  refine g_iconst 8 C dX3_codeOf_7 rfl ?_
  refine g_icmp_ge 37 11 C dX3_codeOf_8 (by decide) rfl (by omega) (fun q => absurd q (by omega)) ?_
  intro _
  refine g_iload_n 12 C 1 dX3_codeOf_11 rfl rfl ?_
  refine g_bipush 14 C dX3_codeOf_12 rfl (by decide) ?_
  refine g_imul 15 C dX3_codeOf_14 rfl ?_
  refine g_bipush 17 C dX3_codeOf_15 rfl (by decide) ?_
  refine g_iadd 18 C dX3_codeOf_17 rfl ?_
  refine g_aload_n 19 C 2 dX3_codeOf_18 rfl rfl ?_
  refine g_get 22 C 0 0 3 iX3_codeOf_X3 lX3_codeOf_31 dX3_codeOf_19 rfl rfl rfl (by decide) rfl ?_
  refine g_iload_n 23 C 3 dX3_codeOf_22 rfl rfl ?_
  refine g_iload_n 24 C 4 dX3_codeOf_23 rfl rfl ?_
  refine g_iload 26 C 0 dX3_codeOf_24 rfl rfl ?_
  refine g_callVF 29 C [1, 2, 3] dX3_codeOf_26 rfl (k_X1_edgeHeight E l  (by first | assumption | omega) (by first | assumption | omega) (by first | assumption | omega) (by first | assumption | omega) (by first | assumption | omega) (by first | assumption | omega)) (cwV 3 C.2.2.2.2.1 gX3_codeOf_X1_edgeHeight rfl rfl rfl cdX1_edgeHeight ⟨Nat.le_of_ble_eq_true rfl, Nat.le_of_ble_eq_true rfl⟩) rfl rfl rfl rfl (Nat.le_of_ble_eq_true rfl) 1 1 rfl rfl rfl ⟨Nat.le_of_ble_eq_true rfl, Nat.le_of_ble_eq_true rfl⟩ ?_
  refine g_iadd 30 C dX3_codeOf_29 rfl ?_
  refine g_istore_n (lv' := [(3, _), (4, _), (0, _), (1, _), (2, _)]) 31 C dX3_codeOf_30 rfl rfl (by decide) rfl ?_
  refine g_iinc (lv' := [(4, .int (iI 2)), (3, _), (0, _), (1, _), (2, _)]) 34 C 1 dX3_codeOf_31 rfl rfl (by decide) rfl ?_
  refine g_goto 5 C dX3_codeOf_34 (by decide) ?_
  refine g_iload 7 C 0 dX3_codeOf_5 rfl rfl ?_
  refine g_iconst 8 C dX3_codeOf_7 rfl ?_
  refine g_icmp_ge 37 11 C dX3_codeOf_8 (by decide) rfl (by omega) (fun q => absurd q (by omega)) ?_
  intro _
  refine g_iload_n 12 C 1 dX3_codeOf_11 rfl rfl ?_
  refine g_bipush 14 C dX3_codeOf_12 rfl (by decide) ?_
  refine g_imul 15 C dX3_codeOf_14 rfl ?_
  refine g_bipush 17 C dX3_codeOf_15 rfl (by decide) ?_
  refine g_iadd 18 C dX3_codeOf_17 rfl ?_
  refine g_aload_n 19 C 2 dX3_codeOf_18 rfl rfl ?_
  refine g_get 22 C 0 0 3 iX3_codeOf_X3 lX3_codeOf_31 dX3_codeOf_19 rfl rfl rfl (by decide) rfl ?_
  refine g_iload_n 23 C 3 dX3_codeOf_22 rfl rfl ?_
  refine g_iload_n 24 C 4 dX3_codeOf_23 rfl rfl ?_
  refine g_iload 26 C 0 dX3_codeOf_24 rfl rfl ?_
  refine g_callVF 29 C [1, 2, 3] dX3_codeOf_26 rfl (k_X1_edgeHeight E l  (by first | assumption | omega) (by first | assumption | omega) (by first | assumption | omega) (by first | assumption | omega) (by first | assumption | omega) (by first | assumption | omega)) (cwV 3 C.2.2.2.2.1 gX3_codeOf_X1_edgeHeight rfl rfl rfl cdX1_edgeHeight ⟨Nat.le_of_ble_eq_true rfl, Nat.le_of_ble_eq_true rfl⟩) rfl rfl rfl rfl (Nat.le_of_ble_eq_true rfl) 1 1 rfl rfl rfl ⟨Nat.le_of_ble_eq_true rfl, Nat.le_of_ble_eq_true rfl⟩ ?_
  refine g_iadd 30 C dX3_codeOf_29 rfl ?_
  refine g_istore_n (lv' := [(3, _), (4, _), (0, _), (1, _), (2, _)]) 31 C dX3_codeOf_30 rfl rfl (by decide) rfl ?_
  refine g_iinc (lv' := [(4, .int (iI 3)), (3, _), (0, _), (1, _), (2, _)]) 34 C 1 dX3_codeOf_31 rfl rfl (by decide) rfl ?_
  refine g_goto 5 C dX3_codeOf_34 (by decide) ?_
  refine g_iload 7 C 0 dX3_codeOf_5 rfl rfl ?_
  refine g_iconst 8 C dX3_codeOf_7 rfl ?_
  refine g_icmp_ge 37 11 C dX3_codeOf_8 (by decide) rfl (by omega) (fun q => absurd q (by omega)) ?_
  intro _
  refine g_iload_n 12 C 1 dX3_codeOf_11 rfl rfl ?_
  refine g_bipush 14 C dX3_codeOf_12 rfl (by decide) ?_
  refine g_imul 15 C dX3_codeOf_14 rfl ?_
  refine g_bipush 17 C dX3_codeOf_15 rfl (by decide) ?_
  refine g_iadd 18 C dX3_codeOf_17 rfl ?_
  refine g_aload_n 19 C 2 dX3_codeOf_18 rfl rfl ?_
  refine g_get 22 C 0 0 3 iX3_codeOf_X3 lX3_codeOf_31 dX3_codeOf_19 rfl rfl rfl (by decide) rfl ?_
  refine g_iload_n 23 C 3 dX3_codeOf_22 rfl rfl ?_
  refine g_iload_n 24 C 4 dX3_codeOf_23 rfl rfl ?_
  refine g_iload 26 C 0 dX3_codeOf_24 rfl rfl ?_
  refine g_callVF 29 C [1, 2, 3] dX3_codeOf_26 rfl (k_X1_edgeHeight E l  (by first | assumption | omega) (by first | assumption | omega) (by first | assumption | omega) (by first | assumption | omega) (by first | assumption | omega) (by first | assumption | omega)) (cwV 3 C.2.2.2.2.1 gX3_codeOf_X1_edgeHeight rfl rfl rfl cdX1_edgeHeight ⟨Nat.le_of_ble_eq_true rfl, Nat.le_of_ble_eq_true rfl⟩) rfl rfl rfl rfl (Nat.le_of_ble_eq_true rfl) 1 1 rfl rfl rfl ⟨Nat.le_of_ble_eq_true rfl, Nat.le_of_ble_eq_true rfl⟩ ?_
  refine g_iadd 30 C dX3_codeOf_29 rfl ?_
  refine g_istore_n (lv' := [(3, _), (4, _), (0, _), (1, _), (2, _)]) 31 C dX3_codeOf_30 rfl rfl (by decide) rfl ?_
  refine g_iinc (lv' := [(4, .int (iI 4)), (3, _), (0, _), (1, _), (2, _)]) 34 C 1 dX3_codeOf_31 rfl rfl (by decide) rfl ?_
  refine g_goto 5 C dX3_codeOf_34 (by decide) ?_
  refine g_iload 7 C 0 dX3_codeOf_5 rfl rfl ?_
  refine g_iconst 8 C dX3_codeOf_7 rfl ?_
  refine g_icmp_ge 37 11 C dX3_codeOf_8 (by decide) rfl (by omega) (fun q => absurd q (by omega)) ?_
  intro _
  refine g_iload_n 12 C 1 dX3_codeOf_11 rfl rfl ?_
  refine g_bipush 14 C dX3_codeOf_12 rfl (by decide) ?_
  refine g_imul 15 C dX3_codeOf_14 rfl ?_
  refine g_bipush 17 C dX3_codeOf_15 rfl (by decide) ?_
  refine g_iadd 18 C dX3_codeOf_17 rfl ?_
  refine g_aload_n 19 C 2 dX3_codeOf_18 rfl rfl ?_
  refine g_get 22 C 0 0 3 iX3_codeOf_X3 lX3_codeOf_31 dX3_codeOf_19 rfl rfl rfl (by decide) rfl ?_
  refine g_iload_n 23 C 3 dX3_codeOf_22 rfl rfl ?_
  refine g_iload_n 24 C 4 dX3_codeOf_23 rfl rfl ?_
  refine g_iload 26 C 0 dX3_codeOf_24 rfl rfl ?_
  refine g_callVF 29 C [1, 2, 3] dX3_codeOf_26 rfl (k_X1_edgeHeight E l  (by first | assumption | omega) (by first | assumption | omega) (by first | assumption | omega) (by first | assumption | omega) (by first | assumption | omega) (by first | assumption | omega)) (cwV 3 C.2.2.2.2.1 gX3_codeOf_X1_edgeHeight rfl rfl rfl cdX1_edgeHeight ⟨Nat.le_of_ble_eq_true rfl, Nat.le_of_ble_eq_true rfl⟩) rfl rfl rfl rfl (Nat.le_of_ble_eq_true rfl) 1 1 rfl rfl rfl ⟨Nat.le_of_ble_eq_true rfl, Nat.le_of_ble_eq_true rfl⟩ ?_
  refine g_iadd 30 C dX3_codeOf_29 rfl ?_
  refine g_istore_n (lv' := [(3, _), (4, _), (0, _), (1, _), (2, _)]) 31 C dX3_codeOf_30 rfl rfl (by decide) rfl ?_
  refine g_iinc (lv' := [(4, .int (iI 5)), (3, _), (0, _), (1, _), (2, _)]) 34 C 1 dX3_codeOf_31 rfl rfl (by decide) rfl ?_
  refine g_goto 5 C dX3_codeOf_34 (by decide) ?_
  refine g_iload 7 C 0 dX3_codeOf_5 rfl rfl ?_
  refine g_iconst 8 C dX3_codeOf_7 rfl ?_
  refine g_icmp_ge 37 11 C dX3_codeOf_8 (by decide) rfl (by omega) ?_ (fun q => absurd q (by omega))
  intro _
  refine g_iload_n 38 C 1 dX3_codeOf_37 rfl rfl ?_
  exact g_iret C hr dX3_codeOf_38 ⟨g_ri (rfl), rfl⟩
theorem lX3_mateOf_31 : Cond.fieldLink RX3 31 (TX3 0).1 (TX3 0).2.1 (TX3 0).2.2.1 ∈ wsX3_mateOf := by decide +kernel
theorem iX3_mateOf_X3 : ∀ w ∈ u_ws RX3 TX3 13, w ∈ wsX3_mateOf := by decide +kernel
set_option maxHeartbeats 4000000 in
set_option maxRecDepth 100000 in
theorem k_X3_mateOf (E : gE) (l : Launch) {a_L a_P a_R a_fi a_hs a_jl a_ly a_se a_sh a_us a_wa : Nat} {W h p e : Int} {hs se : Int → Int} {jo fo sp fd tc : Int} (hB : 1 ≤ W ∧ W ≤ 5 ∧ 1 ≤ h ∧ h ≤ 5) (hp : 0 ≤ p ∧ p < W * h) (he : 0 ≤ e ∧ e < 4) (hse : ∀ p e : Int, 0 ≤ p ∧ p < W * h → 0 ≤ e ∧ e < 4 → se (p * 4 + e) = sdI W h p e) (hf : sdI W h p e ≠ -9) (hh : hB9 hs) : gFun E l yX3_mateOf wsX3_mateOf { frames := 2, cells := 0, slots := 0, locals := 48 } [.ref a_R, .int (iI p), .int (iI e)] [(a_R, .inr (3, [.ref a_P, .ref a_L, .ref a_sh, .ref a_fi, .ref a_wa, .ref a_us, .ref a_ly, .ref a_jl, .int (iI jo), .int (iI fo), .int (iI sp), .int (iI fd), .int (iI tc)])), (a_P, .inr (1, [.ref a_hs, .ref a_se, .int (iI W), .int (iI h)])), (a_hs, aI E 200 hs), (a_se, aI E 100 se)] (.int (iI (maI W h hs p e))) := by
  refine g_start (cc := cX3_mateOf) (maxL := 5) (ret := (some .int)) (by decide) rfl (Nat.le_of_ble_eq_true rfl) ?_
  intro p_ e_ s_ m_ args_ below_ meth_ c_ A_ C hr hnm
  refine g_iconst 1 C dX3_mateOf_0 rfl ?_
  refine g_istore_n (lv' := [(3, _), (0, _), (1, _), (2, _)]) 2 C dX3_mateOf_1 rfl rfl (by decide) rfl ?_
  refine g_iconst 3 C dX3_mateOf_2 rfl ?_
  refine g_istore (lv' := [(4, _), (3, _), (0, _), (1, _), (2, _)]) 5 C dX3_mateOf_3 rfl (by decide) rfl ?_
  refine g_iload 7 C 0 dX3_mateOf_5 rfl rfl ?_
  refine g_if_lt 36 10 C dX3_mateOf_7 (by decide) rfl (by omega) (fun q => absurd q (by omega)) ?_
  intro _
  refine g_iload_n 11 C 1 dX3_mateOf_10 rfl rfl ?_
  refine g_bipush 13 C dX3_mateOf_11 rfl (by decide) ?_
  refine g_imul 14 C dX3_mateOf_13 rfl ?_
  refine g_bipush 16 C dX3_mateOf_14 rfl (by decide) ?_
  refine g_iadd 17 C dX3_mateOf_16 rfl ?_
  refine g_aload_n 18 C 2 dX3_mateOf_17 rfl rfl ?_
  refine g_get 21 C 0 0 3 iX3_mateOf_X3 lX3_mateOf_31 dX3_mateOf_18 rfl rfl rfl (by decide) rfl ?_
  refine g_iload_n 22 C 3 dX3_mateOf_21 rfl rfl ?_
  refine g_iload_n 23 C 4 dX3_mateOf_22 rfl rfl ?_
  refine g_iload 25 C 0 dX3_mateOf_23 rfl rfl ?_
  refine g_callVF 28 C [1, 2, 3] dX3_mateOf_25 rfl (k_X1_edgeHeight E l  (by first | assumption | omega) (by first | assumption | omega) (by first | assumption | omega) (by first | assumption | omega) (by first | assumption | omega) (by first | assumption | omega)) (cwV 3 C.2.2.2.2.1 gX3_mateOf_X1_edgeHeight rfl rfl rfl cdX1_edgeHeight ⟨Nat.le_of_ble_eq_true rfl, Nat.le_of_ble_eq_true rfl⟩) rfl rfl rfl rfl (Nat.le_of_ble_eq_true rfl) 1 1 rfl rfl rfl ⟨Nat.le_of_ble_eq_true rfl, Nat.le_of_ble_eq_true rfl⟩ ?_
  refine g_isub 29 C dX3_mateOf_28 rfl ?_
  refine g_istore_n (lv' := [(3, _), (4, _), (0, _), (1, _), (2, _)]) 30 C dX3_mateOf_29 rfl rfl (by decide) rfl ?_
  refine g_iinc (lv' := [(4, .int (iI 3)), (3, _), (0, _), (1, _), (2, _)]) 33 C 1 dX3_mateOf_30 rfl rfl (by decide) rfl ?_
  refine g_goto 5 C dX3_mateOf_33 (by decide) ?_
  refine g_iload 7 C 0 dX3_mateOf_5 rfl rfl ?_
  refine g_if_lt 36 10 C dX3_mateOf_7 (by decide) rfl (by omega) (fun q => absurd q (by omega)) ?_
  intro _
  refine g_iload_n 11 C 1 dX3_mateOf_10 rfl rfl ?_
  refine g_bipush 13 C dX3_mateOf_11 rfl (by decide) ?_
  refine g_imul 14 C dX3_mateOf_13 rfl ?_
  refine g_bipush 16 C dX3_mateOf_14 rfl (by decide) ?_
  refine g_iadd 17 C dX3_mateOf_16 rfl ?_
  refine g_aload_n 18 C 2 dX3_mateOf_17 rfl rfl ?_
  refine g_get 21 C 0 0 3 iX3_mateOf_X3 lX3_mateOf_31 dX3_mateOf_18 rfl rfl rfl (by decide) rfl ?_
  refine g_iload_n 22 C 3 dX3_mateOf_21 rfl rfl ?_
  refine g_iload_n 23 C 4 dX3_mateOf_22 rfl rfl ?_
  refine g_iload 25 C 0 dX3_mateOf_23 rfl rfl ?_
  refine g_callVF 28 C [1, 2, 3] dX3_mateOf_25 rfl (k_X1_edgeHeight E l  (by first | assumption | omega) (by first | assumption | omega) (by first | assumption | omega) (by first | assumption | omega) (by first | assumption | omega) (by first | assumption | omega)) (cwV 3 C.2.2.2.2.1 gX3_mateOf_X1_edgeHeight rfl rfl rfl cdX1_edgeHeight ⟨Nat.le_of_ble_eq_true rfl, Nat.le_of_ble_eq_true rfl⟩) rfl rfl rfl rfl (Nat.le_of_ble_eq_true rfl) 1 1 rfl rfl rfl ⟨Nat.le_of_ble_eq_true rfl, Nat.le_of_ble_eq_true rfl⟩ ?_
  refine g_isub 29 C dX3_mateOf_28 rfl ?_
  refine g_istore_n (lv' := [(3, _), (4, _), (0, _), (1, _), (2, _)]) 30 C dX3_mateOf_29 rfl rfl (by decide) rfl ?_
  refine g_iinc (lv' := [(4, .int (iI 2)), (3, _), (0, _), (1, _), (2, _)]) 33 C 1 dX3_mateOf_30 rfl rfl (by decide) rfl ?_
  refine g_goto 5 C dX3_mateOf_33 (by decide) ?_
  refine g_iload 7 C 0 dX3_mateOf_5 rfl rfl ?_
  refine g_if_lt 36 10 C dX3_mateOf_7 (by decide) rfl (by omega) (fun q => absurd q (by omega)) ?_
  intro _
  refine g_iload_n 11 C 1 dX3_mateOf_10 rfl rfl ?_
  refine g_bipush 13 C dX3_mateOf_11 rfl (by decide) ?_
  refine g_imul 14 C dX3_mateOf_13 rfl ?_
  refine g_bipush 16 C dX3_mateOf_14 rfl (by decide) ?_
  refine g_iadd 17 C dX3_mateOf_16 rfl ?_
  refine g_aload_n 18 C 2 dX3_mateOf_17 rfl rfl ?_
  refine g_get 21 C 0 0 3 iX3_mateOf_X3 lX3_mateOf_31 dX3_mateOf_18 rfl rfl rfl (by decide) rfl ?_
  refine g_iload_n 22 C 3 dX3_mateOf_21 rfl rfl ?_
  refine g_iload_n 23 C 4 dX3_mateOf_22 rfl rfl ?_
  refine g_iload 25 C 0 dX3_mateOf_23 rfl rfl ?_
  refine g_callVF 28 C [1, 2, 3] dX3_mateOf_25 rfl (k_X1_edgeHeight E l  (by first | assumption | omega) (by first | assumption | omega) (by first | assumption | omega) (by first | assumption | omega) (by first | assumption | omega) (by first | assumption | omega)) (cwV 3 C.2.2.2.2.1 gX3_mateOf_X1_edgeHeight rfl rfl rfl cdX1_edgeHeight ⟨Nat.le_of_ble_eq_true rfl, Nat.le_of_ble_eq_true rfl⟩) rfl rfl rfl rfl (Nat.le_of_ble_eq_true rfl) 1 1 rfl rfl rfl ⟨Nat.le_of_ble_eq_true rfl, Nat.le_of_ble_eq_true rfl⟩ ?_
  refine g_isub 29 C dX3_mateOf_28 rfl ?_
  refine g_istore_n (lv' := [(3, _), (4, _), (0, _), (1, _), (2, _)]) 30 C dX3_mateOf_29 rfl rfl (by decide) rfl ?_
  refine g_iinc (lv' := [(4, .int (iI 1)), (3, _), (0, _), (1, _), (2, _)]) 33 C 1 dX3_mateOf_30 rfl rfl (by decide) rfl ?_
  refine g_goto 5 C dX3_mateOf_33 (by decide) ?_
  refine g_iload 7 C 0 dX3_mateOf_5 rfl rfl ?_
  refine g_if_lt 36 10 C dX3_mateOf_7 (by decide) rfl (by omega) (fun q => absurd q (by omega)) ?_
  intro _
  refine g_iload_n 11 C 1 dX3_mateOf_10 rfl rfl ?_
  refine g_bipush 13 C dX3_mateOf_11 rfl (by decide) ?_
  refine g_imul 14 C dX3_mateOf_13 rfl ?_
  refine g_bipush 16 C dX3_mateOf_14 rfl (by decide) ?_
  refine g_iadd 17 C dX3_mateOf_16 rfl ?_
  refine g_aload_n 18 C 2 dX3_mateOf_17 rfl rfl ?_
  refine g_get 21 C 0 0 3 iX3_mateOf_X3 lX3_mateOf_31 dX3_mateOf_18 rfl rfl rfl (by decide) rfl ?_
  refine g_iload_n 22 C 3 dX3_mateOf_21 rfl rfl ?_
  refine g_iload_n 23 C 4 dX3_mateOf_22 rfl rfl ?_
  refine g_iload 25 C 0 dX3_mateOf_23 rfl rfl ?_
  refine g_callVF 28 C [1, 2, 3] dX3_mateOf_25 rfl (k_X1_edgeHeight E l  (by first | assumption | omega) (by first | assumption | omega) (by first | assumption | omega) (by first | assumption | omega) (by first | assumption | omega) (by first | assumption | omega)) (cwV 3 C.2.2.2.2.1 gX3_mateOf_X1_edgeHeight rfl rfl rfl cdX1_edgeHeight ⟨Nat.le_of_ble_eq_true rfl, Nat.le_of_ble_eq_true rfl⟩) rfl rfl rfl rfl (Nat.le_of_ble_eq_true rfl) 1 1 rfl rfl rfl ⟨Nat.le_of_ble_eq_true rfl, Nat.le_of_ble_eq_true rfl⟩ ?_
  refine g_isub 29 C dX3_mateOf_28 rfl ?_
  refine g_istore_n (lv' := [(3, _), (4, _), (0, _), (1, _), (2, _)]) 30 C dX3_mateOf_29 rfl rfl (by decide) rfl ?_
  refine g_iinc (lv' := [(4, .int (iI 0)), (3, _), (0, _), (1, _), (2, _)]) 33 C 1 dX3_mateOf_30 rfl rfl (by decide) rfl ?_
  refine g_goto 5 C dX3_mateOf_33 (by decide) ?_
  refine g_iload 7 C 0 dX3_mateOf_5 rfl rfl ?_
  refine g_if_lt 36 10 C dX3_mateOf_7 (by decide) rfl (by omega) (fun q => absurd q (by omega)) ?_
  intro _
  refine g_iload_n 11 C 1 dX3_mateOf_10 rfl rfl ?_
  refine g_bipush 13 C dX3_mateOf_11 rfl (by decide) ?_
  refine g_imul 14 C dX3_mateOf_13 rfl ?_
  refine g_bipush 16 C dX3_mateOf_14 rfl (by decide) ?_
  refine g_iadd 17 C dX3_mateOf_16 rfl ?_
  refine g_aload_n 18 C 2 dX3_mateOf_17 rfl rfl ?_
  refine g_get 21 C 0 0 3 iX3_mateOf_X3 lX3_mateOf_31 dX3_mateOf_18 rfl rfl rfl (by decide) rfl ?_
  refine g_iload_n 22 C 3 dX3_mateOf_21 rfl rfl ?_
  refine g_iload_n 23 C 4 dX3_mateOf_22 rfl rfl ?_
  refine g_iload 25 C 0 dX3_mateOf_23 rfl rfl ?_
  refine g_callVF 28 C [1, 2, 3] dX3_mateOf_25 rfl (k_X1_edgeHeight E l  (by first | assumption | omega) (by first | assumption | omega) (by first | assumption | omega) (by first | assumption | omega) (by first | assumption | omega) (by first | assumption | omega)) (cwV 3 C.2.2.2.2.1 gX3_mateOf_X1_edgeHeight rfl rfl rfl cdX1_edgeHeight ⟨Nat.le_of_ble_eq_true rfl, Nat.le_of_ble_eq_true rfl⟩) rfl rfl rfl rfl (Nat.le_of_ble_eq_true rfl) 1 1 rfl rfl rfl ⟨Nat.le_of_ble_eq_true rfl, Nat.le_of_ble_eq_true rfl⟩ ?_
  refine g_isub 29 C dX3_mateOf_28 rfl ?_
  refine g_istore_n (lv' := [(3, _), (4, _), (0, _), (1, _), (2, _)]) 30 C dX3_mateOf_29 rfl rfl (by decide) rfl ?_
  refine g_iinc (lv' := [(4, .int (iI (-1))), (3, _), (0, _), (1, _), (2, _)]) 33 C 1 dX3_mateOf_30 rfl rfl (by decide) rfl ?_
  refine g_goto 5 C dX3_mateOf_33 (by decide) ?_
  refine g_iload 7 C 0 dX3_mateOf_5 rfl rfl ?_
  refine g_if_lt 36 10 C dX3_mateOf_7 (by decide) rfl (by omega) ?_ (fun q => absurd q (by omega))
  intro _
  refine g_iload_n 37 C 1 dX3_mateOf_36 rfl rfl ?_
  exact g_iret C hr dX3_mateOf_37 ⟨g_ri (rfl), rfl⟩
theorem cdX1_isFlat : yX1_isFlat.cls = RX1 ∧ yX1_isFlat.cls ≠ "java/lang/invoke/MethodHandle" ∧ yX1_isFlat.cls ≠ "java/lang/invoke/VarHandle" ∧ (parseMethodDescriptor yX1_isFlat.desc).map (fun d => d.parameters.length) = some 2 := by decide +kernel
theorem cdX2_pieceAt : yX2_pieceAt.cls = RX2 ∧ yX2_pieceAt.cls ≠ "java/lang/invoke/MethodHandle" ∧ yX2_pieceAt.cls ≠ "java/lang/invoke/VarHandle" ∧ (parseMethodDescriptor yX2_pieceAt.desc).map (fun d => d.parameters.length) = some 1 := by decide +kernel
theorem cdX2_turnAt : yX2_turnAt.cls = RX2 ∧ yX2_turnAt.cls ≠ "java/lang/invoke/MethodHandle" ∧ yX2_turnAt.cls ≠ "java/lang/invoke/VarHandle" ∧ (parseMethodDescriptor yX2_turnAt.desc).map (fun d => d.parameters.length) = some 1 := by decide +kernel
theorem cdX3_codeOf : yX3_codeOf.cls = RX3 ∧ yX3_codeOf.cls ≠ "java/lang/invoke/MethodHandle" ∧ yX3_codeOf.cls ≠ "java/lang/invoke/VarHandle" ∧ (parseMethodDescriptor yX3_codeOf.desc).map (fun d => d.parameters.length) = some 2 := by decide +kernel
theorem cdX3_mateOf : yX3_mateOf.cls = RX3 ∧ yX3_mateOf.cls ≠ "java/lang/invoke/MethodHandle" ∧ yX3_mateOf.cls ≠ "java/lang/invoke/VarHandle" ∧ (parseMethodDescriptor yX3_mateOf.desc).map (fun d => d.parameters.length) = some 2 := by decide +kernel
theorem cdX3_note : yX3_note.cls ≠ "java/lang/invoke/MethodHandle" ∧ yX3_note.cls ≠ "java/lang/invoke/VarHandle" ∧ (parseMethodDescriptor yX3_note.desc).map (fun d => d.parameters.length) = some 3 := by decide +kernel
theorem lX3_readEdges_15 : Cond.fieldLink RX3 15 (TX3 3).1 (TX3 3).2.1 (TX3 3).2.2.1 ∈ wsX3_readEdges := by decide +kernel
theorem lX3_readEdges_31 : Cond.fieldLink RX3 31 (TX3 0).1 (TX3 0).2.1 (TX3 0).2.2.1 ∈ wsX3_readEdges := by decide +kernel
theorem lX3_readEdges_35 : Cond.fieldLink RX3 35 (TX3 1).1 (TX3 1).2.1 (TX3 1).2.2.1 ∈ wsX3_readEdges := by decide +kernel
theorem lX3_readEdges_9 : Cond.fieldLink RX3 9 (TX3 2).1 (TX3 2).2.1 (TX3 2).2.2.1 ∈ wsX3_readEdges := by decide +kernel
theorem iX3_readEdges_X3 : ∀ w ∈ u_ws RX3 TX3 13, w ∈ wsX3_readEdges := by decide +kernel
set_option maxHeartbeats 4000000 in
set_option maxRecDepth 100000 in
theorem k_X3_readEdges (E : gE) (l : Launch) {a_L a_P a_R a_fi a_hs a_jl a_ly a_pc a_se a_sh a_tn a_us a_wa : Nat} {W h n i : Int} {hs se pc tn sh fi : Int → Int} {jo fo sp fd tc : Int} (hB : 1 ≤ W ∧ W ≤ 5 ∧ 1 ≤ h ∧ h ≤ 5) (hse : ∀ p e : Int, 0 ≤ p ∧ p < W * h → 0 ≤ e ∧ e < 4 → se (p * 4 + e) = sdI W h p e) (hh : hB9 hs) (hn : 0 ≤ n ∧ n ≤ 25) (hi : 0 ≤ i ∧ i < n) (hpw : ∀ j : Int, 0 ≤ j ∧ j < n → (0 ≤ pc j ∧ pc j < W * h) ∧ 0 ≤ tn j ∧ tn j < 4) : gMet E l yX3_readEdges wsX3_readEdges { frames := 3, cells := 0, slots := 0, locals := 72 } 0 0 [.ref a_R, .int (iI i)] [(a_R, .inr (3, [.ref a_P, .ref a_L, .ref a_sh, .ref a_fi, .ref a_wa, .ref a_us, .ref a_ly, .ref a_jl, .int (iI jo), .int (iI fo), .int (iI sp), .int (iI fd), .int (iI tc)])), (a_P, .inr (1, [.ref a_hs, .ref a_se, .int (iI W), .int (iI h)])), (a_hs, aI E 200 hs), (a_se, aI E 100 se), (a_L, .inr (2, [.ref a_pc, .ref a_tn, .int (iI n)])), (a_pc, aI E 25 pc), (a_tn, aI E 25 tn), (a_sh, aI E 400 sh), (a_fi, aI E 400 fi)] (fun v w => ∃ sh2 fi2 : Int → Int, (v = none ∧ okN (fun x => if sdI W h (pc i) x = -9 then -1 else coI W h hs (pc i) x) sh sh2 i (tn i) 4 0 ∧ okN (fun x => if sdI W h (pc i) x = -9 then -1 else maI W h hs (pc i) x) fi fi2 i (tn i) 4 0) ∧ w = [(a_R, .inr (3, [.ref a_P, .ref a_L, .ref a_sh, .ref a_fi, .ref a_wa, .ref a_us, .ref a_ly, .ref a_jl, .int (iI jo), .int (iI fo), .int (iI sp), .int (iI fd), .int (iI tc)])), (a_P, .inr (1, [.ref a_hs, .ref a_se, .int (iI W), .int (iI h)])), (a_hs, aI E 200 hs), (a_se, aI E 100 se), (a_L, .inr (2, [.ref a_pc, .ref a_tn, .int (iI n)])), (a_pc, aI E 25 pc), (a_tn, aI E 25 tn), (a_sh, aI E 400 sh2), (a_fi, aI E 400 fi2)]) := by
  refine g_start (cc := cX3_readEdges) (maxL := 9) (ret := none) (by decide) rfl (Nat.le_of_ble_eq_true rfl) ?_
  intro p_ e_ s_ m_ args_ below_ meth_ c_ A_ C hr hnm
  have hn := nsd_b hB
  have hpi := hpw i hi
  refine g_aload_n 1 C 0 dX3_readEdges_0 rfl rfl ?_
  refine g_get 4 C 0 1 3 iX3_readEdges_X3 lX3_readEdges_35 dX3_readEdges_1 rfl rfl rfl (by decide) rfl ?_
  refine g_iload_n 5 C 1 dX3_readEdges_4 rfl rfl ?_
  refine g_callVF 8 C [4, 5] dX3_readEdges_5 rfl (k_X2_pieceAt E l  (by first | assumption | omega) (by first | assumption | omega)) (cwV 1 C.2.2.2.2.1 gX3_readEdges_X2_pieceAt rfl rfl rfl cdX2_pieceAt ⟨Nat.le_of_ble_eq_true rfl, Nat.le_of_ble_eq_true rfl⟩) rfl rfl rfl rfl (Nat.le_of_ble_eq_true rfl) 4 2 rfl rfl rfl ⟨Nat.le_of_ble_eq_true rfl, Nat.le_of_ble_eq_true rfl⟩ ?_
  refine g_istore_n (lv' := [(2, _), (0, _), (1, _)]) 9 C dX3_readEdges_8 rfl rfl (by decide) rfl ?_
  refine g_iconst 10 C dX3_readEdges_9 rfl ?_
  refine g_istore_n (lv' := [(3, _), (2, _), (0, _), (1, _)]) 11 C dX3_readEdges_10 rfl rfl (by decide) rfl ?_
  refine g_loop (α := (Int → Int) × (Int → Int) × Int) (fun zz => [(a_R, .inr (3, [.ref a_P, .ref a_L, .ref a_sh, .ref a_fi, .ref a_wa, .ref a_us, .ref a_ly, .ref a_jl, .int (iI jo), .int (iI fo), .int (iI sp), .int (iI fd), .int (iI tc)])), (a_P, .inr (1, [.ref a_hs, .ref a_se, .int (iI W), .int (iI h)])), (a_hs, aI E 200 hs), (a_se, aI E 100 se), (a_L, .inr (2, [.ref a_pc, .ref a_tn, .int (iI n)])), (a_pc, aI E 25 pc), (a_tn, aI E 25 tn), (a_sh, aI E 400 zz.1), (a_fi, aI E 400 zz.2.1)]) (fun zz => [(3, .int (iI zz.2.2)), (2, .int (iI (pc i))), (1, .int (iI i)), (0, .ref a_R)]) (fun zz => (0 ≤ zz.2.2 ∧ zz.2.2 ≤ 4) ∧ okN (fun x => if sdI W h (pc i) x = -9 then -1 else coI W h hs (pc i) x) sh zz.1 i (tn i) zz.2.2 0 ∧ okN (fun x => if sdI W h (pc i) x = -9 then -1 else maI W h hs (pc i) x) fi zz.2.1 i (tn i) zz.2.2 0) (fun zz => (4 - zz.2.2).toNat) (sh, fi, 0) (by
            try dsimp only
            exact ⟨by omega, okN_0 _ _ _ _, okN_0 _ _ _ _⟩) [0, 1, 3, 2] rfl rfl ?_
  rintro ⟨f, g, e⟩ hI ih11
  try dsimp only at hI ih11 ⊢
  obtain ⟨he, hF, hG⟩ := hI
  refine g_iload_n 12 C 0 dX3_readEdges_11 rfl rfl ?_
  refine g_iconst 13 C dX3_readEdges_12 rfl ?_
  refine g_icmp_ge 137 16 C dX3_readEdges_13 (by decide) rfl (by omega) ?_ ?_
  · intro h13
    exact g_vret C hr dX3_readEdges_137 ⟨_, _, ⟨rfl, by rw [show (4 : Int) = e by omega]; exact hF, by rw [show (4 : Int) = e by omega]; exact hG⟩, rfl⟩
  · intro h13
    refine g_aload_n 17 C 3 dX3_readEdges_16 rfl rfl ?_
    refine g_get 20 C 0 0 3 iX3_readEdges_X3 lX3_readEdges_31 dX3_readEdges_17 rfl rfl rfl (by decide) rfl ?_
    refine g_iload_n 21 C 1 dX3_readEdges_20 rfl rfl ?_
    refine g_iload_n 22 C 0 dX3_readEdges_21 rfl rfl ?_
    refine g_callVF 25 C [1, 3] dX3_readEdges_22 rfl (k_X1_isFlat E l  (by first | assumption | omega) (by first | assumption | omega) (by first | assumption | omega) (by first | assumption | omega)) (cwV 2 C.2.2.2.2.1 gX3_readEdges_X1_isFlat rfl rfl rfl cdX1_isFlat ⟨Nat.le_of_ble_eq_true rfl, Nat.le_of_ble_eq_true rfl⟩) rfl rfl rfl rfl (Nat.le_of_ble_eq_true rfl) 1 1 rfl rfl rfl ⟨Nat.le_of_ble_eq_true rfl, Nat.le_of_ble_eq_true rfl⟩ ?_
    refine g_joinv 38 1 (if sdI W h (pc i) e = -9 then -1 else coI W h hs (pc i) e) ?_ ?_
    · skip
      refine g_istore (lv' := [(4, _), (3, _), (2, _), (1, _), (0, _)]) 40 C dX3_readEdges_38 rfl (by decide) rfl ?_
      refine g_aload_n 41 C 4 dX3_readEdges_40 rfl rfl ?_
      refine g_get 44 C 0 0 3 iX3_readEdges_X3 lX3_readEdges_31 dX3_readEdges_41 rfl rfl rfl (by decide) rfl ?_
      refine g_iload_n 45 C 2 dX3_readEdges_44 rfl rfl ?_
      refine g_iload_n 46 C 1 dX3_readEdges_45 rfl rfl ?_
      refine g_callVF 49 C [1, 3] dX3_readEdges_46 rfl (k_X1_isFlat E l  (by first | assumption | omega) (by first | assumption | omega) (by first | assumption | omega) (by first | assumption | omega)) (cwV 2 C.2.2.2.2.1 gX3_readEdges_X1_isFlat rfl rfl rfl cdX1_isFlat ⟨Nat.le_of_ble_eq_true rfl, Nat.le_of_ble_eq_true rfl⟩) rfl rfl rfl rfl (Nat.le_of_ble_eq_true rfl) 1 1 rfl rfl rfl ⟨Nat.le_of_ble_eq_true rfl, Nat.le_of_ble_eq_true rfl⟩ ?_
      refine g_joinv 62 1 (if sdI W h (pc i) e = -9 then -1 else maI W h hs (pc i) e) ?_ ?_
      · skip
        refine g_istore (lv' := [(5, _), (4, _), (3, _), (2, _), (1, _), (0, _)]) 64 C dX3_readEdges_62 rfl (by decide) rfl ?_
        refine g_iconst 65 C dX3_readEdges_64 rfl ?_
        refine g_istore (lv' := [(6, _), (5, _), (4, _), (3, _), (2, _), (1, _), (0, _)]) 67 C dX3_readEdges_65 rfl (by decide) rfl ?_
        refine g_loop (α := (Int → Int) × (Int → Int) × Int) (fun zz => [(a_R, .inr (3, [.ref a_P, .ref a_L, .ref a_sh, .ref a_fi, .ref a_wa, .ref a_us, .ref a_ly, .ref a_jl, .int (iI jo), .int (iI fo), .int (iI sp), .int (iI fd), .int (iI tc)])), (a_P, .inr (1, [.ref a_hs, .ref a_se, .int (iI W), .int (iI h)])), (a_hs, aI E 200 hs), (a_se, aI E 100 se), (a_L, .inr (2, [.ref a_pc, .ref a_tn, .int (iI n)])), (a_pc, aI E 25 pc), (a_tn, aI E 25 tn), (a_sh, aI E 400 zz.1), (a_fi, aI E 400 zz.2.1)]) (fun zz => [(6, .int (iI zz.2.2)), (4, .int (iI (if sdI W h (pc i) e = -9 then -1 else coI W h hs (pc i) e))), (5, .int (iI (if sdI W h (pc i) e = -9 then -1 else maI W h hs (pc i) e))), (3, .int (iI e)), (2, .int (iI (pc i))), (1, .int (iI i)), (0, .ref a_R)]) (fun zz => (0 ≤ zz.2.2 ∧ zz.2.2 ≤ 4) ∧ okN (fun x => if sdI W h (pc i) x = -9 then -1 else coI W h hs (pc i) x) sh zz.1 i (tn i) e zz.2.2 ∧ okN (fun x => if sdI W h (pc i) x = -9 then -1 else maI W h hs (pc i) x) fi zz.2.1 i (tn i) e zz.2.2) (fun zz => (4 - zz.2.2).toNat) (f, g, 0) (by
            try dsimp only
            exact ⟨by omega, hF, hG⟩) [0, 2, 1, 3, 4, 5, 6] rfl rfl ?_
        rintro ⟨f, g, t⟩ hI ih67
        try dsimp only at hI ih67 ⊢
        obtain ⟨ht, hF2, hG2⟩ := hI
        refine g_iload 69 C 0 dX3_readEdges_67 rfl rfl ?_
        refine g_iconst 70 C dX3_readEdges_69 rfl ?_
        refine g_icmp_ge 131 73 C dX3_readEdges_70 (by decide) rfl (by omega) ?_ ?_
        · intro h70
          refine g_iinc (lv' := [(3, _), (6, _), (4, _), (5, _), (2, _), (1, _), (0, _)]) 134 C 3 dX3_readEdges_131 rfl rfl (by decide) rfl ?_
          refine g_goto 11 C dX3_readEdges_134 (by decide) ?_
          exact g_w [0, 4, 5, 6] rfl rfl (ih11 (f, g, (e + 1)) (by
            try dsimp only
            exact ⟨by omega, okN_e (by omega) hF2, okN_e (by omega) hG2⟩) (by (try dsimp only); omega))
        · intro h70
          refine g_iload_n 74 C 3 dX3_readEdges_73 rfl rfl ?_
          refine g_aload_n 75 C 6 dX3_readEdges_74 rfl rfl ?_
          refine g_get 78 C 0 1 3 iX3_readEdges_X3 lX3_readEdges_35 dX3_readEdges_75 rfl rfl rfl (by decide) rfl ?_
          refine g_iload_n 79 C 5 dX3_readEdges_78 rfl rfl ?_
          refine g_callVF 82 C [4, 6] dX3_readEdges_79 rfl (k_X2_turnAt E l  (by first | assumption | omega) (by first | assumption | omega)) (cwV 1 C.2.2.2.2.1 gX3_readEdges_X2_turnAt rfl rfl rfl cdX2_turnAt ⟨Nat.le_of_ble_eq_true rfl, Nat.le_of_ble_eq_true rfl⟩) rfl rfl rfl rfl (Nat.le_of_ble_eq_true rfl) 4 2 rfl rfl rfl ⟨Nat.le_of_ble_eq_true rfl, Nat.le_of_ble_eq_true rfl⟩ ?_
          refine g_iadd 83 C dX3_readEdges_82 rfl ?_
          refine g_iload 85 C 0 dX3_readEdges_83 rfl rfl ?_
          refine g_iadd 86 C dX3_readEdges_85 rfl ?_
          refine g_iconst 87 C dX3_readEdges_86 rfl ?_
          refine g_irem 88 C dX3_readEdges_87 rfl (by omega) ?_
          refine g_istore (lv' := [(7, _), (6, _), (4, _), (5, _), (3, _), (2, _), (1, _), (0, _)]) 90 C dX3_readEdges_88 rfl (by decide) rfl ?_
          refine g_iload_n 91 C 6 dX3_readEdges_90 rfl rfl ?_
          refine g_iconst 92 C dX3_readEdges_91 rfl ?_
          refine g_imul 93 C dX3_readEdges_92 rfl ?_
          refine g_iload 95 C 1 dX3_readEdges_93 rfl rfl ?_
          refine g_iadd 96 C dX3_readEdges_95 rfl ?_
          refine g_iconst 97 C dX3_readEdges_96 rfl ?_
          refine g_imul 98 C dX3_readEdges_97 rfl ?_
          refine g_iload 100 C 0 dX3_readEdges_98 rfl rfl ?_
          refine g_iadd 101 C dX3_readEdges_100 rfl ?_
          refine g_istore (lv' := [(8, _), (7, _), (6, _), (4, _), (5, _), (3, _), (2, _), (1, _), (0, _)]) 103 C dX3_readEdges_101 rfl (by decide) rfl ?_
          refine g_aload_n 104 C 8 dX3_readEdges_103 rfl rfl ?_
          refine g_get 107 C 0 2 3 iX3_readEdges_X3 lX3_readEdges_9 dX3_readEdges_104 rfl rfl rfl (by decide) rfl ?_
          refine g_iload 109 C 0 dX3_readEdges_107 rfl rfl ?_
          refine g_iload 111 C 3 dX3_readEdges_109 rfl rfl ?_
          refine g_callSU (ws' := [(_, .inr (3, [_, _, _, _, _, _, _, _, _, _, _, _, _])), (_, .inr (1, [_, _, _, _])), (_, aI _ _ _), (_, aI _ _ _), (_, .inr (2, [_, _, _])), (_, aI _ _ _), (_, aI _ _ _), (_, aI _ _ _), (_, aI _ _ _)]) 114 C [7] dX3_readEdges_111 rfl (k_X3_note E l  (by first | assumption | omega) (by first | assumption | omega)) (va_cwS 3 C.2.2.2.2.1 gX3_readEdges_X3_note rfl rfl rfl cdX3_note ⟨Nat.le_of_ble_eq_true rfl, Nat.le_of_ble_eq_true rfl⟩) rfl rfl rfl rfl (Nat.le_of_ble_eq_true rfl) ⟨Nat.le_of_ble_eq_true rfl, Nat.le_of_ble_eq_true rfl⟩ rfl rfl ?_
          refine g_aload_n 115 C 8 dX3_readEdges_114 rfl rfl ?_
          refine g_get 118 C 0 3 3 iX3_readEdges_X3 lX3_readEdges_15 dX3_readEdges_115 rfl rfl rfl (by decide) rfl ?_
          refine g_iload 120 C 0 dX3_readEdges_118 rfl rfl ?_
          refine g_iload 122 C 4 dX3_readEdges_120 rfl rfl ?_
          refine g_callSU (ws' := [(_, .inr (3, [_, _, _, _, _, _, _, _, _, _, _, _, _])), (_, .inr (1, [_, _, _, _])), (_, aI _ _ _), (_, aI _ _ _), (_, .inr (2, [_, _, _])), (_, aI _ _ _), (_, aI _ _ _), (_, aI _ _ _), (_, aI _ _ _)]) 125 C [8] dX3_readEdges_122 rfl (k_X3_note E l  (by first | assumption | omega) (by first | assumption | omega)) (va_cwS 3 C.2.2.2.2.1 gX3_readEdges_X3_note rfl rfl rfl cdX3_note ⟨Nat.le_of_ble_eq_true rfl, Nat.le_of_ble_eq_true rfl⟩) rfl rfl rfl rfl (Nat.le_of_ble_eq_true rfl) ⟨Nat.le_of_ble_eq_true rfl, Nat.le_of_ble_eq_true rfl⟩ rfl rfl ?_
          refine g_iinc (lv' := [(6, _), (8, _), (7, _), (4, _), (5, _), (3, _), (2, _), (1, _), (0, _)]) 128 C 2 dX3_readEdges_125 rfl rfl (by decide) rfl ?_
          refine g_goto 67 C dX3_readEdges_128 (by decide) ?_
          exact g_w [0, 3, 4, 5, 6, 7, 8] rfl rfl (ih67 ((uI f ((i * 4 + t) * 4 + (e + tn i + t) % 4) (if sdI W h (pc i) e = -9 then -1 else coI W h hs (pc i) e)), (uI g ((i * 4 + t) * 4 + (e + tn i + t) % 4) (if sdI W h (pc i) e = -9 then -1 else maI W h hs (pc i) e)), (t + 1)) (by
            try dsimp only
            exact ⟨by omega, okN_s hpi.2 (by omega) (by omega) rfl hF2, okN_s hpi.2 (by omega) (by omega) rfl hG2⟩) (by (try dsimp only); omega))
      · intro kj
        refine g_ifb_eq 56 52 C dX3_readEdges_49 (by decide) rfl ?_ ?_
        · intro h49
          refine g_aload_n 57 C 4 dX3_readEdges_56 rfl rfl ?_
          refine g_iload_n 58 C 2 dX3_readEdges_57 rfl rfl ?_
          refine g_iload_n 59 C 1 dX3_readEdges_58 rfl rfl ?_
          refine g_callVF 62 C [0, 1, 2, 3] dX3_readEdges_59 rfl (k_X3_mateOf E l  (by first | assumption | omega) (by first | assumption | omega) (by first | assumption | omega) (by first | assumption | omega) (by first | assumption | omega) (by first | assumption | omega)) (cwV 2 C.2.2.2.2.1 gX3_readEdges_X3_mateOf rfl rfl rfl cdX3_mateOf ⟨Nat.le_of_ble_eq_true rfl, Nat.le_of_ble_eq_true rfl⟩) rfl rfl rfl rfl (Nat.le_of_ble_eq_true rfl) 0 3 rfl rfl rfl ⟨Nat.le_of_ble_eq_true rfl, Nat.le_of_ble_eq_true rfl⟩ ?_
          exact kj _ (by first | rfl | omega | exact (if_pos (by omega)).symm | exact (if_neg (by omega)).symm)
        · intro h49
          refine g_iconst 53 C dX3_readEdges_52 rfl ?_
          refine g_goto 62 C dX3_readEdges_53 (by decide) ?_
          exact kj _ (by first | rfl | omega | exact (if_pos (by omega)).symm | exact (if_neg (by omega)).symm)
    · intro kj
      refine g_ifb_eq 32 28 C dX3_readEdges_25 (by decide) rfl ?_ ?_
      · intro h25
        refine g_aload_n 33 C 3 dX3_readEdges_32 rfl rfl ?_
        refine g_iload_n 34 C 1 dX3_readEdges_33 rfl rfl ?_
        refine g_iload_n 35 C 0 dX3_readEdges_34 rfl rfl ?_
        refine g_callVF 38 C [0, 1, 2, 3] dX3_readEdges_35 rfl (k_X3_codeOf E l  (by first | assumption | omega) (by first | assumption | omega) (by first | assumption | omega) (by first | assumption | omega) (by first | assumption | omega) (by first | assumption | omega)) (cwV 2 C.2.2.2.2.1 gX3_readEdges_X3_codeOf rfl rfl rfl cdX3_codeOf ⟨Nat.le_of_ble_eq_true rfl, Nat.le_of_ble_eq_true rfl⟩) rfl rfl rfl rfl (Nat.le_of_ble_eq_true rfl) 0 3 rfl rfl rfl ⟨Nat.le_of_ble_eq_true rfl, Nat.le_of_ble_eq_true rfl⟩ ?_
        exact kj _ (by first | rfl | omega | exact (if_pos (by omega)).symm | exact (if_neg (by omega)).symm)
      · intro h25
        refine g_iconst 29 C dX3_readEdges_28 rfl ?_
        refine g_goto 38 C dX3_readEdges_29 (by decide) ?_
        exact kj _ (by first | rfl | omega | exact (if_pos (by omega)).symm | exact (if_neg (by omega)).symm)
theorem cdX1_nextTo : yX1_nextTo.cls = RX1 ∧ yX1_nextTo.cls ≠ "java/lang/invoke/MethodHandle" ∧ yX1_nextTo.cls ≠ "java/lang/invoke/VarHandle" ∧ (parseMethodDescriptor yX1_nextTo.desc).map (fun d => d.parameters.length) = some 2 := by decide +kernel
theorem lX3_lookAround_15 : Cond.fieldLink RX3 15 (TX3 3).1 (TX3 3).2.1 (TX3 3).2.2.1 ∈ wsX3_lookAround := by decide +kernel
theorem lX3_lookAround_18 : Cond.fieldLink RX3 18 (TX3 4).1 (TX3 4).2.1 (TX3 4).2.2.1 ∈ wsX3_lookAround := by decide +kernel
theorem lX3_lookAround_25 : Cond.fieldLink RX3 25 (TX3 6).1 (TX3 6).2.1 (TX3 6).2.2.1 ∈ wsX3_lookAround := by decide +kernel
theorem lX3_lookAround_31 : Cond.fieldLink RX3 31 (TX3 0).1 (TX3 0).2.1 (TX3 0).2.2.1 ∈ wsX3_lookAround := by decide +kernel
theorem iX3_lookAround_X3 : ∀ w ∈ u_ws RX3 TX3 13, w ∈ wsX3_lookAround := by decide +kernel
set_option maxHeartbeats 4000000 in
set_option maxRecDepth 100000 in
theorem k_X3_lookAround (E : gE) (l : Launch) {a_L a_P a_R a_fi a_hs a_jl a_ly a_se a_sh a_us a_wa : Nat} {W h k : Int} {se fi wa ly : Int → Int} {jo fo sp fd tc : Int} (hB : 1 ≤ W ∧ W ≤ 5 ∧ 1 ≤ h ∧ h ≤ 5) (hk : 0 ≤ k ∧ k < W * h) (hse : ∀ p e : Int, 0 ≤ p ∧ p < W * h → 0 ≤ e ∧ e < 4 → se (p * 4 + e) = sdI W h p e) (hly : ∀ j : Int, 0 ≤ j ∧ j < k → 0 ≤ ly j ∧ ly j < 100) : gUpd E l yX3_lookAround wsX3_lookAround { frames := 2, cells := 0, slots := 0, locals := 45 } [.ref a_R, .int (iI k)] [(a_R, .inr (3, [.ref a_P, .ref a_L, .ref a_sh, .ref a_fi, .ref a_wa, .ref a_us, .ref a_ly, .ref a_jl, .int (iI jo), .int (iI fo), .int (iI sp), .int (iI fd), .int (iI tc)])), (a_P, .inr (1, [.ref a_hs, .ref a_se, .int (iI W), .int (iI h)])), (a_se, aI E 100 se), (a_fi, aI E 400 fi), (a_wa, aI E 100 wa), (a_ly, aI E 25 ly)] none [(a_R, .inr (3, [.ref a_P, .ref a_L, .ref a_sh, .ref a_fi, .ref a_wa, .ref a_us, .ref a_ly, .ref a_jl, .int (iI jo), .int (iI fo), .int (iI sp), .int (iI fd), .int (iI tc)])), (a_P, .inr (1, [.ref a_hs, .ref a_se, .int (iI W), .int (iI h)])), (a_se, aI E 100 se), (a_fi, aI E 400 fi), (a_wa, aI E 100 (laI wa k (waV W h fi ly k) 4)), (a_ly, aI E 25 ly)] := by
  refine g_start (cc := cX3_lookAround) (maxL := 6) (ret := none) (by decide) rfl (Nat.le_of_ble_eq_true rfl) ?_
  intro p_ e_ s_ m_ args_ below_ meth_ c_ A_ C hr hnm
  have hn := nsd_b hB
  refine g_iload_n 1 C 1 dX3_lookAround_0 rfl rfl ?_
  refine g_iconst 2 C dX3_lookAround_1 rfl ?_
  refine g_imul 3 C dX3_lookAround_2 rfl ?_
  refine g_istore_n (lv' := [(2, _), (0, _), (1, _)]) 4 C dX3_lookAround_3 rfl rfl (by decide) rfl ?_
  refine g_iload_n 5 C 0 dX3_lookAround_4 rfl rfl ?_
  refine g_if_lt 19 8 C dX3_lookAround_5 (by decide) rfl (by omega) (fun h5 => absurd h5 (by omega)) ?_
  intro h5
  refine g_iload_n 9 C 0 dX3_lookAround_8 rfl rfl ?_
  refine g_aload_n 10 C 1 dX3_lookAround_9 rfl rfl ?_
  refine g_get 13 C 0 4 3 iX3_lookAround_X3 lX3_lookAround_18 dX3_lookAround_10 rfl rfl rfl (by decide) rfl ?_
  refine g_alenI 14 C 4 dX3_lookAround_13 rfl rfl ?_
  refine g_iconst 15 C dX3_lookAround_14 rfl ?_
  refine g_isub 16 C dX3_lookAround_15 rfl ?_
  refine g_icmp_le 20 19 C dX3_lookAround_16 (by decide) rfl (by omega) ?_ (fun h16 => absurd h16 (by omega))
  intro h16
  refine g_iconst 21 C dX3_lookAround_20 rfl ?_
  refine g_istore_n (lv' := [(3, _), (2, _), (0, _), (1, _)]) 22 C dX3_lookAround_21 rfl rfl (by decide) rfl ?_
  refine g_loop (α := Int) (fun zz => [(a_R, .inr (3, [.ref a_P, .ref a_L, .ref a_sh, .ref a_fi, .ref a_wa, .ref a_us, .ref a_ly, .ref a_jl, .int (iI jo), .int (iI fo), .int (iI sp), .int (iI fd), .int (iI tc)])), (a_P, .inr (1, [.ref a_hs, .ref a_se, .int (iI W), .int (iI h)])), (a_se, aI E 100 se), (a_fi, aI E 400 fi), (a_wa, aI E 100 (laI wa k (waV W h fi ly k) zz)), (a_ly, aI E 25 ly)]) (fun zz => [(3, .int (iI zz)), (2, .int (iI (k * 4))), (1, .int (iI k)), (0, .ref a_R)]) (fun zz => 0 ≤ zz ∧ zz ≤ 4) (fun zz => (4 - zz).toNat) (0) (by (try dsimp only); omega) [0, 1, 3, 2] (by rw [laI_0]) rfl ?_
  rintro i hI ih22
  try dsimp only at hI ih22 ⊢
  obtain ⟨hi0, hi4⟩ := hI
  refine g_iload_n 23 C 0 dX3_lookAround_22 rfl rfl ?_
  refine g_iconst 24 C dX3_lookAround_23 rfl ?_
  refine g_icmp_ge 108 27 C dX3_lookAround_24 (by decide) rfl (by omega) ?_ ?_
  · intro h24
    exact g_vret C hr dX3_lookAround_108 ⟨rfl, by rw [show i = 4 by omega]⟩
  · intro h24
    refine g_aload_n 28 C 3 dX3_lookAround_27 rfl rfl ?_
    refine g_get 31 C 0 0 3 iX3_lookAround_X3 lX3_lookAround_31 dX3_lookAround_28 rfl rfl rfl (by decide) rfl ?_
    refine g_iload_n 32 C 2 dX3_lookAround_31 rfl rfl ?_
    refine g_iload_n 33 C 0 dX3_lookAround_32 rfl rfl ?_
    refine g_callVF 36 C [1] dX3_lookAround_33 rfl (k_X1_nextTo E l  (by first | assumption | omega)) (cwV 2 C.2.2.2.2.1 gX3_lookAround_X1_nextTo rfl rfl rfl cdX1_nextTo ⟨Nat.le_of_ble_eq_true rfl, Nat.le_of_ble_eq_true rfl⟩) rfl rfl rfl rfl (Nat.le_of_ble_eq_true rfl) 1 1 rfl rfl rfl ⟨Nat.le_of_ble_eq_true rfl, Nat.le_of_ble_eq_true rfl⟩ ?_
    have e0 := nxI_b (p := k) (e := i) (And.intro hB.1 hB.2.1)
    refine g_istore (lv' := [(4, _), (3, _), (2, _), (1, _), (0, _)]) 38 C dX3_lookAround_36 rfl (by decide) rfl ?_
    refine g_bipush 40 C dX3_lookAround_38 rfl (by decide) ?_
    refine g_istore (lv' := [(5, _), (4, _), (3, _), (2, _), (1, _), (0, _)]) 42 C dX3_lookAround_40 rfl (by decide) rfl ?_
    refine g_aload_n 43 C 5 dX3_lookAround_42 rfl rfl ?_
    refine g_get 46 C 0 0 3 iX3_lookAround_X3 lX3_lookAround_31 dX3_lookAround_43 rfl rfl rfl (by decide) rfl ?_
    refine g_iload_n 47 C 4 dX3_lookAround_46 rfl rfl ?_
    refine g_iload_n 48 C 2 dX3_lookAround_47 rfl rfl ?_
    refine g_callVF 51 C [1, 2] dX3_lookAround_48 rfl (k_X1_isFlat E l  (by first | assumption | omega) (by first | assumption | omega) (by first | assumption | omega) (by first | assumption | omega)) (cwV 2 C.2.2.2.2.1 gX3_lookAround_X1_isFlat rfl rfl rfl cdX1_isFlat ⟨Nat.le_of_ble_eq_true rfl, Nat.le_of_ble_eq_true rfl⟩) rfl rfl rfl rfl (Nat.le_of_ble_eq_true rfl) 1 1 rfl rfl rfl ⟨Nat.le_of_ble_eq_true rfl, Nat.le_of_ble_eq_true rfl⟩ ?_
    refine g_ifb_eq 60 54 C dX3_lookAround_51 (by decide) rfl ?_ ?_
    · intro h51
      refine g_iload 62 C 1 dX3_lookAround_60 rfl rfl ?_
      refine g_iload_n 63 C 4 dX3_lookAround_62 rfl rfl ?_
      refine g_icmp_ge 92 66 C dX3_lookAround_63 (by decide) rfl (by omega) ?_ ?_
      · intro h63
        refine g_aload_n 93 C 5 dX3_lookAround_92 rfl rfl ?_
        refine g_get 96 C 0 4 3 iX3_lookAround_X3 lX3_lookAround_18 dX3_lookAround_93 rfl rfl rfl (by decide) rfl ?_
        refine g_iload_n 97 C 3 dX3_lookAround_96 rfl rfl ?_
        refine g_iload_n 98 C 2 dX3_lookAround_97 rfl rfl ?_
        refine g_iadd 99 C dX3_lookAround_98 rfl ?_
        refine g_iload 101 C 0 dX3_lookAround_99 rfl rfl ?_
        refine g_iastore (ws' := [(_, .inr (3, [_, _, _, _, _, _, _, _, _, _, _, _, _])), (_, .inr (1, [_, _, _, _])), (_, aI _ _ _), (_, aI _ _ _), (_, aI _ _ _), (_, aI _ _ _)]) 102 C 4 dX3_lookAround_101 rfl rfl (by omega) rfl ?_
        refine g_iinc (lv' := [(3, _), (5, _), (4, _), (2, _), (1, _), (0, _)]) 105 C 2 dX3_lookAround_102 rfl rfl (by decide) rfl ?_
        refine g_goto 22 C dX3_lookAround_105 (by decide) ?_
        exact g_w [0, 3, 4, 5] (by (try dsimp only); rw [laI_s (g := waV W h fi ly k) hi0 (by unfold waV; first | rw [if_pos (by omega)] | rw [if_neg (by omega), if_pos (by omega)] | rw [if_neg (by omega), if_neg (by omega)])]) rfl (ih22 ((i + 1)) (by (try dsimp only); omega) (by (try dsimp only); omega))
      · intro h63
        have e2 := nx_nf hB hk (And.intro hi0 (by omega)) (by omega) (by omega)
        have e1 := hly (nxI W k i) (by omega)
        refine g_aload_n 67 C 5 dX3_lookAround_66 rfl rfl ?_
        refine g_get 70 C 0 3 3 iX3_lookAround_X3 lX3_lookAround_15 dX3_lookAround_67 rfl rfl rfl (by decide) rfl ?_
        refine g_aload_n 71 C 5 dX3_lookAround_70 rfl rfl ?_
        refine g_get 74 C 0 6 3 iX3_lookAround_X3 lX3_lookAround_25 dX3_lookAround_71 rfl rfl rfl (by decide) rfl ?_
        refine g_iload 76 C 1 dX3_lookAround_74 rfl rfl ?_
        refine g_callSF 79 C [5] dX3_lookAround_76 rfl (k_X3_look E l  (by first | assumption | omega) (by first | assumption | omega)) (va_cwS 2 C.2.2.2.2.1 gX3_lookAround_X3_look rfl rfl rfl cdX3_look ⟨Nat.le_of_ble_eq_true rfl, Nat.le_of_ble_eq_true rfl⟩) rfl rfl rfl rfl (Nat.le_of_ble_eq_true rfl) ⟨Nat.le_of_ble_eq_true rfl, Nat.le_of_ble_eq_true rfl⟩ ?_
        refine g_iconst 80 C dX3_lookAround_79 rfl ?_
        refine g_imul 81 C dX3_lookAround_80 rfl ?_
        refine g_iload_n 82 C 2 dX3_lookAround_81 rfl rfl ?_
        refine g_iconst 83 C dX3_lookAround_82 rfl ?_
        refine g_iadd 84 C dX3_lookAround_83 rfl ?_
        refine g_iconst 85 C dX3_lookAround_84 rfl ?_
        refine g_irem 86 C dX3_lookAround_85 rfl (by omega) ?_
        refine g_iadd 87 C dX3_lookAround_86 rfl ?_
        refine g_callSF 90 C [3] dX3_lookAround_87 rfl (k_X3_look E l  (by first | assumption | omega) (by first | assumption | omega)) (va_cwS 2 C.2.2.2.2.1 gX3_lookAround_X3_look rfl rfl rfl cdX3_look ⟨Nat.le_of_ble_eq_true rfl, Nat.le_of_ble_eq_true rfl⟩) rfl rfl rfl rfl (Nat.le_of_ble_eq_true rfl) ⟨Nat.le_of_ble_eq_true rfl, Nat.le_of_ble_eq_true rfl⟩ ?_
        refine g_istore (lv' := [(5, _), (4, _), (3, _), (2, _), (1, _), (0, _)]) 92 C dX3_lookAround_90 rfl (by decide) rfl ?_
        refine g_aload_n 93 C 5 dX3_lookAround_92 rfl rfl ?_
        refine g_get 96 C 0 4 3 iX3_lookAround_X3 lX3_lookAround_18 dX3_lookAround_93 rfl rfl rfl (by decide) rfl ?_
        refine g_iload_n 97 C 3 dX3_lookAround_96 rfl rfl ?_
        refine g_iload_n 98 C 2 dX3_lookAround_97 rfl rfl ?_
        refine g_iadd 99 C dX3_lookAround_98 rfl ?_
        refine g_iload 101 C 0 dX3_lookAround_99 rfl rfl ?_
        refine g_iastore (ws' := [(_, .inr (3, [_, _, _, _, _, _, _, _, _, _, _, _, _])), (_, .inr (1, [_, _, _, _])), (_, aI _ _ _), (_, aI _ _ _), (_, aI _ _ _), (_, aI _ _ _)]) 102 C 4 dX3_lookAround_101 rfl rfl (by omega) rfl ?_
        refine g_iinc (lv' := [(3, _), (5, _), (4, _), (2, _), (1, _), (0, _)]) 105 C 2 dX3_lookAround_102 rfl rfl (by decide) rfl ?_
        refine g_goto 22 C dX3_lookAround_105 (by decide) ?_
        exact g_w [0, 3, 4, 5] (by (try dsimp only); rw [laI_s (g := waV W h fi ly k) hi0 (by unfold waV; first | rw [if_pos (by omega)] | rw [if_neg (by omega), if_pos (by omega)] | rw [if_neg (by omega), if_neg (by omega)])]) rfl (ih22 ((i + 1)) (by (try dsimp only); omega) (by (try dsimp only); omega))
    · intro h51
      refine g_iconst 55 C dX3_lookAround_54 rfl ?_
      refine g_istore (lv' := [(5, _), (4, _), (3, _), (2, _), (1, _), (0, _)]) 57 C dX3_lookAround_55 rfl (by decide) rfl ?_
      refine g_goto 92 C dX3_lookAround_57 (by decide) ?_
      refine g_aload_n 93 C 5 dX3_lookAround_92 rfl rfl ?_
      refine g_get 96 C 0 4 3 iX3_lookAround_X3 lX3_lookAround_18 dX3_lookAround_93 rfl rfl rfl (by decide) rfl ?_
      refine g_iload_n 97 C 3 dX3_lookAround_96 rfl rfl ?_
      refine g_iload_n 98 C 2 dX3_lookAround_97 rfl rfl ?_
      refine g_iadd 99 C dX3_lookAround_98 rfl ?_
      refine g_iload 101 C 0 dX3_lookAround_99 rfl rfl ?_
      refine g_iastore (ws' := [(_, .inr (3, [_, _, _, _, _, _, _, _, _, _, _, _, _])), (_, .inr (1, [_, _, _, _])), (_, aI _ _ _), (_, aI _ _ _), (_, aI _ _ _), (_, aI _ _ _)]) 102 C 4 dX3_lookAround_101 rfl rfl (by omega) rfl ?_
      refine g_iinc (lv' := [(3, _), (5, _), (4, _), (2, _), (1, _), (0, _)]) 105 C 2 dX3_lookAround_102 rfl rfl (by decide) rfl ?_
      refine g_goto 22 C dX3_lookAround_105 (by decide) ?_
      exact g_w [0, 3, 4, 5] (by (try dsimp only); rw [laI_s (g := waV W h fi ly k) hi0 (by unfold waV; first | rw [if_pos (by omega)] | rw [if_neg (by omega), if_pos (by omega)] | rw [if_neg (by omega), if_neg (by omega)])]) rfl (ih22 ((i + 1)) (by (try dsimp only); omega) (by (try dsimp only); omega))
theorem lX3_fits_18 : Cond.fieldLink RX3 18 (TX3 4).1 (TX3 4).2.1 (TX3 4).2.2.1 ∈ wsX3_fits := by decide +kernel
theorem lX3_fits_9 : Cond.fieldLink RX3 9 (TX3 2).1 (TX3 2).2.1 (TX3 2).2.2.1 ∈ wsX3_fits := by decide +kernel
theorem iX3_fits_X3 : ∀ w ∈ u_ws RX3 TX3 13, w ∈ wsX3_fits := by decide +kernel
set_option maxHeartbeats 4000000 in
set_option maxRecDepth 100000 in
theorem k_X3_fits (E : gE) (l : Launch) {a_L a_P a_R a_fi a_jl a_ly a_sh a_us a_wa : Nat} {k v : Int} {sh wa : Int → Int} {jo fo sp fd tc : Int} (hk : 0 ≤ k ∧ k < 25) (hv : 0 ≤ v ∧ v < 100) (hwr : ∀ d : Int, 0 ≤ d ∧ d < 4 → -2147483648 ≤ wa (k * 4 + d) ∧ wa (k * 4 + d) < 2147483648) (hsr : ∀ d : Int, 0 ≤ d ∧ d < 4 → -2147483648 ≤ sh (v * 4 + d) ∧ sh (v * 4 + d) < 2147483648) : gFun E l yX3_fits wsX3_fits { frames := 0, cells := 0, slots := 0, locals := 0 } [.ref a_R, .int (iI k), .int (iI v)] [(a_R, .inr (3, [.ref a_P, .ref a_L, .ref a_sh, .ref a_fi, .ref a_wa, .ref a_us, .ref a_ly, .ref a_jl, .int (iI jo), .int (iI fo), .int (iI sp), .int (iI fd), .int (iI tc)])), (a_sh, aI E 400 sh), (a_wa, aI E 100 wa)] (.int (iI (cI (∀ d : Int, 0 ≤ d → d < 4 → okD wa sh v k d) 1 0))) := by
  refine g_start (cc := cX3_fits) (maxL := 8) (ret := (some .boolean)) (by decide) rfl (Nat.le_of_ble_eq_true rfl) ?_
  intro p_ e_ s_ m_ args_ below_ meth_ c_ A_ C hr hnm
  refine g_iload_n 1 C 1 dX3_fits_0 rfl rfl ?_
  refine g_iconst 2 C dX3_fits_1 rfl ?_
  refine g_imul 3 C dX3_fits_2 rfl ?_
  refine g_istore_n (lv' := [(3, _), (0, _), (1, _), (2, _)]) 4 C dX3_fits_3 rfl rfl (by decide) rfl ?_
  refine g_iload_n 5 C 3 dX3_fits_4 rfl rfl ?_
  refine g_iconst 6 C dX3_fits_5 rfl ?_
  refine g_imul 7 C dX3_fits_6 rfl ?_
  refine g_istore (lv' := [(4, _), (3, _), (0, _), (1, _), (2, _)]) 9 C dX3_fits_7 rfl (by decide) rfl ?_
  refine g_iload_n 10 C 1 dX3_fits_9 rfl rfl ?_
  refine g_if_lt 41 13 C dX3_fits_10 (by decide) rfl (by omega) (fun h10 => absurd h10 (by omega)) ?_
  intro h10
  refine g_iload_n 14 C 1 dX3_fits_13 rfl rfl ?_
  refine g_aload_n 15 C 2 dX3_fits_14 rfl rfl ?_
  refine g_get 18 C 0 4 3 iX3_fits_X3 lX3_fits_18 dX3_fits_15 rfl rfl rfl (by decide) rfl ?_
  refine g_alenI 19 C 2 dX3_fits_18 rfl rfl ?_
  refine g_iconst 20 C dX3_fits_19 rfl ?_
  refine g_isub 21 C dX3_fits_20 rfl ?_
  refine g_icmp_gt 41 24 C dX3_fits_21 (by decide) rfl (by omega) (fun h21 => absurd h21 (by omega)) ?_
  intro h21
  refine g_iload 26 C 0 dX3_fits_24 rfl rfl ?_
  refine g_if_lt 41 29 C dX3_fits_26 (by decide) rfl (by omega) (fun h26 => absurd h26 (by omega)) ?_
  intro h26
  refine g_iload 31 C 0 dX3_fits_29 rfl rfl ?_
  refine g_aload_n 32 C 2 dX3_fits_31 rfl rfl ?_
  refine g_get 35 C 0 2 3 iX3_fits_X3 lX3_fits_9 dX3_fits_32 rfl rfl rfl (by decide) rfl ?_
  refine g_alenI 36 C 1 dX3_fits_35 rfl rfl ?_
  refine g_iconst 37 C dX3_fits_36 rfl ?_
  refine g_isub 38 C dX3_fits_37 rfl ?_
  refine g_icmp_le 43 41 C dX3_fits_38 (by decide) rfl (by omega) ?_ (fun h38 => absurd h38 (by omega))
  intro h38
  refine g_iconst 44 C dX3_fits_43 rfl ?_
  refine g_istore (lv' := [(5, _), (4, _), (3, _), (0, _), (1, _), (2, _)]) 46 C dX3_fits_44 rfl (by decide) rfl ?_
  refine g_loop (α := Int) (fun zz => [(a_R, .inr (3, [.ref a_P, .ref a_L, .ref a_sh, .ref a_fi, .ref a_wa, .ref a_us, .ref a_ly, .ref a_jl, .int (iI jo), .int (iI fo), .int (iI sp), .int (iI fd), .int (iI tc)])), (a_sh, aI E 400 sh), (a_wa, aI E 100 wa)]) (fun zz => [(5, .int (iI zz)), (4, .int (iI (v * 4))), (3, .int (iI (k * 4))), (2, .int (iI v)), (1, .int (iI k)), (0, .ref a_R)]) (fun zz => (0 ≤ zz ∧ zz ≤ 4) ∧ ∀ d : Int, 0 ≤ d → d < zz → okD wa sh v k d) (fun zz => (4 - zz).toNat) (0) (by
            try dsimp only
            exact ⟨by omega, fun d h1 h2 => absurd h1 (by omega)⟩) [0, 1, 2, 5, 4, 3] rfl rfl ?_
  rintro i hI ih46
  try dsimp only at hI ih46 ⊢
  obtain ⟨hi, hA⟩ := hI
  refine g_iload 48 C 0 dX3_fits_46 rfl rfl ?_
  refine g_iconst 49 C dX3_fits_48 rfl ?_
  refine g_icmp_ge 106 52 C dX3_fits_49 (by decide) rfl (by omega) ?_ ?_
  · intro h49
    refine g_iconst 107 C dX3_fits_106 rfl ?_
    exact g_zret C hr dX3_fits_107 (by first | rfl | decide | (split <;> rfl)) ⟨g_ri ((cI_t (fun d h1 h2 => hA d h1 (by omega))).symm), rfl⟩
  · intro h49
    refine g_aload_n 53 C 5 dX3_fits_52 rfl rfl ?_
    refine g_get 56 C 0 4 3 iX3_fits_X3 lX3_fits_18 dX3_fits_53 rfl rfl rfl (by decide) rfl ?_
    refine g_iload_n 57 C 2 dX3_fits_56 rfl rfl ?_
    refine g_iload 59 C 0 dX3_fits_57 rfl rfl ?_
    refine g_iadd 60 C dX3_fits_59 rfl ?_
    refine g_iaload 61 C 2 dX3_fits_60 rfl rfl (by omega) ?_
    refine g_istore (lv' := [(6, _), (5, _), (4, _), (3, _), (2, _), (1, _), (0, _)]) 63 C dX3_fits_61 rfl (by decide) rfl ?_
    refine g_aload_n 64 C 6 dX3_fits_63 rfl rfl ?_
    refine g_get 67 C 0 2 3 iX3_fits_X3 lX3_fits_9 dX3_fits_64 rfl rfl rfl (by decide) rfl ?_
    refine g_iload 69 C 2 dX3_fits_67 rfl rfl ?_
    refine g_iload 71 C 1 dX3_fits_69 rfl rfl ?_
    refine g_iadd 72 C dX3_fits_71 rfl ?_
    refine g_iaload 73 C 1 dX3_fits_72 rfl rfl (by omega) ?_
    refine g_istore (lv' := [(7, _), (6, _), (5, _), (4, _), (3, _), (2, _), (1, _), (0, _)]) 75 C dX3_fits_73 rfl (by decide) rfl ?_
    have e0 := hwr i (by omega)
    have e1 := hsr i (by omega)
    refine g_iload 77 C 1 dX3_fits_75 rfl rfl ?_
    refine g_bipush 79 C dX3_fits_77 rfl (by decide) ?_
    refine g_icmp_ne 91 82 C dX3_fits_79 (by decide) rfl (by omega) ?_ ?_
    · intro h79
      refine g_iload 93 C 0 dX3_fits_91 rfl rfl ?_
      refine g_iload 95 C 1 dX3_fits_93 rfl rfl ?_
      refine g_icmp_eq 100 98 C dX3_fits_95 (by decide) rfl (by omega) ?_ ?_
      · intro h95
        refine g_iinc (lv' := [(5, _), (7, _), (6, _), (4, _), (3, _), (2, _), (1, _), (0, _)]) 103 C 2 dX3_fits_100 rfl rfl (by decide) rfl ?_
        refine g_goto 46 C dX3_fits_103 (by decide) ?_
        exact g_w [0, 3, 4, 5, 6, 7] rfl rfl (ih46 ((i + 1)) (by
            try dsimp only
            exact ⟨by omega, fun d h1 h2 => by
              by_cases z : d = i
              · rw [z]; unfold okD; omega
              · exact hA d h1 (by omega)⟩) (by (try dsimp only); omega))
      · intro h95
        refine g_iconst 99 C dX3_fits_98 rfl ?_
        exact g_zret C hr dX3_fits_99 (by first | rfl | decide | (split <;> rfl)) ⟨g_ri ((cI_f (fun q => by have z := q i (by omega) (by omega); unfold okD at z; omega)).symm), rfl⟩
    · intro h79
      refine g_iload 84 C 0 dX3_fits_82 rfl rfl ?_
      refine g_iconst 85 C dX3_fits_84 rfl ?_
      refine g_icmp_ne 100 88 C dX3_fits_85 (by decide) rfl (by omega) ?_ ?_
      · intro h85
        refine g_iinc (lv' := [(5, _), (7, _), (6, _), (4, _), (3, _), (2, _), (1, _), (0, _)]) 103 C 2 dX3_fits_100 rfl rfl (by decide) rfl ?_
        refine g_goto 46 C dX3_fits_103 (by decide) ?_
        exact g_w [0, 3, 4, 5, 6, 7] rfl rfl (ih46 ((i + 1)) (by
            try dsimp only
            exact ⟨by omega, fun d h1 h2 => by
              by_cases z : d = i
              · rw [z]; unfold okD; omega
              · exact hA d h1 (by omega)⟩) (by (try dsimp only); omega))
      · intro h85
        refine g_goto 98 C dX3_fits_88 (by decide) ?_
        refine g_iconst 99 C dX3_fits_98 rfl ?_
        exact g_zret C hr dX3_fits_99 (by first | rfl | decide | (split <;> rfl)) ⟨g_ri ((cI_f (fun q => by have z := q i (by omega) (by omega); unfold okD at z; omega)).symm), rfl⟩
end
section
/-! a level of the search: what holds at its candidates, and how it ends -/
def flI (F : (Int → Int) → Int → Prop) (n N fo k : Int) (us ly wa wv : Int → Int) (e0 : gS) (c : Int) (us1 ly1 wa1 : Int → Int) (fd tc : Int) : Prop :=
  ((0 ≤ fd ∧ fd ≤ tc ∧ tc ≤ 60000) ∧ (fo = 1 → fd = 0)) ∧ (∀ j, 0 ≤ j ∧ j < n → us1 j = us j) ∧ (∀ j, 0 ≤ j ∧ j < k → ly1 j = ly j) ∧ (∀ d, 0 ≤ d ∧ d < 4 → wa1 (k * 4 + d) = wv d) ∧ (∀ j, j < k * 4 → wa1 j = wa j) ∧ ∃ q u : Int → Int, (∀ j, 0 ≤ j ∧ j < k → q j = ly j) ∧ q k = c ∧ (∀ j, 0 ≤ j ∧ j < n → u j = us j) ∧ rcS F n N fo e0 (k, q, u, tc, fd)
def fillR (F : (Int → Int) → Int → Prop) (n N fo k : Int) (us ly wa : Int → Int) (e0 : gS) (us2 ly2 wa2 : Int → Int) (sp2 fd2 tc2 : Int) : Prop :=
  (0 ≤ fd2 ∧ fd2 ≤ tc2 ∧ tc2 ≤ 60000) ∧
  ((sp2 = 1 ∧ ∃ (m : Nat) (q u : Int → Int), itS F n N fo m e0 = (-2, q, u, tc2, fd2))
  ∨ (sp2 = 0 ∧ fo = 1 ∧ fd2 = 1 ∧ (∃ (m : Nat) (q u : Int → Int), itS F n N fo m e0 = (-3, q, u, tc2, fd2) ∧ ∀ j, 0 ≤ j ∧ j < N → q j = ly2 j) ∧ ∀ j, 0 ≤ j ∧ j < N → 0 ≤ ly2 j ∧ ly2 j < 100)
  ∨ (sp2 = 0 ∧ (fo = 1 → fd2 = 0) ∧ (∀ j, 0 ≤ j ∧ j < n → us2 j = us j) ∧ (∀ j, 0 ≤ j ∧ j < k → ly2 j = ly j) ∧ (∀ j, j < k * 4 → wa2 j = wa j) ∧ ∃ (m : Nat) (q u : Int → Int), itS F n N fo m e0 = (k - 1, q, u, tc2, fd2) ∧ (∀ j, 0 ≤ j ∧ j < k → q j = ly j) ∧ (0 < k → ∀ j, 0 ≤ j ∧ j < n → u j = uI us (ly (k - 1) / 4) 0 j)))
theorem uI_2 (f : Int → Int) (z v w : Int) : uI (uI f z v) z w = uI f z w := by
  funext j
  unfold uI
  by_cases e : j = z
  · rw [if_pos e, if_pos e]
  · rw [if_neg e, if_neg e, if_neg e]
theorem skp_ex {u : Int → Int} {n : Int} (hn : n ≤ 25) : ∀ (m : Nat) (a : Int), 0 ≤ a → a ≤ 26 → 26 - a ≤ m → ∃ b, a ≤ b ∧ b ≤ 26 ∧ (∀ j, a ≤ j → j < b → j < n ∧ u j ≠ 0) ∧ (n ≤ b ∨ u b = 0)
  | 0, a, h0, h1, h2 => ⟨a, Int.le_refl _, h1, fun j h3 h4 => by omega, Or.inl (by omega)⟩
  | m + 1, a, h0, h1, h2 => by
    by_cases c : a < n ∧ u a ≠ 0
    · obtain ⟨b, b1, b2, b3, b4⟩ := skp_ex (u := u) hn m (a + 1) (by omega) (by omega) (by omega)
      refine ⟨b, by omega, b2, fun j h3 h4 => ?_, b4⟩
      by_cases z : j = a
      · rw [z]; exact c
      · exact b3 j (by omega) h4
    · refine ⟨a, Int.le_refl _, h1, fun j h3 h4 => by omega, ?_⟩
      by_cases z : a < n
      · exact Or.inr (Classical.byContradiction fun y => c ⟨z, y⟩)
      · exact Or.inl (by omega)
section FL
variable {F : (Int → Int) → Int → Prop} {n N fo k : Int} {us ly wa wv us1 ly1 wa1 : Int → Int} {e0 : gS} {i t fd tc : Int}
theorem stA_q (q u : Int → Int) (a v c : Int) : stA F n N fo k (uI q k c) u tc fd a v = stA F n N fo k q u tc fd a v := by
  unfold stA
  rw [uI_2]
theorem fl_skip (hk : 0 ≤ k) (hn : n ≤ 25) (hi : 0 ≤ i ∧ i < n) (hu : us1 i ≠ 0) (h : flI F n N fo k us ly wa wv e0 (i * 4 - 1) us1 ly1 wa1 fd tc) : flI F n N fo k us ly wa wv e0 ((i + 1) * 4 - 1) us1 ly1 wa1 fd tc := by
  obtain ⟨h1, h2, h3, h4, h5, q, u, hq, hqk, hu2, hr⟩ := h
  refine ⟨h1, h2, h3, h4, h5, uI q k ((i + 1) * 4 - 1), u, fun j hj => by rw [uI_ne (by omega)]; exact hq j hj, uI_eq _ _ _, hu2, rc_eq hr ?_⟩
  obtain ⟨b, b1, b2, b3, b4⟩ := skp_ex (u := u) hn 30 (i + 1) (by omega) (by omega) (by omega)
  have ui : u i ≠ 0 := by rw [hu2 i hi, ← h2 i hi]; exact hu
  have s1 : skp u n ((q k + 1) / 4) = b := by
    rw [hqk, show (i * 4 - 1 + 1) / 4 = i by omega]
    refine skp_u hi.1 hn (by omega) b2 (fun j h6 h7 => ?_) b4
    by_cases z : j = i
    · rw [z]; exact ⟨hi.2, ui⟩
    · exact b3 j (by omega) h7
  have s2 : skp u n ((uI q k ((i + 1) * 4 - 1) k + 1) / 4) = b := by
    rw [uI_eq, show ((i + 1) * 4 - 1 + 1) / 4 = i + 1 by omega]
    exact skp_u (by omega) hn b1 b2 b3 b4
  rw [st_go hk s1, st_go hk s2, stA_q, uI_eq, hqk, show (i * 4 - 1 + 1) % 4 = 0 by omega, show ((i + 1) * 4 - 1 + 1) % 4 = 0 by omega]
theorem fl_exit (hk : 0 ≤ k) (hn : 0 ≤ n ∧ n ≤ 25) (h : flI F n N fo k us ly wa wv e0 (n * 4 - 1) us1 ly1 wa1 fd tc) : fillR F n N fo k us ly wa e0 us1 ly1 wa1 0 fd tc := by
  obtain ⟨h1, h2, h3, h4, h5, q, u, hq, hqk, hu2, hr⟩ := h
  have s1 : skp u n ((q k + 1) / 4) = n := by
    rw [hqk, show (n * 4 - 1 + 1) / 4 = n by omega]
    exact skp_u hn.1 hn.2 (Int.le_refl _) (by omega) (fun j h6 h7 => by omega) (Or.inl (Int.le_refl _))
  refine ⟨h1.1, Or.inr (Or.inr ⟨rfl, h1.2, h2, h3, h5, ?_⟩)⟩
  by_cases z : k = 0
  · obtain ⟨m, e⟩ := rc_st hr (st_back0 z s1 (Int.le_refl _))
    exact ⟨m, _, _, by rw [e, z]; rfl, fun j hj => by omega, fun y => by omega⟩
  · obtain ⟨m, e⟩ := rc_st hr (st_back (by omega) s1 (Int.le_refl _))
    refine ⟨m, _, _, e, fun j hj => by rw [uI_ne (by omega)]; exact hq j hj, fun _ j hj => ?_⟩
    rw [hq (k - 1) (by omega)]
    unfold uI
    split
    · rfl
    · exact hu2 j hj
theorem fl_at (hn : n ≤ 25) (hi : 0 ≤ i ∧ i < n) (ht : 0 ≤ t ∧ t < 4) {u : Int → Int} {c : Int} (hc : c = i * 4 + t - 1) (hu : u i = 0) : skp u n ((c + 1) / 4) = i ∧ i * 4 + (c + 1) % 4 = i * 4 + t := by
  subst hc
  refine ⟨?_, by omega⟩
  rw [show (i * 4 + t - 1 + 1) / 4 = i by omega]
  exact skp_u hi.1 hn (Int.le_refl _) (by omega) (fun j h6 h7 => by omega) (Or.inr hu)
theorem fl_spent (hk : 0 ≤ k) (hn : n ≤ 25) (hi : 0 ≤ i ∧ i < n) (ht : 0 ≤ t ∧ t < 4) (hu : us1 i = 0) (htc : 60000 ≤ tc) (h : flI F n N fo k us ly wa wv e0 (i * 4 + t - 1) us1 ly1 wa1 fd tc) {us3 ly3 wa3 : Int → Int} : fillR F n N fo k us ly wa e0 us3 ly3 wa3 1 fd tc := by
  obtain ⟨h1, h2, h3, h4, h5, q, u, hq, hqk, hu2, hr⟩ := h
  obtain ⟨s1, s2⟩ := fl_at hn hi ht hqk ((hu2 i hi).trans ((h2 i hi).symm.trans hu))
  obtain ⟨m, e⟩ := rc_st hr (st_spent hk s1 hi.2 (by omega))
  exact ⟨h1.1, Or.inl ⟨rfl, m, _, _, e⟩⟩
theorem fl_not (hk : 0 ≤ k) (hn : n ≤ 25) (hi : 0 ≤ i ∧ i < n) (ht : 0 ≤ t ∧ t < 4) (hu : us1 i = 0) (htc : tc < 60000) (hF : ∀ q : Int → Int, (∀ j, 0 ≤ j ∧ j < k → q j = ly j) → q k = i * 4 + t → ¬ F q k) (h : flI F n N fo k us ly wa wv e0 (i * 4 + t - 1) us1 ly1 wa1 fd tc) : flI F n N fo k us ly wa wv e0 (i * 4 + (t + 1) - 1) us1 ly1 wa1 fd (tc + 1) := by
  obtain ⟨h1, h2, h3, h4, h5, q, u, hq, hqk, hu2, hr⟩ := h
  obtain ⟨s1, s2⟩ := fl_at hn hi ht hqk ((hu2 i hi).trans ((h2 i hi).symm.trans hu))
  have hq1 : ∀ j, 0 ≤ j ∧ j < k → uI q k (i * 4 + (q k + 1) % 4) j = ly j := fun j hj => by rw [uI_ne (by omega)]; exact hq j hj
  have hq2 : uI q k (i * 4 + (q k + 1) % 4) k = i * 4 + t := by rw [uI_eq]; exact s2
  have e := st_not (tc := tc) (fd := fd) (N := N) (fo := fo) hk s1 hi.2 (by omega) (hF _ hq1 hq2)
  exact ⟨⟨by omega, h1.2⟩, h2, h3, h4, h5, _, _, hq1, by rw [hq2]; omega, hu2, rc_it (rc_st hr e)⟩
theorem fl_last1 (hk : 0 ≤ k) (hn : n ≤ 25) (hi : 0 ≤ i ∧ i < n) (ht : 0 ≤ t ∧ t < 4) (hu : us1 i = 0) (htc : tc < 60000) (hN : k + 1 = N) (hfo : fo = 1) (hlb : ∀ j, 0 ≤ j ∧ j < k → 0 ≤ ly j ∧ ly j < 100) (hF : ∀ q : Int → Int, (∀ j, 0 ≤ j ∧ j < k → q j = ly j) → q k = i * 4 + t → F q k) (h : flI F n N fo k us ly wa wv e0 (i * 4 + t - 1) us1 ly1 wa1 fd tc) {us3 wa3 : Int → Int} : fillR F n N fo k us ly wa e0 us3 (uI ly1 k (i * 4 + t)) wa3 0 (fd + 1) (tc + 1) := by
  obtain ⟨h1, h2, h3, h4, h5, q, u, hq, hqk, hu2, hr⟩ := h
  obtain ⟨s1, s2⟩ := fl_at hn hi ht hqk ((hu2 i hi).trans ((h2 i hi).symm.trans hu))
  have hq1 : ∀ j, 0 ≤ j ∧ j < k → uI q k (i * 4 + (q k + 1) % 4) j = ly j := fun j hj => by rw [uI_ne (by omega)]; exact hq j hj
  have hq2 : uI q k (i * 4 + (q k + 1) % 4) k = i * 4 + t := by rw [uI_eq]; exact s2
  have hf0 := h1.2 hfo
  obtain ⟨m, e⟩ := rc_st hr (st_last1 hk s1 hi.2 (by omega) (hF _ hq1 hq2) (by omega) ⟨hfo, by omega⟩)
  have hly : ∀ j, 0 ≤ j ∧ j < N → uI q k (i * 4 + (q k + 1) % 4) j = uI ly1 k (i * 4 + t) j := fun j hj => by
    by_cases z : j = k
    · rw [z, uI_eq, uI_eq]; exact s2
    · rw [uI_ne z, uI_ne z, hq j (by omega), h3 j (by omega)]
  refine ⟨by omega, Or.inr (Or.inl ⟨rfl, hfo, by omega, ⟨m, _, _, e, hly⟩, fun j hj => ?_⟩)⟩
  by_cases z : j = k
  · rw [z, uI_eq]; omega
  · rw [uI_ne z, h3 j (by omega)]; exact hlb j (by omega)
theorem fl_last (hk : 0 ≤ k) (hn : n ≤ 25) (hi : 0 ≤ i ∧ i < n) (ht : 0 ≤ t ∧ t < 4) (hu : us1 i = 0) (htc : tc < 60000) (hN : k + 1 = N) (hfo : fo ≠ 1) (hF : ∀ q : Int → Int, (∀ j, 0 ≤ j ∧ j < k → q j = ly j) → q k = i * 4 + t → F q k) (h : flI F n N fo k us ly wa wv e0 (i * 4 + t - 1) us1 ly1 wa1 fd tc) : flI F n N fo k us ly wa wv e0 (i * 4 + (t + 1) - 1) (uI (uI us1 i 1) i 0) (uI ly1 k (i * 4 + t)) wa1 (fd + 1) (tc + 1) := by
  obtain ⟨h1, h2, h3, h4, h5, q, u, hq, hqk, hu2, hr⟩ := h
  obtain ⟨s1, s2⟩ := fl_at hn hi ht hqk ((hu2 i hi).trans ((h2 i hi).symm.trans hu))
  have hq1 : ∀ j, 0 ≤ j ∧ j < k → uI q k (i * 4 + (q k + 1) % 4) j = ly j := fun j hj => by rw [uI_ne (by omega)]; exact hq j hj
  have hq2 : uI q k (i * 4 + (q k + 1) % 4) k = i * 4 + t := by rw [uI_eq]; exact s2
  have e := st_last (tc := tc) (fd := fd) (N := N) (fo := fo) hk s1 hi.2 (by omega) (hF _ hq1 hq2) (by omega) (by omega)
  refine ⟨⟨by omega, fun z => absurd z hfo⟩, fun j hj => ?_, fun j hj => by rw [uI_ne (by omega)]; exact h3 j hj, h4, h5, _, _, hq1, by rw [hq2]; omega, hu2, rc_it (rc_st hr e)⟩
  rw [uI_2]
  by_cases z : j = i
  · rw [z, uI_eq, ← h2 i hi, hu]
  · rw [uI_ne z]; exact h2 j hj
/-- one level further down -/
theorem fl_down (hk : 0 ≤ k) (hn : n ≤ 25) (hi : 0 ≤ i ∧ i < n) (ht : 0 ≤ t ∧ t < 4) (hu : us1 i = 0) (htc : tc < 60000) (hN : k + 1 ≠ N) (hF : ∀ q : Int → Int, (∀ j, 0 ≤ j ∧ j < k → q j = ly j) → q k = i * 4 + t → F q k) (h : flI F n N fo k us ly wa wv e0 (i * 4 + t - 1) us1 ly1 wa1 fd tc) :
    ∃ q1 u1 : Int → Int, (∀ j, 0 ≤ j ∧ j < k + 1 → q1 j = uI ly1 k (i * 4 + t) j) ∧ q1 (k + 1) = -1 ∧ (∀ j, 0 ≤ j ∧ j < n → u1 j = uI us1 i 1 j) ∧ ∃ m : Nat, itS F n N fo m e0 = (k + 1, q1, u1, tc + 1, fd) := by
  obtain ⟨h1, h2, h3, h4, h5, q, u, hq, hqk, hu2, hr⟩ := h
  obtain ⟨s1, s2⟩ := fl_at hn hi ht hqk ((hu2 i hi).trans ((h2 i hi).symm.trans hu))
  have hq1 : ∀ j, 0 ≤ j ∧ j < k → uI q k (i * 4 + (q k + 1) % 4) j = ly j := fun j hj => by rw [uI_ne (by omega)]; exact hq j hj
  have hq2 : uI q k (i * 4 + (q k + 1) % 4) k = i * 4 + t := by rw [uI_eq]; exact s2
  have e := st_down (tc := tc) (fd := fd) (N := N) (fo := fo) hk s1 hi.2 (by omega) (hF _ hq1 hq2) (by omega)
  refine ⟨_, _, fun j hj => ?_, uI_eq _ _ _, fun j hj => ?_, rc_st hr e⟩
  · rw [uI_ne (by omega)]
    by_cases z : j = k
    · rw [z, hq2, uI_eq]
    · rw [hq1 j (by omega), uI_ne z, h3 j (by omega)]
  · by_cases z : j = i
    · rw [z, uI_eq, uI_eq]
    · rw [uI_ne z, uI_ne z, hu2 j hj, h2 j hj]
theorem fl_up1 {e1 : gS} {us2 ly2 wa2 us3 ly3 wa3 : Int → Int} {sp2 fd2 tc2 : Int} (hb : 0 ≤ fd2 ∧ fd2 ≤ tc2 ∧ tc2 ≤ 60000) (hm : ∃ m : Nat, itS F n N fo m e0 = e1) (h : ∃ (m : Nat) (q u : Int → Int), itS F n N fo m e1 = (-2, q, u, tc2, fd2)) : fillR F n N fo k us ly wa e0 us3 ly3 wa3 1 fd2 tc2 := by
  obtain ⟨m, q, u, e⟩ := h
  obtain ⟨m2, e2⟩ := it_tr hm ⟨m, e⟩
  exact ⟨hb, Or.inl ⟨rfl, m2, q, u, e2⟩⟩
theorem fl_up2 {e1 : gS} {us3 ly2 wa3 : Int → Int} {fd2 tc2 : Int} (hb : 0 ≤ fd2 ∧ fd2 ≤ tc2 ∧ tc2 ≤ 60000) (hfo : fo = 1) (hfd : fd2 = 1) (hm : ∃ m : Nat, itS F n N fo m e0 = e1) (h : ∃ (m : Nat) (q u : Int → Int), itS F n N fo m e1 = (-3, q, u, tc2, fd2) ∧ ∀ j, 0 ≤ j ∧ j < N → q j = ly2 j) (hl : ∀ j, 0 ≤ j ∧ j < N → 0 ≤ ly2 j ∧ ly2 j < 100) : fillR F n N fo k us ly wa e0 us3 ly2 wa3 0 fd2 tc2 := by
  obtain ⟨m, q, u, e, hq⟩ := h
  obtain ⟨m2, e2⟩ := it_tr hm ⟨m, e⟩
  exact ⟨hb, Or.inr (Or.inl ⟨rfl, hfo, hfd, ⟨m2, q, u, e2, hq⟩, hl⟩)⟩
theorem fl_up3 {e1 : gS} {us2 ly2 wa2 : Int → Int} {fd2 tc2 : Int} (hk : 0 ≤ k) (hi : 0 ≤ i ∧ i < n) (ht : 0 ≤ t ∧ t < 4) (hu : us1 i = 0) (hb : 0 ≤ fd2 ∧ fd2 ≤ tc2 ∧ tc2 ≤ 60000) (hff : fo = 1 → fd2 = 0) (hus : ∀ j, 0 ≤ j ∧ j < n → us2 j = uI us1 i 1 j) (hly : ∀ j, 0 ≤ j ∧ j < k + 1 → ly2 j = uI ly1 k (i * 4 + t) j) (hwa : ∀ j, j < (k + 1) * 4 → wa2 j = wa1 j) (hm : ∃ m : Nat, itS F n N fo m e0 = e1)
    (hr : ∃ (m : Nat) (q u : Int → Int), itS F n N fo m e1 = (k + 1 - 1, q, u, tc2, fd2) ∧ (∀ j, 0 ≤ j ∧ j < k + 1 → q j = uI ly1 k (i * 4 + t) j) ∧ (0 < k + 1 → ∀ j, 0 ≤ j ∧ j < n → u j = uI (uI us1 i 1) (uI ly1 k (i * 4 + t) (k + 1 - 1) / 4) 0 j)) (h : flI F n N fo k us ly wa wv e0 (i * 4 + t - 1) us1 ly1 wa1 fd tc) : flI F n N fo k us ly wa wv e0 (i * 4 + (t + 1) - 1) (uI us2 i 0) ly2 wa2 fd2 tc2 := by
  obtain ⟨h1, h2, h3, h4, h5, -⟩ := h
  obtain ⟨m, q, u, e, hq, hu3⟩ := hr
  rw [show k + 1 - 1 = k by omega, uI_eq, show (i * 4 + t) / 4 = i by omega] at hu3
  rw [show k + 1 - 1 = k by omega] at e
  refine ⟨⟨hb, hff⟩, fun j hj => ?_, fun j hj => by rw [hly j (by omega), uI_ne (by omega)]; exact h3 j hj, fun d hd => by rw [hwa _ (by omega)]; exact h4 d hd, fun j hj => by rw [hwa j (by omega)]; exact h5 j hj, q, u, fun j hj => by rw [hq j (by omega), uI_ne (by omega)]; exact h3 j hj, by rw [hq k (by omega), uI_eq]; omega, fun j hj => ?_, rc_it (it_tr hm ⟨m, e⟩)⟩
  · by_cases z : j = i
    · rw [z, uI_eq, ← h2 i hi, hu]
    · rw [uI_ne z, hus j hj, uI_ne z]; exact h2 j hj
  · rw [hu3 (by omega) j hj]
    by_cases z : j = i
    · rw [z, uI_eq, ← h2 i hi, hu]
    · rw [uI_ne z, uI_ne z]; exact h2 j hj
end FL
end
section
/-! THE SEARCH: the contract of one level, by the levels that are left -/
def rmF (d : Nat) : Room := { frames := d + 4, cells := 0, slots := 0, locals := d * 40 + 200 }
theorem fl_init {F : (Int → Int) → Int → Prop} {n N fo k : Int} {us ly wa wv q0 u0 : Int → Int} {fd tc : Int} (hc : (0 ≤ fd ∧ fd ≤ tc ∧ tc ≤ 60000) ∧ (fo = 1 → fd = 0)) (hq0 : ∀ j : Int, 0 ≤ j ∧ j < k → q0 j = ly j) (hq1 : q0 k = -1) (hu0 : ∀ j : Int, 0 ≤ j ∧ j < n → u0 j = us j) : flI F n N fo k us ly wa wv (k, q0, u0, tc, fd) (0 * 4 - 1) us ly (laI wa k wv 4) fd tc :=
  ⟨hc, fun _ _ => rfl, fun _ _ => rfl, fun d hd => by
    unfold laI
    rw [if_pos (by omega), show k * 4 + d - k * 4 = d by omega], fun j hj => by
    unfold laI
    rw [if_neg (by omega)], q0, u0, hq0, hq1, hu0, rc_rf _⟩
def fillC (E : gE) (l : Launch) (d : Nat) : Prop := ∀ {a_L a_P a_R a_fi a_hs a_jl a_ly a_pc a_se a_sh a_tn a_us a_wa : Nat} {W h n k : Int} {hs se pc tn sh fi wa us ly q0 u0 : Int → Int} {jo fo fd tc : Int}, (1 ≤ W ∧ W ≤ 5 ∧ 1 ≤ h ∧ h ≤ 5) → (0 ≤ k ∧ k < W * h ∧ k + (d : Int) = W * h) → (∀ p e : Int, 0 ≤ p ∧ p < W * h → 0 ≤ e ∧ e < 4 → se (p * 4 + e) = sdI W h p e) → (hB9 hs) → (0 ≤ n ∧ n ≤ 25) → (∀ j : Int, 0 ≤ j ∧ j < n → (0 ≤ pc j ∧ pc j < W * h) ∧ 0 ≤ tn j ∧ tn j < 4) → (∀ j : Int, 0 ≤ j ∧ j < k → 0 ≤ ly j ∧ ly j < n * 4 ∧ FT W h hs pc tn ly j) → (∀ v d : Int, 0 ≤ v ∧ v < n * 4 → 0 ≤ d ∧ d < 4 → sh (v * 4 + d) = shV W h hs pc tn v d) → (∀ v d : Int, 0 ≤ v ∧ v < n * 4 → 0 ≤ d ∧ d < 4 → fi (v * 4 + d) = fiV W h hs pc tn v d) → (∀ j : Int, 0 ≤ j ∧ j < n → us j = 0 ∨ us j = 1) → ((0 ≤ fd ∧ fd ≤ tc ∧ tc ≤ 60000) ∧ (fo = 1 → fd = 0)) → (fo = 0 ∨ fo = 1) → (∀ j : Int, 0 ≤ j ∧ j < k → q0 j = ly j) → (q0 k = -1) → (∀ j : Int, 0 ≤ j ∧ j < n → u0 j = us j) → gMet E l yX3_fillFrom wsX3_fillFrom (rmF d) 0 0 [.ref a_R, .int (iI k)] [(a_R, .inr (3, [.ref a_P, .ref a_L, .ref a_sh, .ref a_fi, .ref a_wa, .ref a_us, .ref a_ly, .ref a_jl, .int (iI jo), .int (iI fo), .int (iI 0), .int (iI fd), .int (iI tc)])), (a_P, .inr (1, [.ref a_hs, .ref a_se, .int (iI W), .int (iI h)])), (a_se, aI E 100 se), (a_L, .inr (2, [.ref a_pc, .ref a_tn, .int (iI n)])), (a_sh, aI E 400 sh), (a_fi, aI E 400 fi), (a_wa, aI E 100 wa), (a_us, aZ E 25 us), (a_ly, aI E 25 ly)] (fun v w => ∃ (us2 ly2 wa2 : Int → Int) (sp2 fd2 tc2 : Int), (v = none ∧ fillR (FT W h hs pc tn) n (W * h) fo k us ly wa (k, q0, u0, tc, fd) us2 ly2 wa2 sp2 fd2 tc2) ∧ w = [(a_R, .inr (3, [.ref a_P, .ref a_L, .ref a_sh, .ref a_fi, .ref a_wa, .ref a_us, .ref a_ly, .ref a_jl, .int (iI jo), .int (iI fo), .int (iI sp2), .int (iI fd2), .int (iI tc2)])), (a_P, .inr (1, [.ref a_hs, .ref a_se, .int (iI W), .int (iI h)])), (a_se, aI E 100 se), (a_L, .inr (2, [.ref a_pc, .ref a_tn, .int (iI n)])), (a_sh, aI E 400 sh), (a_fi, aI E 400 fi), (a_wa, aI E 100 wa2), (a_us, aZ E 25 us2), (a_ly, aI E 25 ly2)])
theorem lX3_fillFrom_31 : Cond.fieldLink RX3 31 (TX3 0).1 (TX3 0).2.1 (TX3 0).2.2.1 ∈ wsX3_fillFrom := by decide +kernel
theorem lX3_fillFrom_58 : Cond.fieldLink RX3 58 (TX3 11).1 (TX3 11).2.1 (TX3 11).2.2.1 ∈ wsX3_fillFrom := by decide +kernel
theorem iX3_fillFrom_X3 : ∀ w ∈ u_ws RX3 TX3 13, w ∈ wsX3_fillFrom := by decide +kernel
set_option maxHeartbeats 4000000 in
set_option maxRecDepth 100000 in
theorem k_X3_fillFrom_0 (E : gE) (l : Launch) {a_L a_P a_R a_fi a_hs a_jl a_ly a_se a_sh a_us a_wa : Nat} {W h k : Int} {jo fo sp fd tc : Int} (hB : 1 ≤ W ∧ W ≤ 5 ∧ 1 ≤ h ∧ h ≤ 5) (hk : k = W * h) : gUpd E l yX3_fillFrom wsX3_fillFrom ({ frames := 4, cells := 0, slots := 0, locals := 100 } : Room) [.ref a_R, .int (iI k)] [(a_R, .inr (3, [.ref a_P, .ref a_L, .ref a_sh, .ref a_fi, .ref a_wa, .ref a_us, .ref a_ly, .ref a_jl, .int (iI jo), .int (iI fo), .int (iI sp), .int (iI fd), .int (iI tc)])), (a_P, .inr (1, [.ref a_hs, .ref a_se, .int (iI W), .int (iI h)]))] none [(a_R, .inr (3, [.ref a_P, .ref a_L, .ref a_sh, .ref a_fi, .ref a_wa, .ref a_us, .ref a_ly, .ref a_jl, .int (iI jo), .int (iI fo), .int (iI sp), .int (iI (fd + 1)), .int (iI tc)])), (a_P, .inr (1, [.ref a_hs, .ref a_se, .int (iI W), .int (iI h)]))] := by
  refine g_start (cc := cX3_fillFrom) (maxL := 5) (ret := none) (by decide) rfl (Nat.le_of_ble_eq_true rfl) ?_
  intro p_ e_ s_ m_ args_ below_ meth_ c_ A_ C hr hnm
  have hn := nsd_b hB
  refine g_iload_n 1 C 1 dX3_fillFrom_0 rfl rfl ?_
  refine g_aload_n 2 C 0 dX3_fillFrom_1 rfl rfl ?_
  refine g_get 5 C 0 0 3 iX3_fillFrom_X3 lX3_fillFrom_31 dX3_fillFrom_2 rfl rfl rfl (by decide) rfl ?_
  refine g_callVF 8 C [1] dX3_fillFrom_5 rfl (k_X1_pieces E l  ) (cwV 0 C.2.2.2.2.1 gX3_fillFrom_X1_pieces rfl rfl rfl cdX1_pieces ⟨Nat.le_of_ble_eq_true rfl, Nat.le_of_ble_eq_true rfl⟩) rfl rfl rfl rfl (Nat.le_of_ble_eq_true rfl) 1 1 rfl rfl rfl ⟨Nat.le_of_ble_eq_true rfl, Nat.le_of_ble_eq_true rfl⟩ ?_
  refine g_icmp_lt 22 11 C dX3_fillFrom_8 (by decide) rfl (by omega) (fun h8 => absurd h8 (by omega)) ?_
  intro h8
  refine g_aload_n 12 C 0 dX3_fillFrom_11 rfl rfl ?_
  refine g_dup 13 C dX3_fillFrom_12 rfl rfl ?_
  refine g_get 16 C 0 11 3 iX3_fillFrom_X3 lX3_fillFrom_58 dX3_fillFrom_13 rfl rfl rfl (by decide) rfl ?_
  refine g_iconst 17 C dX3_fillFrom_16 rfl ?_
  refine g_iadd 18 C dX3_fillFrom_17 rfl ?_
  refine g_put (ws' := [(_, .inr (3, [_, _, _, _, _, _, _, _, _, _, _, _, _])), (_, .inr (1, [_, _, _, _]))]) 21 C 0 11 3 tyX3 tyX3_ok nmX3 iX3_fillFrom_X3 lX3_fillFrom_58 dX3_fillFrom_18 rfl rfl rfl (by decide) rfl rfl rfl (Nat.le_of_ble_eq_true rfl) rfl ?_
  exact g_vret C hr dX3_fillFrom_21 ⟨rfl, rfl⟩
theorem lX3_fillFrom_116 : Cond.constant RX3 116 (60000) ∈ wsX3_fillFrom := by decide +kernel
theorem cdX2_size : yX2_size.cls = RX2 ∧ yX2_size.cls ≠ "java/lang/invoke/MethodHandle" ∧ yX2_size.cls ≠ "java/lang/invoke/VarHandle" ∧ (parseMethodDescriptor yX2_size.desc).map (fun d => d.parameters.length) = some 0 := by decide +kernel
theorem cdX3_fillFrom : yX3_fillFrom.cls = RX3 ∧ yX3_fillFrom.cls ≠ "java/lang/invoke/MethodHandle" ∧ yX3_fillFrom.cls ≠ "java/lang/invoke/VarHandle" ∧ (parseMethodDescriptor yX3_fillFrom.desc).map (fun d => d.parameters.length) = some 1 := by decide +kernel
theorem cdX3_fits : yX3_fits.cls = RX3 ∧ yX3_fits.cls ≠ "java/lang/invoke/MethodHandle" ∧ yX3_fits.cls ≠ "java/lang/invoke/VarHandle" ∧ (parseMethodDescriptor yX3_fits.desc).map (fun d => d.parameters.length) = some 2 := by decide +kernel
theorem cdX3_lookAround : yX3_lookAround.cls = RX3 ∧ yX3_lookAround.cls ≠ "java/lang/invoke/MethodHandle" ∧ yX3_lookAround.cls ≠ "java/lang/invoke/VarHandle" ∧ (parseMethodDescriptor yX3_lookAround.desc).map (fun d => d.parameters.length) = some 1 := by decide +kernel
theorem lX3_fillFrom_21 : Cond.fieldLink RX3 21 (TX3 5).1 (TX3 5).2.1 (TX3 5).2.2.1 ∈ wsX3_fillFrom := by decide +kernel
theorem lX3_fillFrom_25 : Cond.fieldLink RX3 25 (TX3 6).1 (TX3 6).2.1 (TX3 6).2.2.1 ∈ wsX3_fillFrom := by decide +kernel
theorem lX3_fillFrom_35 : Cond.fieldLink RX3 35 (TX3 1).1 (TX3 1).2.1 (TX3 1).2.2.1 ∈ wsX3_fillFrom := by decide +kernel
theorem lX3_fillFrom_39 : Cond.fieldLink RX3 39 (TX3 12).1 (TX3 12).2.1 (TX3 12).2.2.1 ∈ wsX3_fillFrom := by decide +kernel
theorem lX3_fillFrom_55 : Cond.fieldLink RX3 55 (TX3 10).1 (TX3 10).2.1 (TX3 10).2.2.1 ∈ wsX3_fillFrom := by decide +kernel
theorem lX3_fillFrom_80 : Cond.fieldLink RX3 80 (TX3 9).1 (TX3 9).2.1 (TX3 9).2.2.1 ∈ wsX3_fillFrom := by decide +kernel
theorem lX3_fillFrom_111 : ∀ w ∈ ([Cond.methodLink RX3 111 Lib.Math.min.name, Cond.static Lib.Math.min.name, Cond.initialized "java/lang/Math", Cond.code Lib.Math.min.name Lib.Math.min.code 2 (some .int)] : List Cond), w ∈ wsX3_fillFrom := by decide +kernel
set_option maxHeartbeats 4000000 in
set_option maxRecDepth 100000 in
theorem k_X3_fillFrom_s (E : gE) (l : Launch) {a_L a_P a_R a_fi a_hs a_jl a_ly a_pc a_se a_sh a_tn a_us a_wa : Nat} {d : Nat} (ihF : fillC E l d) {W h n k : Int} {hs se pc tn sh fi wa us ly q0 u0 : Int → Int} {jo fo fd tc : Int} (hB : 1 ≤ W ∧ W ≤ 5 ∧ 1 ≤ h ∧ h ≤ 5) (hk : 0 ≤ k ∧ k < W * h ∧ k + ((d : Int) + 1) = W * h) (hse : ∀ p e : Int, 0 ≤ p ∧ p < W * h → 0 ≤ e ∧ e < 4 → se (p * 4 + e) = sdI W h p e) (hh : hB9 hs) (hn : 0 ≤ n ∧ n ≤ 25) (hpw : ∀ j : Int, 0 ≤ j ∧ j < n → (0 ≤ pc j ∧ pc j < W * h) ∧ 0 ≤ tn j ∧ tn j < 4) (hLY : ∀ j : Int, 0 ≤ j ∧ j < k → 0 ≤ ly j ∧ ly j < n * 4 ∧ FT W h hs pc tn ly j) (hSH : ∀ v d : Int, 0 ≤ v ∧ v < n * 4 → 0 ≤ d ∧ d < 4 → sh (v * 4 + d) = shV W h hs pc tn v d) (hFI : ∀ v d : Int, 0 ≤ v ∧ v < n * 4 → 0 ≤ d ∧ d < 4 → fi (v * 4 + d) = fiV W h hs pc tn v d) (hUS : ∀ j : Int, 0 ≤ j ∧ j < n → us j = 0 ∨ us j = 1) (hc : (0 ≤ fd ∧ fd ≤ tc ∧ tc ≤ 60000) ∧ (fo = 1 → fd = 0)) (hfo : fo = 0 ∨ fo = 1) (hq0 : ∀ j : Int, 0 ≤ j ∧ j < k → q0 j = ly j) (hq1 : q0 k = -1) (hu0 : ∀ j : Int, 0 ≤ j ∧ j < n → u0 j = us j) : gMet E l yX3_fillFrom wsX3_fillFrom (rmF (d + 1)) 0 0 [.ref a_R, .int (iI k)] [(a_R, .inr (3, [.ref a_P, .ref a_L, .ref a_sh, .ref a_fi, .ref a_wa, .ref a_us, .ref a_ly, .ref a_jl, .int (iI jo), .int (iI fo), .int (iI 0), .int (iI fd), .int (iI tc)])), (a_P, .inr (1, [.ref a_hs, .ref a_se, .int (iI W), .int (iI h)])), (a_se, aI E 100 se), (a_L, .inr (2, [.ref a_pc, .ref a_tn, .int (iI n)])), (a_sh, aI E 400 sh), (a_fi, aI E 400 fi), (a_wa, aI E 100 wa), (a_us, aZ E 25 us), (a_ly, aI E 25 ly)] (fun v w => ∃ (us2 ly2 wa2 : Int → Int) (sp2 fd2 tc2 : Int), (v = none ∧ fillR (FT W h hs pc tn) n (W * h) fo k us ly wa (k, q0, u0, tc, fd) us2 ly2 wa2 sp2 fd2 tc2) ∧ w = [(a_R, .inr (3, [.ref a_P, .ref a_L, .ref a_sh, .ref a_fi, .ref a_wa, .ref a_us, .ref a_ly, .ref a_jl, .int (iI jo), .int (iI fo), .int (iI sp2), .int (iI fd2), .int (iI tc2)])), (a_P, .inr (1, [.ref a_hs, .ref a_se, .int (iI W), .int (iI h)])), (a_se, aI E 100 se), (a_L, .inr (2, [.ref a_pc, .ref a_tn, .int (iI n)])), (a_sh, aI E 400 sh), (a_fi, aI E 400 fi), (a_wa, aI E 100 wa2), (a_us, aZ E 25 us2), (a_ly, aI E 25 ly2)]) := by
  refine g_start (cc := cX3_fillFrom) (maxL := 5) (ret := none) (by decide) rfl (Nat.le_of_ble_eq_true rfl) ?_
  intro p_ e_ s_ m_ args_ below_ meth_ c_ A_ C hr hnm
  have hn := nsd_b hB
  unfold fillC at ihF
  refine g_iload_n 1 C 1 dX3_fillFrom_0 rfl rfl ?_
  refine g_aload_n 2 C 0 dX3_fillFrom_1 rfl rfl ?_
  refine g_get 5 C 0 0 3 iX3_fillFrom_X3 lX3_fillFrom_31 dX3_fillFrom_2 rfl rfl rfl (by decide) rfl ?_
  refine g_callVF 8 C [1] dX3_fillFrom_5 rfl (k_X1_pieces E l  ) (cwV 0 C.2.2.2.2.1 gX3_fillFrom_X1_pieces rfl rfl rfl cdX1_pieces ⟨Nat.le_of_ble_eq_true rfl, Nat.le_of_ble_eq_true rfl⟩) rfl rfl rfl rfl (Nat.le_of_ble_eq_true rfl) 1 1 rfl rfl rfl ⟨Nat.le_of_ble_eq_true rfl, Nat.le_of_ble_eq_true rfl⟩ ?_
  refine g_icmp_lt 22 11 C dX3_fillFrom_8 (by decide) rfl (by omega) ?_ (fun h8 => absurd h8 (by omega))
  intro h8
  refine g_aload_n 23 C 0 dX3_fillFrom_22 rfl rfl ?_
  refine g_iload_n 24 C 1 dX3_fillFrom_23 rfl rfl ?_
  refine g_callVU (ws' := [(_, .inr (3, [_, _, _, _, _, _, _, _, _, _, _, _, _])), (_, .inr (1, [_, _, _, _])), (_, aI _ _ _), (_, .inr (2, [_, _, _])), (_, aI _ _ _), (_, aI _ _ _), (_, aI _ _ _), (_, aZ _ _ _), (_, aI _ _ _)]) 27 C [0, 1, 2, 5, 6, 8] dX3_fillFrom_24 rfl (k_X3_lookAround E l  (by first | assumption | omega) (by omega) (by first | assumption | omega) (fun j q => by have := hLY j q; omega)) (cwV 1 C.2.2.2.2.1 gX3_fillFrom_X3_lookAround rfl rfl rfl cdX3_lookAround ⟨Nat.le_of_ble_eq_true rfl, Nat.le_of_ble_eq_true rfl⟩) rfl rfl rfl rfl (Nat.le_of_ble_eq_true rfl) 0 3 rfl rfl rfl ⟨Nat.le_of_ble_eq_true rfl, Nat.le_of_ble_eq_true rfl⟩ rfl rfl ?_
  refine g_aload_n 28 C 0 dX3_fillFrom_27 rfl rfl ?_
  refine g_get 31 C 0 1 3 iX3_fillFrom_X3 lX3_fillFrom_35 dX3_fillFrom_28 rfl rfl rfl (by decide) rfl ?_
  refine g_callVF 34 C [3] dX3_fillFrom_31 rfl (k_X2_size E l  ) (cwV 0 C.2.2.2.2.1 gX3_fillFrom_X2_size rfl rfl rfl cdX2_size ⟨Nat.le_of_ble_eq_true rfl, Nat.le_of_ble_eq_true rfl⟩) rfl rfl rfl rfl (Nat.le_of_ble_eq_true rfl) 3 2 rfl rfl rfl ⟨Nat.le_of_ble_eq_true rfl, Nat.le_of_ble_eq_true rfl⟩ ?_
  refine g_aload_n 35 C 0 dX3_fillFrom_34 rfl rfl ?_
  refine g_get 38 C 0 5 3 iX3_fillFrom_X3 lX3_fillFrom_21 dX3_fillFrom_35 rfl rfl rfl (by decide) rfl ?_
  refine g_alenZ 39 C 7 dX3_fillFrom_38 rfl rfl ?_
  refine g_mmin 42 C n dX3_fillFrom_39 rfl lX3_fillFrom_111 (Nat.le_of_ble_eq_true rfl) (Nat.le_of_ble_eq_true rfl) (Nat.le_of_ble_eq_true rfl) (Nat.le_of_ble_eq_true rfl) (by omega) (by split <;> omega) ?_
  refine g_istore_n (lv' := [(2, _), (0, _), (1, _)]) 43 C dX3_fillFrom_42 rfl rfl (by decide) rfl ?_
  refine g_iconst 44 C dX3_fillFrom_43 rfl ?_
  refine g_istore_n (lv' := [(3, _), (2, _), (0, _), (1, _)]) 45 C dX3_fillFrom_44 rfl rfl (by decide) rfl ?_
  refine g_loop (α := (Int → Int) × (Int → Int) × (Int → Int) × Int × Int × Int) (fun zz => [(a_R, .inr (3, [.ref a_P, .ref a_L, .ref a_sh, .ref a_fi, .ref a_wa, .ref a_us, .ref a_ly, .ref a_jl, .int (iI jo), .int (iI fo), .int (iI 0), .int (iI zz.2.2.2.1), .int (iI zz.2.2.2.2.1)])), (a_P, .inr (1, [.ref a_hs, .ref a_se, .int (iI W), .int (iI h)])), (a_se, aI E 100 se), (a_L, .inr (2, [.ref a_pc, .ref a_tn, .int (iI n)])), (a_sh, aI E 400 sh), (a_fi, aI E 400 fi), (a_wa, aI E 100 zz.2.2.1), (a_us, aZ E 25 zz.1), (a_ly, aI E 25 zz.2.1)]) (fun zz => [(3, .int (iI zz.2.2.2.2.2)), (2, .int (iI n)), (1, .int (iI k)), (0, .ref a_R)]) (fun zz => (0 ≤ zz.2.2.2.2.2 ∧ zz.2.2.2.2.2 ≤ n) ∧ flI (FT W h hs pc tn) n (W * h) fo k us ly wa (waV W h fi ly k) (k, q0, u0, tc, fd) (zz.2.2.2.2.2 * 4 - 1) zz.1 zz.2.1 zz.2.2.1 zz.2.2.2.1 zz.2.2.2.2.1) (fun zz => (n - zz.2.2.2.2.2).toNat) (us, ly, (laI wa k (waV W h fi ly k) 4), fd, tc, 0) (by
            try dsimp only
            exact ⟨by omega, fl_init hc hq0 hq1 hu0⟩) [0, 1, 3, 2] rfl rfl ?_
  rintro ⟨us1, ly1, wa1, fd1, tc1, i⟩ hI ih45
  try dsimp only at hI ih45 ⊢
  obtain ⟨hi, hI⟩ := hI
  refine g_iload_n 46 C 0 dX3_fillFrom_45 rfl rfl ?_
  refine g_iload_n 47 C 1 dX3_fillFrom_46 rfl rfl ?_
  refine g_icmp_ge 179 50 C dX3_fillFrom_47 (by decide) rfl (by omega) ?_ ?_
  · intro h47
    exact g_vret C hr dX3_fillFrom_179 ⟨_, _, _, _, _, _, ⟨rfl, fl_exit (by omega) (by omega) (by rw [show n * 4 - 1 = i * 4 - 1 by omega]; exact hI)⟩, rfl⟩
  · intro h47
    refine g_aload_n 51 C 3 dX3_fillFrom_50 rfl rfl ?_
    refine g_get 54 C 0 5 3 iX3_fillFrom_X3 lX3_fillFrom_21 dX3_fillFrom_51 rfl rfl rfl (by decide) rfl ?_
    have hu1 : us1 i = 0 ∨ us1 i = 1 := by rw [hI.2.1 i (by omega)]; exact hUS i (by omega)
    refine g_iload_n 55 C 0 dX3_fillFrom_54 rfl rfl ?_
    refine g_baload 56 C 7 dX3_fillFrom_55 rfl rfl (by omega) ?_
    refine g_if_eq 62 59 C dX3_fillFrom_56 (by decide) rfl (by omega) ?_ ?_
    · intro h56
      refine g_iconst 63 C dX3_fillFrom_62 rfl ?_
      refine g_istore (lv' := [(4, _), (3, _), (2, _), (1, _), (0, _)]) 65 C dX3_fillFrom_63 rfl (by decide) rfl ?_
      refine g_loop (α := (Int → Int) × (Int → Int) × (Int → Int) × Int × Int × Int) (fun zz => [(a_R, .inr (3, [.ref a_P, .ref a_L, .ref a_sh, .ref a_fi, .ref a_wa, .ref a_us, .ref a_ly, .ref a_jl, .int (iI jo), .int (iI fo), .int (iI 0), .int (iI zz.2.2.2.1), .int (iI zz.2.2.2.2.1)])), (a_P, .inr (1, [.ref a_hs, .ref a_se, .int (iI W), .int (iI h)])), (a_se, aI E 100 se), (a_L, .inr (2, [.ref a_pc, .ref a_tn, .int (iI n)])), (a_sh, aI E 400 sh), (a_fi, aI E 400 fi), (a_wa, aI E 100 zz.2.2.1), (a_us, aZ E 25 zz.1), (a_ly, aI E 25 zz.2.1)]) (fun zz => [(4, .int (iI zz.2.2.2.2.2)), (3, .int (iI i)), (2, .int (iI n)), (1, .int (iI k)), (0, .ref a_R)]) (fun zz => ((0 ≤ zz.2.2.2.2.2 ∧ zz.2.2.2.2.2 ≤ 4) ∧ zz.1 i = 0) ∧ flI (FT W h hs pc tn) n (W * h) fo k us ly wa (waV W h fi ly k) (k, q0, u0, tc, fd) (i * 4 + zz.2.2.2.2.2 - 1) zz.1 zz.2.1 zz.2.2.1 zz.2.2.2.1 zz.2.2.2.2.1) (fun zz => (4 - zz.2.2.2.2.2).toNat) (us1, ly1, wa1, fd1, tc1, 0) (by
            try dsimp only
            exact ⟨⟨by omega, h56⟩, by rw [show i * 4 + 0 - 1 = i * 4 - 1 by omega]; exact hI⟩) [0, 1, 2, 3, 4] rfl rfl ?_
      rintro ⟨us1, ly1, wa1, fd1, tc1, t⟩ hI ih65
      try dsimp only at hI ih65 ⊢
      obtain ⟨ht, hJ⟩ := hI
      refine g_iload 67 C 0 dX3_fillFrom_65 rfl rfl ?_
      refine g_iconst 68 C dX3_fillFrom_67 rfl ?_
      refine g_icmp_ge 173 71 C dX3_fillFrom_68 (by decide) rfl (by omega) ?_ ?_
      · intro h68
        refine g_iinc (lv' := [(3, _), (4, _), (2, _), (1, _), (0, _)]) 176 C 1 dX3_fillFrom_173 rfl rfl (by decide) rfl ?_
        refine g_goto 45 C dX3_fillFrom_176 (by decide) ?_
        exact g_w [0, 2, 3, 4] rfl rfl (ih45 (us1, ly1, wa1, fd1, tc1, (i + 1)) (by
            try dsimp only
            exact ⟨by omega, by first | (rw [show (i + 1) * 4 - 1 = i * 4 + t - 1 by omega]; exact hJ) | exact fl_skip (by omega) (by omega) (by omega) (by assumption) hI⟩) (by (try dsimp only); omega))
      · intro h68
        refine g_aload_n 72 C 4 dX3_fillFrom_71 rfl rfl ?_
        refine g_get 75 C 0 12 3 iX3_fillFrom_X3 lX3_fillFrom_39 dX3_fillFrom_72 rfl rfl rfl (by decide) rfl ?_
        have hb1 := hJ.1
        refine g_ldc 77 C (60000) dX3_fillFrom_75 rfl lX3_fillFrom_116 (by decide) ?_
        refine g_icmp_lt 86 80 C dX3_fillFrom_77 (by decide) rfl (by omega) ?_ ?_
        · intro h77
          refine g_aload_n 87 C 4 dX3_fillFrom_86 rfl rfl ?_
          refine g_dup 88 C dX3_fillFrom_87 rfl rfl ?_
          refine g_get 91 C 0 12 3 iX3_fillFrom_X3 lX3_fillFrom_39 dX3_fillFrom_88 rfl rfl rfl (by decide) rfl ?_
          refine g_iconst 92 C dX3_fillFrom_91 rfl ?_
          refine g_iadd 93 C dX3_fillFrom_92 rfl ?_
          refine g_put (ws' := [(_, .inr (3, [_, _, _, _, _, _, _, _, _, _, _, _, _])), (_, .inr (1, [_, _, _, _])), (_, aI _ _ _), (_, .inr (2, [_, _, _])), (_, aI _ _ _), (_, aI _ _ _), (_, aI _ _ _), (_, aZ _ _ _), (_, aI _ _ _)]) 96 C 0 12 3 tyX3 tyX3_ok nmX3 iX3_fillFrom_X3 lX3_fillFrom_39 dX3_fillFrom_93 rfl rfl rfl (by decide) rfl rfl rfl (Nat.le_of_ble_eq_true rfl) rfl ?_
          refine g_aload_n 97 C 4 dX3_fillFrom_96 rfl rfl ?_
          refine g_iload_n 98 C 3 dX3_fillFrom_97 rfl rfl ?_
          refine g_iload_n 99 C 1 dX3_fillFrom_98 rfl rfl ?_
          refine g_iconst 100 C dX3_fillFrom_99 rfl ?_
          refine g_imul 101 C dX3_fillFrom_100 rfl ?_
          refine g_iload 103 C 0 dX3_fillFrom_101 rfl rfl ?_
          refine g_iadd 104 C dX3_fillFrom_103 rfl ?_
          refine g_callVF 107 C [0, 4, 6] dX3_fillFrom_104 rfl (k_X3_fits E l  (by omega) (by omega) (fun d hd => by rw [hJ.2.2.2.1 d hd]; exact waV_r hB (by omega) hh hLY hFI d hd) (fun d hd => by rw [hSH _ d (by omega) hd]; have := shV_m (W := W) (h := h) (pc := pc) (tn := tn) hh (i * 4 + t) d; omega)) (cwV 2 C.2.2.2.2.1 gX3_fillFrom_X3_fits rfl rfl rfl cdX3_fits ⟨Nat.le_of_ble_eq_true rfl, Nat.le_of_ble_eq_true rfl⟩) rfl rfl rfl rfl (Nat.le_of_ble_eq_true rfl) 0 3 rfl rfl rfl ⟨Nat.le_of_ble_eq_true rfl, Nat.le_of_ble_eq_true rfl⟩ ?_
          have hFi : ∀ q : Int → Int, (∀ j : Int, 0 ≤ j ∧ j < k → q j = ly j) → q k = i * 4 + t → ((∀ d : Int, 0 ≤ d → d < 4 → okD wa1 sh (i * 4 + t) k d) ↔ FT W h hs pc tn q k) := fun q a b => fits_iff hB (by omega) hh hLY hSH hFI hJ.2.2.2.1 (by omega) a b
          refine g_ifb_eq 145 110 C dX3_fillFrom_107 (by decide) rfl ?_ ?_
          · intro h107
            refine g_aload_n 146 C 4 dX3_fillFrom_145 rfl rfl ?_
            refine g_get 149 C 0 10 3 iX3_fillFrom_X3 lX3_fillFrom_55 dX3_fillFrom_146 rfl rfl rfl (by decide) rfl ?_
            refine g_if_ne 166 152 C dX3_fillFrom_149 (by decide) rfl (by omega) (fun q => absurd q (by omega)) ?_
            intro _
            refine g_aload_n 153 C 4 dX3_fillFrom_152 rfl rfl ?_
            refine g_get 156 C 0 9 3 iX3_fillFrom_X3 lX3_fillFrom_80 dX3_fillFrom_153 rfl rfl rfl (by decide) rfl ?_
            refine g_if_eq 167 159 C dX3_fillFrom_156 (by decide) rfl (by omega) ?_ ?_
            · intro h156
              refine g_iinc (lv' := [(4, _), (3, _), (2, _), (1, _), (0, _)]) 170 C 0 dX3_fillFrom_167 rfl rfl (by decide) rfl ?_
              refine g_goto 65 C dX3_fillFrom_170 (by decide) ?_
              exact g_w [0, 1, 2, 3, 4] rfl rfl (ih65 (us1, ly1, wa1, fd1, (tc1 + 1), (t + 1)) (by
            try dsimp only
            exact ⟨⟨by omega, ht.2⟩, fl_not (by omega) (by omega) (by omega) (by omega) (by omega) (by omega) (fun q a b z => h107 ((hFi q a b).mpr z)) hJ⟩) (by (try dsimp only); omega))
            · intro h156
              refine g_aload_n 160 C 4 dX3_fillFrom_159 rfl rfl ?_
              refine g_get 163 C 0 11 3 iX3_fillFrom_X3 lX3_fillFrom_58 dX3_fillFrom_160 rfl rfl rfl (by decide) rfl ?_
              refine g_if_le 167 166 C dX3_fillFrom_163 (by decide) rfl (by omega) ?_ (fun h163 => absurd h163 (by omega))
              intro h163
              refine g_iinc (lv' := [(4, _), (3, _), (2, _), (1, _), (0, _)]) 170 C 0 dX3_fillFrom_167 rfl rfl (by decide) rfl ?_
              refine g_goto 65 C dX3_fillFrom_170 (by decide) ?_
              exact g_w [0, 1, 2, 3, 4] rfl rfl (ih65 (us1, ly1, wa1, fd1, (tc1 + 1), (t + 1)) (by
            try dsimp only
            exact ⟨⟨by omega, ht.2⟩, fl_not (by omega) (by omega) (by omega) (by omega) (by omega) (by omega) (fun q a b z => h107 ((hFi q a b).mpr z)) hJ⟩) (by (try dsimp only); omega))
          · intro h107
            refine g_aload_n 111 C 4 dX3_fillFrom_110 rfl rfl ?_
            refine g_get 114 C 0 6 3 iX3_fillFrom_X3 lX3_fillFrom_25 dX3_fillFrom_111 rfl rfl rfl (by decide) rfl ?_
            refine g_iload_n 115 C 3 dX3_fillFrom_114 rfl rfl ?_
            refine g_iload_n 116 C 1 dX3_fillFrom_115 rfl rfl ?_
            refine g_iconst 117 C dX3_fillFrom_116 rfl ?_
            refine g_imul 118 C dX3_fillFrom_117 rfl ?_
            refine g_iload 120 C 0 dX3_fillFrom_118 rfl rfl ?_
            refine g_iadd 121 C dX3_fillFrom_120 rfl ?_
            refine g_callSU (ws' := [(_, .inr (3, [_, _, _, _, _, _, _, _, _, _, _, _, _])), (_, .inr (1, [_, _, _, _])), (_, aI _ _ _), (_, .inr (2, [_, _, _])), (_, aI _ _ _), (_, aI _ _ _), (_, aI _ _ _), (_, aZ _ _ _), (_, aI _ _ _)]) 124 C [8] dX3_fillFrom_121 rfl (k_X3_note E l  (by first | assumption | omega) (by first | assumption | omega)) (va_cwS 3 C.2.2.2.2.1 gX3_fillFrom_X3_note rfl rfl rfl cdX3_note ⟨Nat.le_of_ble_eq_true rfl, Nat.le_of_ble_eq_true rfl⟩) rfl rfl rfl rfl (Nat.le_of_ble_eq_true rfl) ⟨Nat.le_of_ble_eq_true rfl, Nat.le_of_ble_eq_true rfl⟩ rfl rfl ?_
            refine g_aload_n 125 C 4 dX3_fillFrom_124 rfl rfl ?_
            refine g_get 128 C 0 5 3 iX3_fillFrom_X3 lX3_fillFrom_21 dX3_fillFrom_125 rfl rfl rfl (by decide) rfl ?_
            refine g_iload_n 129 C 1 dX3_fillFrom_128 rfl rfl ?_
            refine g_iconst 130 C dX3_fillFrom_129 rfl ?_
            refine g_bastore (ws' := [(_, .inr (3, [_, _, _, _, _, _, _, _, _, _, _, _, _])), (_, .inr (1, [_, _, _, _])), (_, aI _ _ _), (_, .inr (2, [_, _, _])), (_, aI _ _ _), (_, aI _ _ _), (_, aI _ _ _), (_, aZ _ _ _), (_, aI _ _ _)]) 131 C 7 dX3_fillFrom_130 rfl rfl (by omega) (by decide) rfl ?_
            rcases (by omega : (k + 1 = W * h ∧ fo = 1) ∨ (k + 1 = W * h ∧ fo ≠ 1) ∨ k + 1 ≠ W * h) with hl | hl | hl
            · skip
              refine g_aload_n 132 C 4 dX3_fillFrom_131 rfl rfl ?_
              refine g_iload_n 133 C 3 dX3_fillFrom_132 rfl rfl ?_
              refine g_iconst 134 C dX3_fillFrom_133 rfl ?_
              refine g_iadd 135 C dX3_fillFrom_134 rfl ?_
              refine g_callVU (ws' := [(_, .inr (3, [_, _, _, _, _, _, _, _, _, _, _, _, _])), (_, .inr (1, [_, _, _, _])), (_, aI _ _ _), (_, .inr (2, [_, _, _])), (_, aI _ _ _), (_, aI _ _ _), (_, aI _ _ _), (_, aZ _ _ _), (_, aI _ _ _)]) 138 C [0, 1] dX3_fillFrom_135 rfl (k_X3_fillFrom_0 E l  (by first | assumption | omega) (by first | assumption | omega)) (cwV 1 C.2.2.2.2.1 gX3_fillFrom_X3_fillFrom rfl rfl rfl cdX3_fillFrom ⟨Nat.le_of_ble_eq_true rfl, Nat.le_of_ble_eq_true rfl⟩) rfl rfl rfl rfl (Nat.le_of_ble_eq_true rfl) 0 3 rfl rfl rfl ⟨Nat.le_of_ble_eq_true rfl, Nat.le_of_ble_eq_true rfl⟩ rfl rfl ?_
              refine g_aload_n 139 C 4 dX3_fillFrom_138 rfl rfl ?_
              refine g_get 142 C 0 5 3 iX3_fillFrom_X3 lX3_fillFrom_21 dX3_fillFrom_139 rfl rfl rfl (by decide) rfl ?_
              refine g_iload_n 143 C 1 dX3_fillFrom_142 rfl rfl ?_
              refine g_iconst 144 C dX3_fillFrom_143 rfl ?_
              refine g_bastore (ws' := [(_, .inr (3, [_, _, _, _, _, _, _, _, _, _, _, _, _])), (_, .inr (1, [_, _, _, _])), (_, aI _ _ _), (_, .inr (2, [_, _, _])), (_, aI _ _ _), (_, aI _ _ _), (_, aI _ _ _), (_, aZ _ _ _), (_, aI _ _ _)]) 145 C 7 dX3_fillFrom_144 rfl rfl (by omega) (by decide) rfl ?_
              refine g_aload_n 146 C 4 dX3_fillFrom_145 rfl rfl ?_
              refine g_get 149 C 0 10 3 iX3_fillFrom_X3 lX3_fillFrom_55 dX3_fillFrom_146 rfl rfl rfl (by decide) rfl ?_
              refine g_if_ne 166 152 C dX3_fillFrom_149 (by decide) rfl (by omega) (fun q => absurd q (by omega)) ?_
              intro _
              refine g_aload_n 153 C 4 dX3_fillFrom_152 rfl rfl ?_
              refine g_get 156 C 0 9 3 iX3_fillFrom_X3 lX3_fillFrom_80 dX3_fillFrom_153 rfl rfl rfl (by decide) rfl ?_
              refine g_if_eq 167 159 C dX3_fillFrom_156 (by decide) rfl (by omega) (fun h156 => absurd h156 (by omega)) ?_
              intro h156
              refine g_aload_n 160 C 4 dX3_fillFrom_159 rfl rfl ?_
              refine g_get 163 C 0 11 3 iX3_fillFrom_X3 lX3_fillFrom_58 dX3_fillFrom_160 rfl rfl rfl (by decide) rfl ?_
              refine g_if_le 167 166 C dX3_fillFrom_163 (by decide) rfl (by omega) (fun h163 => absurd h163 (by omega)) ?_
              intro h163
              exact g_vret C hr dX3_fillFrom_166 ⟨_, _, _, _, _, _, ⟨rfl, fl_last1 (by omega) (by omega) (by omega) (by omega) (by omega) (by omega) hl.1 hl.2 (fun j q => by have := hLY j q; omega) (fun q a b => (hFi q a b).mp h107) hJ⟩, rfl⟩
            · skip
              refine g_aload_n 132 C 4 dX3_fillFrom_131 rfl rfl ?_
              refine g_iload_n 133 C 3 dX3_fillFrom_132 rfl rfl ?_
              refine g_iconst 134 C dX3_fillFrom_133 rfl ?_
              refine g_iadd 135 C dX3_fillFrom_134 rfl ?_
              refine g_callVU (ws' := [(_, .inr (3, [_, _, _, _, _, _, _, _, _, _, _, _, _])), (_, .inr (1, [_, _, _, _])), (_, aI _ _ _), (_, .inr (2, [_, _, _])), (_, aI _ _ _), (_, aI _ _ _), (_, aI _ _ _), (_, aZ _ _ _), (_, aI _ _ _)]) 138 C [0, 1] dX3_fillFrom_135 rfl (k_X3_fillFrom_0 E l  (by first | assumption | omega) (by first | assumption | omega)) (cwV 1 C.2.2.2.2.1 gX3_fillFrom_X3_fillFrom rfl rfl rfl cdX3_fillFrom ⟨Nat.le_of_ble_eq_true rfl, Nat.le_of_ble_eq_true rfl⟩) rfl rfl rfl rfl (Nat.le_of_ble_eq_true rfl) 0 3 rfl rfl rfl ⟨Nat.le_of_ble_eq_true rfl, Nat.le_of_ble_eq_true rfl⟩ rfl rfl ?_
              refine g_aload_n 139 C 4 dX3_fillFrom_138 rfl rfl ?_
              refine g_get 142 C 0 5 3 iX3_fillFrom_X3 lX3_fillFrom_21 dX3_fillFrom_139 rfl rfl rfl (by decide) rfl ?_
              refine g_iload_n 143 C 1 dX3_fillFrom_142 rfl rfl ?_
              refine g_iconst 144 C dX3_fillFrom_143 rfl ?_
              refine g_bastore (ws' := [(_, .inr (3, [_, _, _, _, _, _, _, _, _, _, _, _, _])), (_, .inr (1, [_, _, _, _])), (_, aI _ _ _), (_, .inr (2, [_, _, _])), (_, aI _ _ _), (_, aI _ _ _), (_, aI _ _ _), (_, aZ _ _ _), (_, aI _ _ _)]) 145 C 7 dX3_fillFrom_144 rfl rfl (by omega) (by decide) rfl ?_
              refine g_aload_n 146 C 4 dX3_fillFrom_145 rfl rfl ?_
              refine g_get 149 C 0 10 3 iX3_fillFrom_X3 lX3_fillFrom_55 dX3_fillFrom_146 rfl rfl rfl (by decide) rfl ?_
              refine g_if_ne 166 152 C dX3_fillFrom_149 (by decide) rfl (by omega) (fun q => absurd q (by omega)) ?_
              intro _
              refine g_aload_n 153 C 4 dX3_fillFrom_152 rfl rfl ?_
              refine g_get 156 C 0 9 3 iX3_fillFrom_X3 lX3_fillFrom_80 dX3_fillFrom_153 rfl rfl rfl (by decide) rfl ?_
              refine g_if_eq 167 159 C dX3_fillFrom_156 (by decide) rfl (by omega) ?_ (fun h156 => absurd h156 (by omega))
              intro h156
              refine g_iinc (lv' := [(4, _), (3, _), (2, _), (1, _), (0, _)]) 170 C 0 dX3_fillFrom_167 rfl rfl (by decide) rfl ?_
              refine g_goto 65 C dX3_fillFrom_170 (by decide) ?_
              exact g_w [0, 1, 2, 3, 4] rfl rfl (ih65 ((uI (uI us1 i 1) i 0), (uI ly1 k (i * 4 + t)), wa1, (fd1 + 1), (tc1 + 1), (t + 1)) (by
            try dsimp only
            exact ⟨⟨by omega, uI_eq _ _ _⟩, fl_last (by omega) (by omega) (by omega) (by omega) (by omega) (by omega) hl.1 hl.2 (fun q a b => (hFi q a b).mp h107) hJ⟩) (by (try dsimp only); omega))
            · skip
              obtain ⟨q1, u1, hd1, hd2, hd3, hd4⟩ := fl_down (by omega) (by omega) (by omega) (by omega) (by omega) (by omega) hl (fun q a b => (hFi q a b).mp h107) hJ
              have hLY2 : ∀ j : Int, 0 ≤ j ∧ j < k + 1 → 0 ≤ uI ly1 k (i * 4 + t) j ∧ uI ly1 k (i * 4 + t) j < n * 4 ∧ FT W h hs pc tn (uI ly1 k (i * 4 + t)) j := fun j hj => by
                by_cases z : j = k
                · rw [z]
                  exact ⟨by rw [uI_eq]; omega, by rw [uI_eq]; omega, (hFi _ (fun j hj => by rw [uI_ne (by omega)]; exact hJ.2.2.1 j hj) (uI_eq _ _ _)).mp h107⟩
                · have hz := hLY j (by omega)
                  have hz2 : uI ly1 k (i * 4 + t) j = ly j := by rw [uI_ne z]; exact hJ.2.2.1 j (by omega)
                  exact ⟨by omega, by omega, (FT_c hB hj.1 (fun y hy => by rw [uI_ne (by omega)]; exact hJ.2.2.1 y (by omega))).mpr hz.2.2⟩
              have hUS2 : ∀ j : Int, 0 ≤ j ∧ j < n → uI us1 i 1 j = 0 ∨ uI us1 i 1 j = 1 := fun j hj => by
                by_cases z : j = i
                · rw [z, uI_eq]; exact Or.inr rfl
                · rw [uI_ne z, hJ.2.1 j hj]; exact hUS j hj
              refine g_aload_n 132 C 4 dX3_fillFrom_131 rfl rfl ?_
              refine g_iload_n 133 C 3 dX3_fillFrom_132 rfl rfl ?_
              refine g_iconst 134 C dX3_fillFrom_133 rfl ?_
              refine g_iadd 135 C dX3_fillFrom_134 rfl ?_
              refine g_callV 138 C [0, 1, 2, 3, 4, 5, 6, 7, 8] dX3_fillFrom_135 rfl (ihF (by first | assumption | omega) (by omega) (by first | assumption | omega) (by first | assumption | omega) (by first | assumption | omega) (by first | assumption | omega) hLY2 (by first | assumption | omega) (by first | assumption | omega) hUS2 ⟨by omega, hJ.1.2⟩ (by first | assumption | omega) hd1 hd2 hd3) (cwV 1 C.2.2.2.2.1 gX3_fillFrom_X3_fillFrom rfl rfl rfl cdX3_fillFrom ⟨by show d + 4 + 1 ≤ d + 1 + 4; omega, by show 8 + (5 + 11) + (d * 40 + 200) ≤ (d + 1) * 40 + 200; omega⟩) rfl rfl rfl rfl (Nat.le_of_ble_eq_true rfl) 0 3 rfl rfl rfl ⟨Nat.le_of_ble_eq_true rfl, Nat.le_of_ble_eq_true rfl⟩ (fun v w q => by obtain ⟨_, _, _, _, _, _, -, rfl⟩ := q; rfl) ?_
              rintro _ _ ⟨us2, ly2, wa2, sp2, fd2, tc2, ⟨rfl, hb2, hR⟩, rfl⟩
              rcases hR with ⟨rfl, hR⟩ | ⟨rfl, hf1, hf2, hR, hR2⟩ | ⟨rfl, hf3, hR1, hR2, hR3, hR4⟩
              · skip
                refine g_w (ws' := [(_, .inr (3, [_, _, _, _, _, _, _, _, _, _, _, _, _])), (_, .inr (1, [_, _, _, _])), (_, aI _ _ _), (_, .inr (2, [_, _, _])), (_, aI _ _ _), (_, aI _ _ _), (_, aI _ _ _), (_, aZ _ _ _), (_, aI _ _ _)]) [0, 1, 2, 3, 4] rfl rfl ?_
                refine g_aload_n 139 C 4 dX3_fillFrom_138 rfl rfl ?_
                refine g_get 142 C 0 5 3 iX3_fillFrom_X3 lX3_fillFrom_21 dX3_fillFrom_139 rfl rfl rfl (by decide) rfl ?_
                refine g_iload_n 143 C 1 dX3_fillFrom_142 rfl rfl ?_
                refine g_iconst 144 C dX3_fillFrom_143 rfl ?_
                refine g_bastore (ws' := [(_, .inr (3, [_, _, _, _, _, _, _, _, _, _, _, _, _])), (_, .inr (1, [_, _, _, _])), (_, aI _ _ _), (_, .inr (2, [_, _, _])), (_, aI _ _ _), (_, aI _ _ _), (_, aI _ _ _), (_, aZ _ _ _), (_, aI _ _ _)]) 145 C 7 dX3_fillFrom_144 rfl rfl (by omega) (by decide) rfl ?_
                refine g_aload_n 146 C 4 dX3_fillFrom_145 rfl rfl ?_
                refine g_get 149 C 0 10 3 iX3_fillFrom_X3 lX3_fillFrom_55 dX3_fillFrom_146 rfl rfl rfl (by decide) rfl ?_
                refine g_if_ne 166 152 C dX3_fillFrom_149 (by decide) rfl (by omega) ?_ (fun q => absurd q (by omega))
                intro _
                exact g_vret C hr dX3_fillFrom_166 ⟨_, _, _, _, _, _, ⟨rfl, fl_up1 (us2 := us2) (ly2 := ly2) (wa2 := wa2) (sp2 := 1) hb2 hd4 hR⟩, rfl⟩
              · skip
                refine g_w (ws' := [(_, .inr (3, [_, _, _, _, _, _, _, _, _, _, _, _, _])), (_, .inr (1, [_, _, _, _])), (_, aI _ _ _), (_, .inr (2, [_, _, _])), (_, aI _ _ _), (_, aI _ _ _), (_, aI _ _ _), (_, aZ _ _ _), (_, aI _ _ _)]) [0, 1, 2, 3, 4] rfl rfl ?_
                refine g_aload_n 139 C 4 dX3_fillFrom_138 rfl rfl ?_
                refine g_get 142 C 0 5 3 iX3_fillFrom_X3 lX3_fillFrom_21 dX3_fillFrom_139 rfl rfl rfl (by decide) rfl ?_
                refine g_iload_n 143 C 1 dX3_fillFrom_142 rfl rfl ?_
                refine g_iconst 144 C dX3_fillFrom_143 rfl ?_
                refine g_bastore (ws' := [(_, .inr (3, [_, _, _, _, _, _, _, _, _, _, _, _, _])), (_, .inr (1, [_, _, _, _])), (_, aI _ _ _), (_, .inr (2, [_, _, _])), (_, aI _ _ _), (_, aI _ _ _), (_, aI _ _ _), (_, aZ _ _ _), (_, aI _ _ _)]) 145 C 7 dX3_fillFrom_144 rfl rfl (by omega) (by decide) rfl ?_
                refine g_aload_n 146 C 4 dX3_fillFrom_145 rfl rfl ?_
                refine g_get 149 C 0 10 3 iX3_fillFrom_X3 lX3_fillFrom_55 dX3_fillFrom_146 rfl rfl rfl (by decide) rfl ?_
                refine g_if_ne 166 152 C dX3_fillFrom_149 (by decide) rfl (by omega) (fun q => absurd q (by omega)) ?_
                intro _
                refine g_aload_n 153 C 4 dX3_fillFrom_152 rfl rfl ?_
                refine g_get 156 C 0 9 3 iX3_fillFrom_X3 lX3_fillFrom_80 dX3_fillFrom_153 rfl rfl rfl (by decide) rfl ?_
                refine g_if_eq 167 159 C dX3_fillFrom_156 (by decide) rfl (by omega) (fun h156 => absurd h156 (by omega)) ?_
                intro h156
                refine g_aload_n 160 C 4 dX3_fillFrom_159 rfl rfl ?_
                refine g_get 163 C 0 11 3 iX3_fillFrom_X3 lX3_fillFrom_58 dX3_fillFrom_160 rfl rfl rfl (by decide) rfl ?_
                refine g_if_le 167 166 C dX3_fillFrom_163 (by decide) rfl (by omega) (fun h163 => absurd h163 (by omega)) ?_
                intro h163
                exact g_vret C hr dX3_fillFrom_166 ⟨_, _, _, _, _, _, ⟨rfl, fl_up2 hb2 hf1 hf2 hd4 hR hR2⟩, rfl⟩
              · skip
                refine g_w (ws' := [(_, .inr (3, [_, _, _, _, _, _, _, _, _, _, _, _, _])), (_, .inr (1, [_, _, _, _])), (_, aI _ _ _), (_, .inr (2, [_, _, _])), (_, aI _ _ _), (_, aI _ _ _), (_, aI _ _ _), (_, aZ _ _ _), (_, aI _ _ _)]) [0, 1, 2, 3, 4] rfl rfl ?_
                refine g_aload_n 139 C 4 dX3_fillFrom_138 rfl rfl ?_
                refine g_get 142 C 0 5 3 iX3_fillFrom_X3 lX3_fillFrom_21 dX3_fillFrom_139 rfl rfl rfl (by decide) rfl ?_
                refine g_iload_n 143 C 1 dX3_fillFrom_142 rfl rfl ?_
                refine g_iconst 144 C dX3_fillFrom_143 rfl ?_
                refine g_bastore (ws' := [(_, .inr (3, [_, _, _, _, _, _, _, _, _, _, _, _, _])), (_, .inr (1, [_, _, _, _])), (_, aI _ _ _), (_, .inr (2, [_, _, _])), (_, aI _ _ _), (_, aI _ _ _), (_, aI _ _ _), (_, aZ _ _ _), (_, aI _ _ _)]) 145 C 7 dX3_fillFrom_144 rfl rfl (by omega) (by decide) rfl ?_
                refine g_aload_n 146 C 4 dX3_fillFrom_145 rfl rfl ?_
                refine g_get 149 C 0 10 3 iX3_fillFrom_X3 lX3_fillFrom_55 dX3_fillFrom_146 rfl rfl rfl (by decide) rfl ?_
                refine g_if_ne 166 152 C dX3_fillFrom_149 (by decide) rfl (by omega) (fun q => absurd q (by omega)) ?_
                intro _
                refine g_aload_n 153 C 4 dX3_fillFrom_152 rfl rfl ?_
                refine g_get 156 C 0 9 3 iX3_fillFrom_X3 lX3_fillFrom_80 dX3_fillFrom_153 rfl rfl rfl (by decide) rfl ?_
                refine g_if_eq 167 159 C dX3_fillFrom_156 (by decide) rfl (by omega) ?_ ?_
                · intro h156
                  refine g_iinc (lv' := [(4, _), (3, _), (2, _), (1, _), (0, _)]) 170 C 0 dX3_fillFrom_167 rfl rfl (by decide) rfl ?_
                  refine g_goto 65 C dX3_fillFrom_170 (by decide) ?_
                  exact g_w [0, 1, 2, 3, 4] rfl rfl (ih65 ((uI us2 i 0), ly2, wa2, fd2, tc2, (t + 1)) (by
            try dsimp only
            exact ⟨⟨by omega, uI_eq _ _ _⟩, fl_up3 (by omega) (by omega) (by omega) (by omega) hb2 hf3 hR1 hR2 hR3 hd4 hR4 hJ⟩) (by (try dsimp only); omega))
                · intro h156
                  refine g_aload_n 160 C 4 dX3_fillFrom_159 rfl rfl ?_
                  refine g_get 163 C 0 11 3 iX3_fillFrom_X3 lX3_fillFrom_58 dX3_fillFrom_160 rfl rfl rfl (by decide) rfl ?_
                  refine g_if_le 167 166 C dX3_fillFrom_163 (by decide) rfl (by omega) ?_ (fun h163 => absurd h163 (by omega))
                  intro h163
                  refine g_iinc (lv' := [(4, _), (3, _), (2, _), (1, _), (0, _)]) 170 C 0 dX3_fillFrom_167 rfl rfl (by decide) rfl ?_
                  refine g_goto 65 C dX3_fillFrom_170 (by decide) ?_
                  exact g_w [0, 1, 2, 3, 4] rfl rfl (ih65 ((uI us2 i 0), ly2, wa2, fd2, tc2, (t + 1)) (by
            try dsimp only
            exact ⟨⟨by omega, uI_eq _ _ _⟩, fl_up3 (by omega) (by omega) (by omega) (by omega) hb2 hf3 hR1 hR2 hR3 hd4 hR4 hJ⟩) (by (try dsimp only); omega))
        · intro h77
          refine g_aload_n 81 C 4 dX3_fillFrom_80 rfl rfl ?_
          refine g_iconst 82 C dX3_fillFrom_81 rfl ?_
          refine g_put (ws' := [(_, .inr (3, [_, _, _, _, _, _, _, _, _, _, _, _, _])), (_, .inr (1, [_, _, _, _])), (_, aI _ _ _), (_, .inr (2, [_, _, _])), (_, aI _ _ _), (_, aI _ _ _), (_, aI _ _ _), (_, aZ _ _ _), (_, aI _ _ _)]) 85 C 0 10 3 tyX3 tyX3_ok nmX3 iX3_fillFrom_X3 lX3_fillFrom_55 dX3_fillFrom_82 rfl rfl rfl (by decide) rfl (by decide) rfl (Nat.le_of_ble_eq_true rfl) rfl ?_
          exact g_vret C hr dX3_fillFrom_85 ⟨_, _, _, _, _, _, ⟨rfl, fl_spent (by omega) (by omega) (by omega) (by omega) (by omega) (by omega) hJ⟩, rfl⟩
    · intro h56
      refine g_goto 173 C dX3_fillFrom_59 (by decide) ?_
      refine g_iinc (lv' := [(3, _), (2, _), (1, _), (0, _)]) 176 C 0 dX3_fillFrom_173 rfl rfl (by decide) rfl ?_
      refine g_goto 45 C dX3_fillFrom_176 (by decide) ?_
      exact g_w [0, 1, 2, 3] rfl rfl (ih45 (us1, ly1, wa1, fd1, tc1, (i + 1)) (by
            try dsimp only
            exact ⟨by omega, by first | (rw [show (i + 1) * 4 - 1 = i * 4 + t - 1 by omega]; exact hJ) | exact fl_skip (by omega) (by omega) (by omega) (by assumption) hI⟩) (by (try dsimp only); omega))
theorem k_X3_fillFrom (E : gE) (l : Launch) : ∀ d : Nat, fillC E l d := by
  intro d
  induction d with
  | zero =>
    unfold fillC
    intros
    omega
  | succ d ih =>
    unfold fillC
    intro _ _ _ _ _ _ _ _ _ _ _ _ _ W h n k hs se pc tn sh fi wa us ly q0 u0 jo fo fd tc h1 h2 h3 h4 h5 h6 h7 h8 h9 h10 h11 h12 h13 h14 h15
    exact k_X3_fillFrom_s E l ih h1 (by omega) h3 h4 h5 h6 h7 h8 h9 h10 h11 h12 h13 h14 h15
end
section
theorem k_X3_fillFrom_e (E : gE) (l : Launch) (d : Nat) {a_L a_P a_R a_fi a_hs a_jl a_ly a_pc a_se a_sh a_tn a_us a_wa : Nat} {W h n k : Int} {hs se pc tn sh fi wa us ly q0 u0 : Int → Int} {jo fo fd tc : Int} (hB : 1 ≤ W ∧ W ≤ 5 ∧ 1 ≤ h ∧ h ≤ 5) (hk : 0 ≤ k ∧ k < W * h ∧ k + (d : Int) = W * h) (hse : ∀ p e : Int, 0 ≤ p ∧ p < W * h → 0 ≤ e ∧ e < 4 → se (p * 4 + e) = sdI W h p e) (hh : hB9 hs) (hn : 0 ≤ n ∧ n ≤ 25) (hpw : ∀ j : Int, 0 ≤ j ∧ j < n → (0 ≤ pc j ∧ pc j < W * h) ∧ 0 ≤ tn j ∧ tn j < 4) (hLY : ∀ j : Int, 0 ≤ j ∧ j < k → 0 ≤ ly j ∧ ly j < n * 4 ∧ FT W h hs pc tn ly j) (hSH : ∀ v d : Int, 0 ≤ v ∧ v < n * 4 → 0 ≤ d ∧ d < 4 → sh (v * 4 + d) = shV W h hs pc tn v d) (hFI : ∀ v d : Int, 0 ≤ v ∧ v < n * 4 → 0 ≤ d ∧ d < 4 → fi (v * 4 + d) = fiV W h hs pc tn v d) (hUS : ∀ j : Int, 0 ≤ j ∧ j < n → us j = 0 ∨ us j = 1) (hc : (0 ≤ fd ∧ fd ≤ tc ∧ tc ≤ 60000) ∧ (fo = 1 → fd = 0)) (hfo : fo = 0 ∨ fo = 1) (hq0 : ∀ j : Int, 0 ≤ j ∧ j < k → q0 j = ly j) (hq1 : q0 k = -1) (hu0 : ∀ j : Int, 0 ≤ j ∧ j < n → u0 j = us j) : gMet E l yX3_fillFrom wsX3_fillFrom (rmF d) 0 0 [.ref a_R, .int (iI k)] [(a_R, .inr (3, [.ref a_P, .ref a_L, .ref a_sh, .ref a_fi, .ref a_wa, .ref a_us, .ref a_ly, .ref a_jl, .int (iI jo), .int (iI fo), .int (iI 0), .int (iI fd), .int (iI tc)])), (a_P, .inr (1, [.ref a_hs, .ref a_se, .int (iI W), .int (iI h)])), (a_se, aI E 100 se), (a_L, .inr (2, [.ref a_pc, .ref a_tn, .int (iI n)])), (a_sh, aI E 400 sh), (a_fi, aI E 400 fi), (a_wa, aI E 100 wa), (a_us, aZ E 25 us), (a_ly, aI E 25 ly)] (fun v w => ∃ (us2 ly2 wa2 : Int → Int) (sp2 fd2 tc2 : Int), (v = none ∧ fillR (FT W h hs pc tn) n (W * h) fo k us ly wa (k, q0, u0, tc, fd) us2 ly2 wa2 sp2 fd2 tc2) ∧ w = [(a_R, .inr (3, [.ref a_P, .ref a_L, .ref a_sh, .ref a_fi, .ref a_wa, .ref a_us, .ref a_ly, .ref a_jl, .int (iI jo), .int (iI fo), .int (iI sp2), .int (iI fd2), .int (iI tc2)])), (a_P, .inr (1, [.ref a_hs, .ref a_se, .int (iI W), .int (iI h)])), (a_se, aI E 100 se), (a_L, .inr (2, [.ref a_pc, .ref a_tn, .int (iI n)])), (a_sh, aI E 400 sh), (a_fi, aI E 400 fi), (a_wa, aI E 100 wa2), (a_us, aZ E 25 us2), (a_ly, aI E 25 ly2)]) := by
  have q : fillC E l d := k_X3_fillFrom E l d
  unfold fillC at q
  exact q hB hk hse hh hn hpw hLY hSH hFI hUS hc hfo hq0 hq1 hu0
/-- how a run of the search ends, from its start -/
def runR (F : (Int → Int) → Int → Prop) (n N fo : Int) (ly2 : Int → Int) (sp2 fd2 tc2 : Int) : Prop :=
  (0 ≤ fd2 ∧ fd2 ≤ tc2 ∧ tc2 ≤ 60000) ∧
  ((sp2 = 1 ∧ ∃ (m : Nat) (q u : Int → Int), itS F n N fo m (0, (fun _ => -1), (fun _ => 0), 0, 0) = (-2, q, u, tc2, fd2))
  ∨ (sp2 = 0 ∧ fo = 1 ∧ fd2 = 1 ∧ (∃ (m : Nat) (q u : Int → Int), itS F n N fo m (0, (fun _ => -1), (fun _ => 0), 0, 0) = (-3, q, u, tc2, fd2) ∧ ∀ j, 0 ≤ j ∧ j < N → q j = ly2 j) ∧ ∀ j, 0 ≤ j ∧ j < N → 0 ≤ ly2 j ∧ ly2 j < 100)
  ∨ (sp2 = 0 ∧ (fo = 1 → fd2 = 0) ∧ ∃ (m : Nat) (q u : Int → Int), itS F n N fo m (0, (fun _ => -1), (fun _ => 0), 0, 0) = (-1, q, u, tc2, fd2)))
theorem runR_of {F : (Int → Int) → Int → Prop} {n N fo : Int} {us ly wa us2 ly2 wa2 : Int → Int} {sp2 fd2 tc2 : Int} (h : fillR F n N fo 0 us ly wa (0, (fun _ => -1), (fun _ => 0), 0, 0) us2 ly2 wa2 sp2 fd2 tc2) : runR F n N fo ly2 sp2 fd2 tc2 := by
  obtain ⟨hb, h | h | ⟨h1, h2, -, -, -, m, q, u, e, -⟩⟩ := h
  · exact ⟨hb, Or.inl h⟩
  · exact ⟨hb, Or.inr (Or.inl h)⟩
  · exact ⟨hb, Or.inr (Or.inr ⟨h1, h2, m, q, u, e⟩)⟩
theorem runR_sp {F : (Int → Int) → Int → Prop} {n N fo : Int} {ly2 : Int → Int} {sp2 fd2 tc2 : Int} (h : runR F n N fo ly2 sp2 fd2 tc2) : (sp2 = 0 ∨ sp2 = 1) ∧ 0 ≤ fd2 ∧ fd2 ≤ tc2 ∧ tc2 ≤ 60000 := by
  obtain ⟨hb, ⟨h, -⟩ | ⟨h, -⟩ | ⟨h, -⟩⟩ := h <;> exact ⟨by omega, hb⟩
theorem runR_fd {F : (Int → Int) → Int → Prop} {n N : Int} {ly2 : Int → Int} {sp2 fd2 tc2 : Int} (h : runR F n N 1 ly2 sp2 fd2 tc2) (h0 : sp2 = 0) : fd2 = 0 ∨ fd2 = 1 := by
  obtain ⟨hb, ⟨h, -⟩ | ⟨-, -, h, -⟩ | ⟨-, h, -⟩⟩ := h
  · omega
  · exact Or.inr h
  · exact Or.inl (h rfl)
theorem okN_sh {W h i : Int} {hs pc tn f f2 : Int → Int} (hi : 0 ≤ i) (hT : 0 ≤ tn i ∧ tn i < 4) (hF : ∀ v d : Int, 0 ≤ v ∧ v < i * 4 → 0 ≤ d ∧ d < 4 → f (v * 4 + d) = shV W h hs pc tn v d) (hA : okN (fun x => if sdI W h (pc i) x = -9 then -1 else coI W h hs (pc i) x) f f2 i (tn i) 4 0) : ∀ v d : Int, 0 ≤ v ∧ v < (i + 1) * 4 → 0 ≤ d ∧ d < 4 → f2 (v * 4 + d) = shV W h hs pc tn v d := by
  intro v d hv hd
  by_cases z : v < i * 4
  · rw [hA.2 _ (by omega)]; exact hF v d (by omega) hd
  · have e := okN_f hT (Int.le_refl _) hA (t := v % 4) (d := d) (by omega) hd
    rw [show i * 4 + v % 4 = v by omega] at e
    rw [e]
    unfold shV edI
    rw [show v / 4 = i by omega]
theorem okN_fi {W h i : Int} {hs pc tn f f2 : Int → Int} (hi : 0 ≤ i) (hT : 0 ≤ tn i ∧ tn i < 4) (hF : ∀ v d : Int, 0 ≤ v ∧ v < i * 4 → 0 ≤ d ∧ d < 4 → f (v * 4 + d) = fiV W h hs pc tn v d) (hA : okN (fun x => if sdI W h (pc i) x = -9 then -1 else maI W h hs (pc i) x) f f2 i (tn i) 4 0) : ∀ v d : Int, 0 ≤ v ∧ v < (i + 1) * 4 → 0 ≤ d ∧ d < 4 → f2 (v * 4 + d) = fiV W h hs pc tn v d := by
  intro v d hv hd
  by_cases z : v < i * 4
  · rw [hA.2 _ (by omega)]; exact hF v d (by omega) hd
  · have e := okN_f hT (Int.le_refl _) hA (t := v % 4) (d := d) (by omega) hd
    rw [show i * 4 + v % 4 = v by omega] at e
    rw [e]
    unfold fiV edI
    rw [show v / 4 = i by omega]
theorem cdX3_readEdges : yX3_readEdges.cls = RX3 ∧ yX3_readEdges.cls ≠ "java/lang/invoke/MethodHandle" ∧ yX3_readEdges.cls ≠ "java/lang/invoke/VarHandle" ∧ (parseMethodDescriptor yX3_readEdges.desc).map (fun d => d.parameters.length) = some 1 := by decide +kernel
theorem lX3_run_21 : Cond.fieldLink RX3 21 (TX3 5).1 (TX3 5).2.1 (TX3 5).2.2.1 ∈ wsX3_run := by decide +kernel
theorem lX3_run_35 : Cond.fieldLink RX3 35 (TX3 1).1 (TX3 1).2.1 (TX3 1).2.2.1 ∈ wsX3_run := by decide +kernel
theorem lX3_run_39 : Cond.fieldLink RX3 39 (TX3 12).1 (TX3 12).2.1 (TX3 12).2.2.1 ∈ wsX3_run := by decide +kernel
theorem lX3_run_55 : Cond.fieldLink RX3 55 (TX3 10).1 (TX3 10).2.1 (TX3 10).2.2.1 ∈ wsX3_run := by decide +kernel
theorem lX3_run_58 : Cond.fieldLink RX3 58 (TX3 11).1 (TX3 11).2.1 (TX3 11).2.2.1 ∈ wsX3_run := by decide +kernel
theorem lX3_run_80 : Cond.fieldLink RX3 80 (TX3 9).1 (TX3 9).2.1 (TX3 9).2.2.1 ∈ wsX3_run := by decide +kernel
theorem iX3_run_X3 : ∀ w ∈ u_ws RX3 TX3 13, w ∈ wsX3_run := by decide +kernel
set_option maxHeartbeats 4000000 in
set_option maxRecDepth 100000 in
theorem k_X3_run (E : gE) (l : Launch) {a_L a_P a_R a_fi a_hs a_jl a_ly a_pc a_se a_sh a_tn a_us a_wa : Nat} {W h n b : Int} {hs se pc tn sh fi wa us ly : Int → Int} {jo fo sp fd tc : Int} (hB : 1 ≤ W ∧ W ≤ 5 ∧ 1 ≤ h ∧ h ≤ 5) (hse : ∀ p e : Int, 0 ≤ p ∧ p < W * h → 0 ≤ e ∧ e < 4 → se (p * 4 + e) = sdI W h p e) (hh : hB9 hs) (hn : 0 ≤ n ∧ n ≤ 25) (hpw : ∀ j : Int, 0 ≤ j ∧ j < n → (0 ≤ pc j ∧ pc j < W * h) ∧ 0 ≤ tn j ∧ tn j < 4) (hb : b = 0 ∨ b = 1) : gMet E l yX3_run wsX3_run { frames := 40, cells := 0, slots := 0, locals := 1300 } 0 0 [.ref a_R, .int (iI b)] [(a_R, .inr (3, [.ref a_P, .ref a_L, .ref a_sh, .ref a_fi, .ref a_wa, .ref a_us, .ref a_ly, .ref a_jl, .int (iI jo), .int (iI fo), .int (iI sp), .int (iI fd), .int (iI tc)])), (a_P, .inr (1, [.ref a_hs, .ref a_se, .int (iI W), .int (iI h)])), (a_hs, aI E 200 hs), (a_se, aI E 100 se), (a_L, .inr (2, [.ref a_pc, .ref a_tn, .int (iI n)])), (a_pc, aI E 25 pc), (a_tn, aI E 25 tn), (a_sh, aI E 400 sh), (a_fi, aI E 400 fi), (a_wa, aI E 100 wa), (a_us, aZ E 25 us), (a_ly, aI E 25 ly)] (fun v w => ∃ (sh2 fi2 wa2 us2 ly2 : Int → Int) (sp2 fd2 tc2 : Int), (v = none ∧ runR (FT W h hs pc tn) n (W * h) b ly2 sp2 fd2 tc2) ∧ w = [(a_R, .inr (3, [.ref a_P, .ref a_L, .ref a_sh, .ref a_fi, .ref a_wa, .ref a_us, .ref a_ly, .ref a_jl, .int (iI jo), .int (iI b), .int (iI sp2), .int (iI fd2), .int (iI tc2)])), (a_P, .inr (1, [.ref a_hs, .ref a_se, .int (iI W), .int (iI h)])), (a_hs, aI E 200 hs), (a_se, aI E 100 se), (a_L, .inr (2, [.ref a_pc, .ref a_tn, .int (iI n)])), (a_pc, aI E 25 pc), (a_tn, aI E 25 tn), (a_sh, aI E 400 sh2), (a_fi, aI E 400 fi2), (a_wa, aI E 100 wa2), (a_us, aZ E 25 us2), (a_ly, aI E 25 ly2)]) := by
  refine g_start (cc := cX3_run) (maxL := 3) (ret := none) (by decide) rfl (Nat.le_of_ble_eq_true rfl) ?_
  intro p_ e_ s_ m_ args_ below_ meth_ c_ A_ C hr hnm
  have hn := nsd_b hB
  refine g_iconst 1 C dX3_run_0 rfl ?_
  refine g_istore_n (lv' := [(2, _), (0, _), (1, _)]) 2 C dX3_run_1 rfl rfl (by decide) rfl ?_
  refine g_loop (α := Int) (fun zz => [(a_R, .inr (3, [.ref a_P, .ref a_L, .ref a_sh, .ref a_fi, .ref a_wa, .ref a_us, .ref a_ly, .ref a_jl, .int (iI jo), .int (iI fo), .int (iI sp), .int (iI fd), .int (iI tc)])), (a_P, .inr (1, [.ref a_hs, .ref a_se, .int (iI W), .int (iI h)])), (a_hs, aI E 200 hs), (a_se, aI E 100 se), (a_L, .inr (2, [.ref a_pc, .ref a_tn, .int (iI n)])), (a_pc, aI E 25 pc), (a_tn, aI E 25 tn), (a_sh, aI E 400 sh), (a_fi, aI E 400 fi), (a_wa, aI E 100 wa), (a_us, aZ E 25 (zrI us zz)), (a_ly, aI E 25 ly)]) (fun zz => [(2, .int (iI zz)), (1, .int (iI b)), (0, .ref a_R)]) (fun zz => 0 ≤ zz ∧ zz ≤ 25) (fun zz => (25 - zz).toNat) (0) (by (try dsimp only); omega) [0, 2, 1] (by rw [zrI_0]) rfl ?_
  rintro j hI ih2
  try dsimp only at hI ih2 ⊢
  obtain ⟨hj0, hj2⟩ := hI
  refine g_iload_n 3 C 0 dX3_run_2 rfl rfl ?_
  refine g_aload_n 4 C 2 dX3_run_3 rfl rfl ?_
  refine g_get 7 C 0 5 3 iX3_run_X3 lX3_run_21 dX3_run_4 rfl rfl rfl (by decide) rfl ?_
  refine g_alenZ 8 C 10 dX3_run_7 rfl rfl ?_
  refine g_icmp_ge 24 11 C dX3_run_8 (by decide) rfl (by omega) ?_ ?_
  · intro h8
    refine g_iconst 25 C dX3_run_24 rfl ?_
    refine g_istore_n (lv' := [(2, _), (1, _), (0, _)]) 26 C dX3_run_25 rfl rfl (by decide) rfl ?_
    refine g_loop (α := (Int → Int) × (Int → Int) × Int) (fun zz => [(a_R, .inr (3, [.ref a_P, .ref a_L, .ref a_sh, .ref a_fi, .ref a_wa, .ref a_us, .ref a_ly, .ref a_jl, .int (iI jo), .int (iI fo), .int (iI sp), .int (iI fd), .int (iI tc)])), (a_P, .inr (1, [.ref a_hs, .ref a_se, .int (iI W), .int (iI h)])), (a_hs, aI E 200 hs), (a_se, aI E 100 se), (a_L, .inr (2, [.ref a_pc, .ref a_tn, .int (iI n)])), (a_pc, aI E 25 pc), (a_tn, aI E 25 tn), (a_sh, aI E 400 zz.1), (a_fi, aI E 400 zz.2.1), (a_wa, aI E 100 wa), (a_us, aZ E 25 (zrI us 25)), (a_ly, aI E 25 ly)]) (fun zz => [(2, .int (iI zz.2.2)), (1, .int (iI b)), (0, .ref a_R)]) (fun zz => (0 ≤ zz.2.2 ∧ zz.2.2 ≤ n) ∧ (∀ v d : Int, 0 ≤ v ∧ v < zz.2.2 * 4 → 0 ≤ d ∧ d < 4 → zz.1 (v * 4 + d) = shV W h hs pc tn v d) ∧ (∀ v d : Int, 0 ≤ v ∧ v < zz.2.2 * 4 → 0 ≤ d ∧ d < 4 → zz.2.1 (v * 4 + d) = fiV W h hs pc tn v d)) (fun zz => (n - zz.2.2).toNat) (sh, fi, 0) (by
            try dsimp only
            exact ⟨by omega, fun v d hv => by omega, fun v d hv => by omega⟩) [0, 1, 2] (by rw [show j = 25 by omega]) rfl ?_
    rintro ⟨f, g, i⟩ hI ih26
    try dsimp only at hI ih26 ⊢
    obtain ⟨hi, hF, hG⟩ := hI
    refine g_iload_n 27 C 0 dX3_run_26 rfl rfl ?_
    refine g_aload_n 28 C 2 dX3_run_27 rfl rfl ?_
    refine g_get 31 C 0 1 3 iX3_run_X3 lX3_run_35 dX3_run_28 rfl rfl rfl (by decide) rfl ?_
    refine g_callVF 34 C [4] dX3_run_31 rfl (k_X2_size E l  ) (cwV 0 C.2.2.2.2.1 gX3_run_X2_size rfl rfl rfl cdX2_size ⟨Nat.le_of_ble_eq_true rfl, Nat.le_of_ble_eq_true rfl⟩) rfl rfl rfl rfl (Nat.le_of_ble_eq_true rfl) 4 2 rfl rfl rfl ⟨Nat.le_of_ble_eq_true rfl, Nat.le_of_ble_eq_true rfl⟩ ?_
    refine g_icmp_ge 48 37 C dX3_run_34 (by decide) rfl (by omega) ?_ ?_
    · intro h34
      refine g_aload_n 49 C 2 dX3_run_48 rfl rfl ?_
      refine g_iload_n 50 C 1 dX3_run_49 rfl rfl ?_
      refine g_put (ws' := [(_, .inr (3, [_, _, _, _, _, _, _, _, _, _, _, _, _])), (_, .inr (1, [_, _, _, _])), (_, aI _ _ _), (_, aI _ _ _), (_, .inr (2, [_, _, _])), (_, aI _ _ _), (_, aI _ _ _), (_, aI _ _ _), (_, aI _ _ _), (_, aI _ _ _), (_, aZ _ _ _), (_, aI _ _ _)]) 53 C 0 9 3 tyX3 tyX3_ok nmX3 iX3_run_X3 lX3_run_80 dX3_run_50 rfl rfl rfl (by decide) rfl (by rcases hb with rfl | rfl <;> rfl) (by rcases hb with rfl | rfl <;> rfl) (Nat.le_of_ble_eq_true rfl) rfl ?_
      refine g_aload_n 54 C 2 dX3_run_53 rfl rfl ?_
      refine g_iconst 55 C dX3_run_54 rfl ?_
      refine g_put (ws' := [(_, .inr (3, [_, _, _, _, _, _, _, _, _, _, _, _, _])), (_, .inr (1, [_, _, _, _])), (_, aI _ _ _), (_, aI _ _ _), (_, .inr (2, [_, _, _])), (_, aI _ _ _), (_, aI _ _ _), (_, aI _ _ _), (_, aI _ _ _), (_, aI _ _ _), (_, aZ _ _ _), (_, aI _ _ _)]) 58 C 0 10 3 tyX3 tyX3_ok nmX3 iX3_run_X3 lX3_run_55 dX3_run_55 rfl rfl rfl (by decide) rfl (by decide) rfl (Nat.le_of_ble_eq_true rfl) rfl ?_
      refine g_aload_n 59 C 2 dX3_run_58 rfl rfl ?_
      refine g_iconst 60 C dX3_run_59 rfl ?_
      refine g_put (ws' := [(_, .inr (3, [_, _, _, _, _, _, _, _, _, _, _, _, _])), (_, .inr (1, [_, _, _, _])), (_, aI _ _ _), (_, aI _ _ _), (_, .inr (2, [_, _, _])), (_, aI _ _ _), (_, aI _ _ _), (_, aI _ _ _), (_, aI _ _ _), (_, aI _ _ _), (_, aZ _ _ _), (_, aI _ _ _)]) 63 C 0 11 3 tyX3 tyX3_ok nmX3 iX3_run_X3 lX3_run_58 dX3_run_60 rfl rfl rfl (by decide) rfl rfl rfl (Nat.le_of_ble_eq_true rfl) rfl ?_
      refine g_aload_n 64 C 2 dX3_run_63 rfl rfl ?_
      refine g_iconst 65 C dX3_run_64 rfl ?_
      refine g_put (ws' := [(_, .inr (3, [_, _, _, _, _, _, _, _, _, _, _, _, _])), (_, .inr (1, [_, _, _, _])), (_, aI _ _ _), (_, aI _ _ _), (_, .inr (2, [_, _, _])), (_, aI _ _ _), (_, aI _ _ _), (_, aI _ _ _), (_, aI _ _ _), (_, aI _ _ _), (_, aZ _ _ _), (_, aI _ _ _)]) 68 C 0 12 3 tyX3 tyX3_ok nmX3 iX3_run_X3 lX3_run_39 dX3_run_65 rfl rfl rfl (by decide) rfl rfl rfl (Nat.le_of_ble_eq_true rfl) rfl ?_
      refine g_aload_n 69 C 2 dX3_run_68 rfl rfl ?_
      refine g_iconst 70 C dX3_run_69 rfl ?_
      refine g_callV 73 C [0, 1, 3, 4, 7, 8, 9, 10, 11] dX3_run_70 rfl (k_X3_fillFrom_e E l (W * h).toNat (q0 := fun _ => -1) (u0 := fun _ => 0) (by first | assumption | omega) (by omega) (by first | assumption | omega) (by first | assumption | omega) (by first | assumption | omega) (by first | assumption | omega) (fun j hj => absurd hj (by omega)) (fun v d hv hd => hF v d (by omega) hd) (fun v d hv hd => hG v d (by omega) hd) (fun j hj => Or.inl (if_pos (by omega))) ⟨by omega, fun _ => rfl⟩ hb (fun j hj => absurd hj (by omega)) rfl (fun j hj => (if_pos (by omega)).symm)) (cwV 1 C.2.2.2.2.1 gX3_run_X3_fillFrom rfl rfl rfl cdX3_fillFrom ⟨by show (W * h).toNat + 4 + 1 ≤ 40; omega, by show 8 + (5 + 11) + ((W * h).toNat * 40 + 200) ≤ 1300; omega⟩) rfl rfl rfl rfl (Nat.le_of_ble_eq_true rfl) 0 3 rfl rfl rfl ⟨Nat.le_of_ble_eq_true rfl, Nat.le_of_ble_eq_true rfl⟩ (fun v w q => by obtain ⟨_, _, _, _, _, _, -, rfl⟩ := q; rfl) ?_
      rintro _ _ ⟨us2, ly2, wa2, sp2, fd2, tc2, ⟨rfl, hR⟩, rfl⟩
      refine g_w (ws' := [(_, .inr (3, [_, _, _, _, _, _, _, _, _, _, _, _, _])), (_, .inr (1, [_, _, _, _])), (_, aI _ _ _), (_, aI _ _ _), (_, .inr (2, [_, _, _])), (_, aI _ _ _), (_, aI _ _ _), (_, aI _ _ _), (_, aI _ _ _), (_, aI _ _ _), (_, aZ _ _ _), (_, aI _ _ _)]) [0, 1, 2] rfl rfl ?_
      exact g_vret C hr dX3_run_73 ⟨_, _, _, _, _, _, _, _, ⟨rfl, runR_of hR⟩, rfl⟩
    · intro h34
      refine g_aload_n 38 C 2 dX3_run_37 rfl rfl ?_
      refine g_iload_n 39 C 0 dX3_run_38 rfl rfl ?_
      refine g_callV 42 C [0, 1, 2, 3, 4, 5, 6, 7, 8] dX3_run_39 rfl (k_X3_readEdges E l  (by first | assumption | omega) (by first | assumption | omega) (by first | assumption | omega) (by first | assumption | omega) (by first | assumption | omega) (by first | assumption | omega)) (cwV 1 C.2.2.2.2.1 gX3_run_X3_readEdges rfl rfl rfl cdX3_readEdges ⟨Nat.le_of_ble_eq_true rfl, Nat.le_of_ble_eq_true rfl⟩) rfl rfl rfl rfl (Nat.le_of_ble_eq_true rfl) 0 3 rfl rfl rfl ⟨Nat.le_of_ble_eq_true rfl, Nat.le_of_ble_eq_true rfl⟩ (fun v w q => by obtain ⟨f, g, -, rfl⟩ := q; rfl) ?_
      rintro _ _ ⟨f2, g2, ⟨rfl, hA, hA2⟩, rfl⟩
      refine g_w (ws' := [(_, .inr (3, [_, _, _, _, _, _, _, _, _, _, _, _, _])), (_, .inr (1, [_, _, _, _])), (_, aI _ _ _), (_, aI _ _ _), (_, .inr (2, [_, _, _])), (_, aI _ _ _), (_, aI _ _ _), (_, aI _ _ _), (_, aI _ _ _), (_, aI _ _ _), (_, aZ _ _ _), (_, aI _ _ _)]) [0, 1, 2] rfl rfl ?_
      refine g_iinc (lv' := [(2, _), (1, _), (0, _)]) 45 C 0 dX3_run_42 rfl rfl (by decide) rfl ?_
      refine g_goto 26 C dX3_run_45 (by decide) ?_
      exact g_w [0, 1, 2] rfl rfl (ih26 (f2, g2, (i + 1)) (by
            try dsimp only
            exact ⟨by omega, okN_sh (by omega) (hpw i (by omega)).2 hF hA, okN_fi (by omega) (hpw i (by omega)).2 hG hA2⟩) (by (try dsimp only); omega))
  · intro h8
    refine g_aload_n 12 C 2 dX3_run_11 rfl rfl ?_
    refine g_get 15 C 0 5 3 iX3_run_X3 lX3_run_21 dX3_run_12 rfl rfl rfl (by decide) rfl ?_
    refine g_iload_n 16 C 0 dX3_run_15 rfl rfl ?_
    refine g_iconst 17 C dX3_run_16 rfl ?_
    refine g_bastore (ws' := [(_, .inr (3, [_, _, _, _, _, _, _, _, _, _, _, _, _])), (_, .inr (1, [_, _, _, _])), (_, aI _ _ _), (_, aI _ _ _), (_, .inr (2, [_, _, _])), (_, aI _ _ _), (_, aI _ _ _), (_, aI _ _ _), (_, aI _ _ _), (_, aI _ _ _), (_, aZ _ _ _), (_, aI _ _ _)]) 18 C 10 dX3_run_17 rfl rfl (by omega) (by decide) rfl ?_
    refine g_iinc (lv' := [(2, _), (1, _), (0, _)]) 21 C 0 dX3_run_18 rfl rfl (by decide) rfl ?_
    refine g_goto 2 C dX3_run_21 (by decide) ?_
    exact g_w [0, 1, 2] (by (try dsimp only); rw [← zrI_s us hj0]) rfl (ih2 ((j + 1)) (by (try dsimp only); omega) (by (try dsimp only); omega))
theorem cdX3_run : yX3_run.cls = RX3 ∧ yX3_run.cls ≠ "java/lang/invoke/MethodHandle" ∧ yX3_run.cls ≠ "java/lang/invoke/VarHandle" ∧ (parseMethodDescriptor yX3_run.desc).map (fun d => d.parameters.length) = some 1 := by decide +kernel
theorem lX3_countWays_55 : Cond.fieldLink RX3 55 (TX3 10).1 (TX3 10).2.1 (TX3 10).2.2.1 ∈ wsX3_countWays := by decide +kernel
theorem lX3_countWays_58 : Cond.fieldLink RX3 58 (TX3 11).1 (TX3 11).2.1 (TX3 11).2.2.1 ∈ wsX3_countWays := by decide +kernel
theorem iX3_countWays_X3 : ∀ w ∈ u_ws RX3 TX3 13, w ∈ wsX3_countWays := by decide +kernel
set_option maxHeartbeats 4000000 in
set_option maxRecDepth 100000 in
theorem k_X3_countWays (E : gE) (l : Launch) {a_L a_P a_R a_fi a_hs a_jl a_ly a_pc a_se a_sh a_tn a_us a_wa : Nat} {W h n : Int} {hs se pc tn sh fi wa us ly : Int → Int} {jo fo sp fd tc : Int} (hB : 1 ≤ W ∧ W ≤ 5 ∧ 1 ≤ h ∧ h ≤ 5) (hse : ∀ p e : Int, 0 ≤ p ∧ p < W * h → 0 ≤ e ∧ e < 4 → se (p * 4 + e) = sdI W h p e) (hh : hB9 hs) (hn : 0 ≤ n ∧ n ≤ 25) (hpw : ∀ j : Int, 0 ≤ j ∧ j < n → (0 ≤ pc j ∧ pc j < W * h) ∧ 0 ≤ tn j ∧ tn j < 4) : gMet E l yX3_countWays wsX3_countWays { frames := 41, cells := 0, slots := 0, locals := 1322 } 0 0 [.ref a_R] [(a_R, .inr (3, [.ref a_P, .ref a_L, .ref a_sh, .ref a_fi, .ref a_wa, .ref a_us, .ref a_ly, .ref a_jl, .int (iI jo), .int (iI fo), .int (iI sp), .int (iI fd), .int (iI tc)])), (a_P, .inr (1, [.ref a_hs, .ref a_se, .int (iI W), .int (iI h)])), (a_hs, aI E 200 hs), (a_se, aI E 100 se), (a_L, .inr (2, [.ref a_pc, .ref a_tn, .int (iI n)])), (a_pc, aI E 25 pc), (a_tn, aI E 25 tn), (a_sh, aI E 400 sh), (a_fi, aI E 400 fi), (a_wa, aI E 100 wa), (a_us, aZ E 25 us), (a_ly, aI E 25 ly)] (fun v w => ∃ (sh2 fi2 wa2 us2 ly2 : Int → Int) (sp2 fd2 tc2 : Int), (v = some (.int (iI (if sp2 = 1 then -6 else fd2))) ∧ runR (FT W h hs pc tn) n (W * h) 0 ly2 sp2 fd2 tc2) ∧ w = [(a_R, .inr (3, [.ref a_P, .ref a_L, .ref a_sh, .ref a_fi, .ref a_wa, .ref a_us, .ref a_ly, .ref a_jl, .int (iI jo), .int (iI 0), .int (iI sp2), .int (iI fd2), .int (iI tc2)])), (a_P, .inr (1, [.ref a_hs, .ref a_se, .int (iI W), .int (iI h)])), (a_hs, aI E 200 hs), (a_se, aI E 100 se), (a_L, .inr (2, [.ref a_pc, .ref a_tn, .int (iI n)])), (a_pc, aI E 25 pc), (a_tn, aI E 25 tn), (a_sh, aI E 400 sh2), (a_fi, aI E 400 fi2), (a_wa, aI E 100 wa2), (a_us, aZ E 25 us2), (a_ly, aI E 25 ly2)]) := by
  refine g_start (cc := cX3_countWays) (maxL := 1) (ret := (some .int)) (by decide) rfl (Nat.le_of_ble_eq_true rfl) ?_
  intro p_ e_ s_ m_ args_ below_ meth_ c_ A_ C hr hnm
  refine g_aload_n 1 C 0 dX3_countWays_0 rfl rfl ?_
  refine g_iconst 2 C dX3_countWays_1 rfl ?_
  refine g_callV 5 C [0, 1, 2, 3, 4, 5, 6, 7, 8, 9, 10, 11] dX3_countWays_2 rfl (k_X3_run E l  (by first | assumption | omega) (by first | assumption | omega) (by first | assumption | omega) (by first | assumption | omega) (by first | assumption | omega) (by omega)) (cwV 1 C.2.2.2.2.1 gX3_countWays_X3_run rfl rfl rfl cdX3_run ⟨Nat.le_of_ble_eq_true rfl, Nat.le_of_ble_eq_true rfl⟩) rfl rfl rfl rfl (Nat.le_of_ble_eq_true rfl) 0 3 rfl rfl rfl ⟨Nat.le_of_ble_eq_true rfl, Nat.le_of_ble_eq_true rfl⟩ (fun v w q => by obtain ⟨_, _, _, _, _, _, _, _, -, rfl⟩ := q; rfl) ?_
  rintro _ _ ⟨sh2, fi2, wa2, us2, ly2, sp2, fd2, tc2, ⟨rfl, hR⟩, rfl⟩
  refine g_w (ws' := [(_, .inr (3, [_, _, _, _, _, _, _, _, _, _, _, _, _])), (_, .inr (1, [_, _, _, _])), (_, aI _ _ _), (_, aI _ _ _), (_, .inr (2, [_, _, _])), (_, aI _ _ _), (_, aI _ _ _), (_, aI _ _ _), (_, aI _ _ _), (_, aI _ _ _), (_, aZ _ _ _), (_, aI _ _ _)]) [0] rfl rfl ?_
  refine g_aload_n 6 C 0 dX3_countWays_5 rfl rfl ?_
  refine g_get 9 C 0 10 3 iX3_countWays_X3 lX3_countWays_55 dX3_countWays_6 rfl rfl rfl (by decide) rfl ?_
  have hs2 := runR_sp hR
  refine g_if_eq 17 12 C dX3_countWays_9 (by decide) rfl (by omega) ?_ ?_
  · intro h9
    refine g_aload_n 18 C 0 dX3_countWays_17 rfl rfl ?_
    refine g_get 21 C 0 11 3 iX3_countWays_X3 lX3_countWays_58 dX3_countWays_18 rfl rfl rfl (by decide) rfl ?_
    exact g_iret C hr dX3_countWays_21 ⟨_, _, _, _, _, _, _, _, ⟨g_ri (by first | exact (if_pos (by omega)).symm | exact (if_neg (by omega)).symm), hR⟩, rfl⟩
  · intro h9
    refine g_bipush 14 C dX3_countWays_12 rfl (by decide) ?_
    refine g_goto 21 C dX3_countWays_14 (by decide) ?_
    exact g_iret C hr dX3_countWays_21 ⟨_, _, _, _, _, _, _, _, ⟨g_ri (by first | exact (if_pos (by omega)).symm | exact (if_neg (by omega)).symm), hR⟩, rfl⟩
theorem lX3_findFirst_25 : Cond.fieldLink RX3 25 (TX3 6).1 (TX3 6).2.1 (TX3 6).2.2.1 ∈ wsX3_findFirst := by decide +kernel
theorem lX3_findFirst_28 : Cond.fieldLink RX3 28 (TX3 7).1 (TX3 7).2.1 (TX3 7).2.2.1 ∈ wsX3_findFirst := by decide +kernel
theorem lX3_findFirst_31 : Cond.fieldLink RX3 31 (TX3 0).1 (TX3 0).2.1 (TX3 0).2.2.1 ∈ wsX3_findFirst := by decide +kernel
theorem lX3_findFirst_43 : Cond.fieldLink RX3 43 (TX3 8).1 (TX3 8).2.1 (TX3 8).2.2.1 ∈ wsX3_findFirst := by decide +kernel
theorem lX3_findFirst_55 : Cond.fieldLink RX3 55 (TX3 10).1 (TX3 10).2.1 (TX3 10).2.2.1 ∈ wsX3_findFirst := by decide +kernel
theorem lX3_findFirst_58 : Cond.fieldLink RX3 58 (TX3 11).1 (TX3 11).2.1 (TX3 11).2.2.1 ∈ wsX3_findFirst := by decide +kernel
theorem iX3_findFirst_X3 : ∀ w ∈ u_ws RX3 TX3 13, w ∈ wsX3_findFirst := by decide +kernel
set_option maxHeartbeats 4000000 in
set_option maxRecDepth 100000 in
theorem k_X3_findFirst (E : gE) (l : Launch) {a_L a_P a_R a_fi a_hs a_jl a_ly a_pc a_se a_sh a_tn a_us a_wa : Nat} {W h n : Int} {hs se pc tn sh fi wa us ly : Int → Int} {jo fo sp fd tc : Int} {jl : Int → Int} (hB : 1 ≤ W ∧ W ≤ 5 ∧ 1 ≤ h ∧ h ≤ 5) (hse : ∀ p e : Int, 0 ≤ p ∧ p < W * h → 0 ≤ e ∧ e < 4 → se (p * 4 + e) = sdI W h p e) (hh : hB9 hs) (hn : 0 ≤ n ∧ n ≤ 25) (hpw : ∀ j : Int, 0 ≤ j ∧ j < n → (0 ≤ pc j ∧ pc j < W * h) ∧ 0 ≤ tn j ∧ tn j < 4) : gMet E l yX3_findFirst wsX3_findFirst { frames := 41, cells := 0, slots := 0, locals := 1322 } 0 0 [.ref a_R] [(a_R, .inr (3, [.ref a_P, .ref a_L, .ref a_sh, .ref a_fi, .ref a_wa, .ref a_us, .ref a_ly, .ref a_jl, .int (iI jo), .int (iI fo), .int (iI sp), .int (iI fd), .int (iI tc)])), (a_P, .inr (1, [.ref a_hs, .ref a_se, .int (iI W), .int (iI h)])), (a_hs, aI E 200 hs), (a_se, aI E 100 se), (a_L, .inr (2, [.ref a_pc, .ref a_tn, .int (iI n)])), (a_pc, aI E 25 pc), (a_tn, aI E 25 tn), (a_sh, aI E 400 sh), (a_fi, aI E 400 fi), (a_wa, aI E 100 wa), (a_us, aZ E 25 us), (a_ly, aI E 25 ly), (a_jl, aI E 25 jl)] (fun v w => ∃ (sh2 fi2 wa2 us2 ly2 : Int → Int) (sp2 fd2 tc2 : Int) (r jo2 : Int) (jl2 : Int → Int), (v = some (.int (iI r)) ∧ runR (FT W h hs pc tn) n (W * h) 1 ly2 sp2 fd2 tc2 ∧ ((sp2 = 1 ∧ r = -6 ∧ jo2 = jo ∧ jl2 = jl) ∨ (sp2 = 0 ∧ r = 0 ∧ fd2 = 0 ∧ jo2 = 0 ∧ jl2 = jl) ∨ (sp2 = 0 ∧ r = 1 ∧ fd2 = 1 ∧ jo2 = 1 ∧ ∀ j : Int, 0 ≤ j ∧ j < W * h → jl2 j = ly2 j))) ∧ w = [(a_R, .inr (3, [.ref a_P, .ref a_L, .ref a_sh, .ref a_fi, .ref a_wa, .ref a_us, .ref a_ly, .ref a_jl, .int (iI jo2), .int (iI 1), .int (iI sp2), .int (iI fd2), .int (iI tc2)])), (a_P, .inr (1, [.ref a_hs, .ref a_se, .int (iI W), .int (iI h)])), (a_hs, aI E 200 hs), (a_se, aI E 100 se), (a_L, .inr (2, [.ref a_pc, .ref a_tn, .int (iI n)])), (a_pc, aI E 25 pc), (a_tn, aI E 25 tn), (a_sh, aI E 400 sh2), (a_fi, aI E 400 fi2), (a_wa, aI E 100 wa2), (a_us, aZ E 25 us2), (a_ly, aI E 25 ly2), (a_jl, aI E 25 jl2)]) := by
  refine g_start (cc := cX3_findFirst) (maxL := 2) (ret := (some .int)) (by decide) rfl (Nat.le_of_ble_eq_true rfl) ?_
  intro p_ e_ s_ m_ args_ below_ meth_ c_ A_ C hr hnm
  have hn := nsd_b hB
  refine g_aload_n 1 C 0 dX3_findFirst_0 rfl rfl ?_
  refine g_iconst 2 C dX3_findFirst_1 rfl ?_
  refine g_callV 5 C [0, 1, 2, 3, 4, 5, 6, 7, 8, 9, 10, 11] dX3_findFirst_2 rfl (k_X3_run E l  (by first | assumption | omega) (by first | assumption | omega) (by first | assumption | omega) (by first | assumption | omega) (by first | assumption | omega) (by omega)) (cwV 1 C.2.2.2.2.1 gX3_findFirst_X3_run rfl rfl rfl cdX3_run ⟨Nat.le_of_ble_eq_true rfl, Nat.le_of_ble_eq_true rfl⟩) rfl rfl rfl rfl (Nat.le_of_ble_eq_true rfl) 0 3 rfl rfl rfl ⟨Nat.le_of_ble_eq_true rfl, Nat.le_of_ble_eq_true rfl⟩ (fun v w q => by obtain ⟨_, _, _, _, _, _, _, _, -, rfl⟩ := q; rfl) ?_
  rintro _ _ ⟨sh2, fi2, wa2, us2, ly2, sp2, fd2, tc2, ⟨rfl, hR⟩, rfl⟩
  refine g_w (ws' := [(_, .inr (3, [_, _, _, _, _, _, _, _, _, _, _, _, _])), (_, .inr (1, [_, _, _, _])), (_, aI _ _ _), (_, aI _ _ _), (_, .inr (2, [_, _, _])), (_, aI _ _ _), (_, aI _ _ _), (_, aI _ _ _), (_, aI _ _ _), (_, aI _ _ _), (_, aZ _ _ _), (_, aI _ _ _), (_, aI _ _ _)]) [0] rfl rfl ?_
  refine g_aload_n 6 C 0 dX3_findFirst_5 rfl rfl ?_
  refine g_get 9 C 0 10 3 iX3_findFirst_X3 lX3_findFirst_55 dX3_findFirst_6 rfl rfl rfl (by decide) rfl ?_
  have hs2 := runR_sp hR
  refine g_if_eq 15 12 C dX3_findFirst_9 (by decide) rfl (by omega) ?_ ?_
  · intro h9
    refine g_aload_n 16 C 0 dX3_findFirst_15 rfl rfl ?_
    refine g_aload_n 17 C 0 dX3_findFirst_16 rfl rfl ?_
    have hs3 := runR_fd hR (by omega)
    refine g_get 20 C 0 11 3 iX3_findFirst_X3 lX3_findFirst_58 dX3_findFirst_17 rfl rfl rfl (by decide) rfl ?_
    refine g_if_le 27 23 C dX3_findFirst_20 (by decide) rfl (by omega) ?_ ?_
    · intro h20
      refine g_iconst 28 C dX3_findFirst_27 rfl ?_
      refine g_put (ws' := [(_, .inr (3, [_, _, _, _, _, _, _, _, _, _, _, _, _])), (_, .inr (1, [_, _, _, _])), (_, aI _ _ _), (_, aI _ _ _), (_, .inr (2, [_, _, _])), (_, aI _ _ _), (_, aI _ _ _), (_, aI _ _ _), (_, aI _ _ _), (_, aI _ _ _), (_, aZ _ _ _), (_, aI _ _ _), (_, aI _ _ _)]) 31 C 0 8 3 tyX3 tyX3_ok nmX3 iX3_findFirst_X3 lX3_findFirst_43 dX3_findFirst_28 rfl rfl rfl (by decide) rfl (by decide) rfl (Nat.le_of_ble_eq_true rfl) rfl ?_
      refine g_iconst 32 C dX3_findFirst_31 rfl ?_
      refine g_istore_n (lv' := [(1, _), (0, _)]) 33 C dX3_findFirst_32 rfl rfl (by decide) rfl ?_
      refine g_aload_n 34 C 1 dX3_findFirst_33 rfl rfl ?_
      refine g_get 37 C 0 8 3 iX3_findFirst_X3 lX3_findFirst_43 dX3_findFirst_34 rfl rfl rfl (by decide) rfl ?_
      refine g_if_eq 73 40 C dX3_findFirst_37 (by decide) rfl (by omega) ?_ (fun q => absurd q (by omega))
      intro _
      refine g_aload_n 74 C 1 dX3_findFirst_73 rfl rfl ?_
      refine g_get 77 C 0 11 3 iX3_findFirst_X3 lX3_findFirst_58 dX3_findFirst_74 rfl rfl rfl (by decide) rfl ?_
      exact g_iret C hr dX3_findFirst_77 ⟨_, _, _, _, _, _, _, _, fd2, _, _, ⟨rfl, hR, Or.inr (Or.inl ⟨by omega, by omega, by omega, rfl, rfl⟩)⟩, rfl⟩
    · intro h20
      refine g_iconst 24 C dX3_findFirst_23 rfl ?_
      refine g_goto 28 C dX3_findFirst_24 (by decide) ?_
      refine g_put (ws' := [(_, .inr (3, [_, _, _, _, _, _, _, _, _, _, _, _, _])), (_, .inr (1, [_, _, _, _])), (_, aI _ _ _), (_, aI _ _ _), (_, .inr (2, [_, _, _])), (_, aI _ _ _), (_, aI _ _ _), (_, aI _ _ _), (_, aI _ _ _), (_, aI _ _ _), (_, aZ _ _ _), (_, aI _ _ _), (_, aI _ _ _)]) 31 C 0 8 3 tyX3 tyX3_ok nmX3 iX3_findFirst_X3 lX3_findFirst_43 dX3_findFirst_28 rfl rfl rfl (by decide) rfl (by decide) rfl (Nat.le_of_ble_eq_true rfl) rfl ?_
      refine g_iconst 32 C dX3_findFirst_31 rfl ?_
      refine g_istore_n (lv' := [(1, _), (0, _)]) 33 C dX3_findFirst_32 rfl rfl (by decide) rfl ?_
      refine g_loop (α := (Int → Int) × Int) (fun zz => [(a_R, .inr (3, [.ref a_P, .ref a_L, .ref a_sh, .ref a_fi, .ref a_wa, .ref a_us, .ref a_ly, .ref a_jl, .int (iI 1), .int (iI 1), .int (iI sp2), .int (iI fd2), .int (iI tc2)])), (a_P, .inr (1, [.ref a_hs, .ref a_se, .int (iI W), .int (iI h)])), (a_hs, aI E 200 hs), (a_se, aI E 100 se), (a_L, .inr (2, [.ref a_pc, .ref a_tn, .int (iI n)])), (a_pc, aI E 25 pc), (a_tn, aI E 25 tn), (a_sh, aI E 400 sh2), (a_fi, aI E 400 fi2), (a_wa, aI E 100 wa2), (a_us, aZ E 25 us2), (a_ly, aI E 25 ly2), (a_jl, aI E 25 zz.1)]) (fun zz => [(1, .int (iI zz.2)), (0, .ref a_R)]) (fun zz => (0 ≤ zz.2 ∧ zz.2 ≤ W * h) ∧ ∀ j : Int, 0 ≤ j ∧ j < zz.2 → zz.1 j = ly2 j) (fun zz => (W * h - zz.2).toNat) (jl, 0) (by
            try dsimp only
            exact ⟨by omega, fun j hj => by omega⟩) [0, 1] rfl rfl ?_
      rintro ⟨f, z⟩ hI ih33
      try dsimp only at hI ih33 ⊢
      obtain ⟨hz, hf⟩ := hI
      refine g_aload_n 34 C 1 dX3_findFirst_33 rfl rfl ?_
      refine g_get 37 C 0 8 3 iX3_findFirst_X3 lX3_findFirst_43 dX3_findFirst_34 rfl rfl rfl (by decide) rfl ?_
      refine g_if_eq 73 40 C dX3_findFirst_37 (by decide) rfl (by omega) (fun q => absurd q (by omega)) ?_
      intro _
      refine g_iload_n 41 C 0 dX3_findFirst_40 rfl rfl ?_
      refine g_aload_n 42 C 1 dX3_findFirst_41 rfl rfl ?_
      refine g_get 45 C 0 0 3 iX3_findFirst_X3 lX3_findFirst_31 dX3_findFirst_42 rfl rfl rfl (by decide) rfl ?_
      refine g_callVF 48 C [1] dX3_findFirst_45 rfl (k_X1_pieces E l  ) (cwV 0 C.2.2.2.2.1 gX3_findFirst_X1_pieces rfl rfl rfl cdX1_pieces ⟨Nat.le_of_ble_eq_true rfl, Nat.le_of_ble_eq_true rfl⟩) rfl rfl rfl rfl (Nat.le_of_ble_eq_true rfl) 1 1 rfl rfl rfl ⟨Nat.le_of_ble_eq_true rfl, Nat.le_of_ble_eq_true rfl⟩ ?_
      refine g_icmp_ge 73 51 C dX3_findFirst_48 (by decide) rfl (by omega) ?_ ?_
      · intro h48
        refine g_aload_n 74 C 1 dX3_findFirst_73 rfl rfl ?_
        refine g_get 77 C 0 11 3 iX3_findFirst_X3 lX3_findFirst_58 dX3_findFirst_74 rfl rfl rfl (by decide) rfl ?_
        exact g_iret C hr dX3_findFirst_77 ⟨_, _, _, _, _, _, _, _, fd2, _, _, ⟨rfl, hR, Or.inr (Or.inr ⟨by omega, by omega, by omega, rfl, fun j hj => hf j (by omega)⟩)⟩, rfl⟩
      · intro h48
        refine g_aload_n 52 C 1 dX3_findFirst_51 rfl rfl ?_
        refine g_get 55 C 0 7 3 iX3_findFirst_X3 lX3_findFirst_28 dX3_findFirst_52 rfl rfl rfl (by decide) rfl ?_
        refine g_iload_n 56 C 0 dX3_findFirst_55 rfl rfl ?_
        refine g_aload_n 57 C 1 dX3_findFirst_56 rfl rfl ?_
        refine g_get 60 C 0 6 3 iX3_findFirst_X3 lX3_findFirst_25 dX3_findFirst_57 rfl rfl rfl (by decide) rfl ?_
        refine g_iload_n 61 C 0 dX3_findFirst_60 rfl rfl ?_
        refine g_callSF 64 C [11] dX3_findFirst_61 rfl (k_X3_look E l  (by first | assumption | omega) (by first | assumption | omega)) (va_cwS 2 C.2.2.2.2.1 gX3_findFirst_X3_look rfl rfl rfl cdX3_look ⟨Nat.le_of_ble_eq_true rfl, Nat.le_of_ble_eq_true rfl⟩) rfl rfl rfl rfl (Nat.le_of_ble_eq_true rfl) ⟨Nat.le_of_ble_eq_true rfl, Nat.le_of_ble_eq_true rfl⟩ ?_
        refine g_callSU (ws' := [(_, .inr (3, [_, _, _, _, _, _, _, _, _, _, _, _, _])), (_, .inr (1, [_, _, _, _])), (_, aI _ _ _), (_, aI _ _ _), (_, .inr (2, [_, _, _])), (_, aI _ _ _), (_, aI _ _ _), (_, aI _ _ _), (_, aI _ _ _), (_, aI _ _ _), (_, aZ _ _ _), (_, aI _ _ _), (_, aI _ _ _)]) 67 C [12] dX3_findFirst_64 rfl (k_X3_note E l  (by first | assumption | omega) (by first | assumption | omega)) (va_cwS 3 C.2.2.2.2.1 gX3_findFirst_X3_note rfl rfl rfl cdX3_note ⟨Nat.le_of_ble_eq_true rfl, Nat.le_of_ble_eq_true rfl⟩) rfl rfl rfl rfl (Nat.le_of_ble_eq_true rfl) ⟨Nat.le_of_ble_eq_true rfl, Nat.le_of_ble_eq_true rfl⟩ rfl rfl ?_
        refine g_iinc (lv' := [(1, _), (0, _)]) 70 C 0 dX3_findFirst_67 rfl rfl (by decide) rfl ?_
        refine g_goto 33 C dX3_findFirst_70 (by decide) ?_
        exact g_w [0, 1] rfl rfl (ih33 ((uI f z (ly2 z)), (z + 1)) (by
            try dsimp only
            exact ⟨by omega, fun j hj => by
              by_cases e : j = z
              · rw [e, uI_eq]
              · rw [uI_ne e]; exact hf j (by omega)⟩) (by (try dsimp only); omega))
  · intro h9
    refine g_bipush 14 C dX3_findFirst_12 rfl (by decide) ?_
    exact g_iret C hr dX3_findFirst_14 ⟨_, _, _, _, _, _, _, _, -6, _, _, ⟨rfl, hR, Or.inl ⟨by omega, rfl, rfl, rfl⟩⟩, rfl⟩
end
section
set_option maxRecDepth 20000 in
theorem ggX5_init_X1_init : GoodIn wsX5_init wsX1_init := goodIn_r _ [26, 27, 2, 3, 28, 29, 30, 31, 32, 33, 6, 34, 35, 36, 37, 38, 39, 40, 41, 42, 43, 44, 70, 71, 72, 73] (by decide +kernel) (by decide +kernel)
set_option maxRecDepth 20000 in
theorem gX5_init_X1_init : GoodIn wsX5_init (wsX1_init) := ggX5_init_X1_init
set_option maxRecDepth 20000 in
theorem ggX5_init_X2_init : GoodIn wsX5_init wsX2_init := goodIn_r _ [46, 47, 2, 3, 28, 48, 49, 81, 82, 83] (by decide +kernel) (by decide +kernel)
set_option maxRecDepth 20000 in
theorem gX5_init_X2_init_n20 : GoodIn wsX5_init (wsX2_init) := ggX5_init_X2_init
set_option maxRecDepth 20000 in
theorem ggX5_init_X3_init : GoodIn wsX5_init wsX3_init := goodIn_r _ [52, 53, 2, 3, 28, 54, 55, 56, 57, 58, 59, 60, 61, 62, 84, 85, 86, 87, 88, 89, 90, 91, 92, 93, 94, 95, 96] (by decide +kernel) (by decide +kernel)
set_option maxRecDepth 20000 in
theorem gX5_init_X3_init : GoodIn wsX5_init (wsX3_init) := ggX5_init_X3_init
set_option maxRecDepth 20000 in
theorem ggX5_init_X0_init : GoodIn wsX5_init wsX0_init := goodIn_r _ [64, 65, 2, 3] (by decide +kernel) (by decide +kernel)
set_option maxRecDepth 20000 in
theorem gX5_init_X0_init_n36 : GoodIn wsX5_init (wsX0_init) := ggX5_init_X0_init
set_option maxRecDepth 20000 in
theorem ggX5_init_X4_init : GoodIn wsX5_init wsX4_init := goodIn_r _ [67, 68, 2, 3, 28, 69, 98, 99, 100, 101] (by decide +kernel) (by decide +kernel)
set_option maxRecDepth 20000 in
theorem gX5_init_X4_init_n47 : GoodIn wsX5_init (wsX4_init) := ggX5_init_X4_init
theorem dX5_init_0 : decode cX5_init 0 = .ok (.aload_n 0, 1) := by decide +kernel
theorem dX5_init_1 : decode cX5_init 1 = .ok (.invokespecial 3, 3) := by decide +kernel
theorem dX5_init_4 : decode cX5_init 4 = .ok (.aload_n 0, 1) := by decide +kernel
theorem dX5_init_5 : decode cX5_init 5 = .ok (.new 9, 3) := by decide +kernel
theorem dX5_init_8 : decode cX5_init 8 = .ok (.dup, 1) := by decide +kernel
theorem dX5_init_9 : decode cX5_init 9 = .ok (.invokespecial 11, 3) := by decide +kernel
theorem dX5_init_12 : decode cX5_init 12 = .ok (.putfield 12, 3) := by decide +kernel
theorem dX5_init_15 : decode cX5_init 15 = .ok (.aload_n 0, 1) := by decide +kernel
theorem dX5_init_16 : decode cX5_init 16 = .ok (.new 18, 3) := by decide +kernel
theorem dX5_init_19 : decode cX5_init 19 = .ok (.dup, 1) := by decide +kernel
theorem dX5_init_20 : decode cX5_init 20 = .ok (.invokespecial 20, 3) := by decide +kernel
theorem dX5_init_23 : decode cX5_init 23 = .ok (.putfield 21, 3) := by decide +kernel
theorem dX5_init_26 : decode cX5_init 26 = .ok (.aload_n 0, 1) := by decide +kernel
theorem dX5_init_27 : decode cX5_init 27 = .ok (.new 25, 3) := by decide +kernel
theorem dX5_init_30 : decode cX5_init 30 = .ok (.dup, 1) := by decide +kernel
theorem dX5_init_31 : decode cX5_init 31 = .ok (.aload_n 0, 1) := by decide +kernel
theorem dX5_init_32 : decode cX5_init 32 = .ok (.getfield 12, 3) := by decide +kernel
theorem dX5_init_35 : decode cX5_init 35 = .ok (.aload_n 0, 1) := by decide +kernel
theorem dX5_init_36 : decode cX5_init 36 = .ok (.getfield 21, 3) := by decide +kernel
theorem dX5_init_39 : decode cX5_init 39 = .ok (.invokespecial 27, 3) := by decide +kernel
theorem dX5_init_42 : decode cX5_init 42 = .ok (.putfield 30, 3) := by decide +kernel
theorem dX5_init_45 : decode cX5_init 45 = .ok (.aload_n 0, 1) := by decide +kernel
theorem dX5_init_46 : decode cX5_init 46 = .ok (.new 34, 3) := by decide +kernel
theorem dX5_init_49 : decode cX5_init 49 = .ok (.dup, 1) := by decide +kernel
theorem dX5_init_50 : decode cX5_init 50 = .ok (.invokespecial 36, 3) := by decide +kernel
theorem dX5_init_53 : decode cX5_init 53 = .ok (.putfield 37, 3) := by decide +kernel
theorem dX5_init_56 : decode cX5_init 56 = .ok (.aload_n 0, 1) := by decide +kernel
theorem dX5_init_57 : decode cX5_init 57 = .ok (.iconst 4, 1) := by decide +kernel
theorem dX5_init_58 : decode cX5_init 58 = .ok (.anewarray 41, 3) := by decide +kernel
theorem dX5_init_61 : decode cX5_init 61 = .ok (.putfield 43, 3) := by decide +kernel
theorem dX5_init_64 : decode cX5_init 64 = .ok (.iconst 0, 1) := by decide +kernel
theorem dX5_init_65 : decode cX5_init 65 = .ok (.istore_n 1, 1) := by decide +kernel
theorem dX5_init_66 : decode cX5_init 66 = .ok (.iload_n 1, 1) := by decide +kernel
theorem dX5_init_67 : decode cX5_init 67 = .ok (.aload_n 0, 1) := by decide +kernel
theorem dX5_init_68 : decode cX5_init 68 = .ok (.getfield 43, 3) := by decide +kernel
theorem dX5_init_71 : decode cX5_init 71 = .ok (.arraylength, 1) := by decide +kernel
theorem dX5_init_72 : decode cX5_init 72 = .ok (.if_icmp .ge 22, 3) := by decide +kernel
theorem dX5_init_75 : decode cX5_init 75 = .ok (.aload_n 0, 1) := by decide +kernel
theorem dX5_init_76 : decode cX5_init 76 = .ok (.getfield 43, 3) := by decide +kernel
theorem dX5_init_79 : decode cX5_init 79 = .ok (.iload_n 1, 1) := by decide +kernel
theorem dX5_init_80 : decode cX5_init 80 = .ok (.new 41, 3) := by decide +kernel
theorem dX5_init_83 : decode cX5_init 83 = .ok (.dup, 1) := by decide +kernel
theorem dX5_init_84 : decode cX5_init 84 = .ok (.invokespecial 47, 3) := by decide +kernel
theorem dX5_init_87 : decode cX5_init 87 = .ok (.aastore, 1) := by decide +kernel
theorem dX5_init_88 : decode cX5_init 88 = .ok (.iinc 1 1, 3) := by decide +kernel
theorem dX5_init_91 : decode cX5_init 91 = .ok (.goto (-25), 3) := by decide +kernel
theorem dX5_init_94 : decode cX5_init 94 = .ok (.return_, 1) := by decide +kernel
set_option maxRecDepth 20000 in
theorem ggX5_picture_X1_cutAnew : GoodIn wsX5_picture wsX1_cutAnew := goodIn_r _ [8, 9, 10, 11, 12, 13, 14, 7, 15, 16, 17, 18, 19, 20, 44, 45, 46, 47] (by decide +kernel) (by decide +kernel)
set_option maxRecDepth 20000 in
theorem gX5_picture_X1_cutAnew : GoodIn wsX5_picture (wsV RX5 48 RX1 yX1_cutAnew wsX1_cutAnew) := goodIn_app (goodIn_of _ (by decide +kernel)) ggX5_picture_X1_cutAnew
set_option maxRecDepth 20000 in
theorem ggX5_picture_X2_clearAll : GoodIn wsX5_picture wsX2_clearAll := goodIn_r _ [25, 26, 48, 49, 50] (by decide +kernel) (by decide +kernel)
set_option maxRecDepth 20000 in
theorem gX5_picture_X2_clearAll : GoodIn wsX5_picture (wsV RX5 52 RX2 yX2_clearAll wsX2_clearAll) := goodIn_app (goodIn_of _ (by decide +kernel)) ggX5_picture_X2_clearAll
set_option maxRecDepth 20000 in
theorem ggX5_picture_X3_forgetJoined : GoodIn wsX5_picture wsX3_forgetJoined := goodIn_r _ [31, 32, 51, 52, 53, 54, 55, 56, 57, 58, 59, 60, 61, 62, 63] (by decide +kernel) (by decide +kernel)
set_option maxRecDepth 20000 in
theorem gX5_picture_X3_forgetJoined : GoodIn wsX5_picture (wsV RX5 55 RX3 yX3_forgetJoined wsX3_forgetJoined) := goodIn_app (goodIn_of _ (by decide +kernel)) ggX5_picture_X3_forgetJoined
set_option maxRecDepth 20000 in
theorem ggX5_picture_X1_sides : GoodIn wsX5_picture wsX1_sides := goodIn_r _ [36, 9, 10, 44, 45, 46, 47] (by decide +kernel) (by decide +kernel)
set_option maxRecDepth 20000 in
theorem gX5_picture_X1_sides : GoodIn wsX5_picture (wsV RX5 58 RX1 yX1_sides wsX1_sides) := goodIn_app (goodIn_of _ (by decide +kernel)) ggX5_picture_X1_sides
theorem dX5_picture_0 : decode cX5_picture 0 = .ok (.iload_n 1, 1) := by decide +kernel
theorem dX5_picture_1 : decode cX5_picture 1 = .ok (.iconst 1, 1) := by decide +kernel
theorem dX5_picture_2 : decode cX5_picture 2 = .ok (.if_icmp .lt 18, 3) := by decide +kernel
theorem dX5_picture_5 : decode cX5_picture 5 = .ok (.iload_n 1, 1) := by decide +kernel
theorem dX5_picture_6 : decode cX5_picture 6 = .ok (.iconst 5, 1) := by decide +kernel
theorem dX5_picture_7 : decode cX5_picture 7 = .ok (.if_icmp .gt 13, 3) := by decide +kernel
theorem dX5_picture_10 : decode cX5_picture 10 = .ok (.iload_n 2, 1) := by decide +kernel
theorem dX5_picture_11 : decode cX5_picture 11 = .ok (.iconst 1, 1) := by decide +kernel
theorem dX5_picture_12 : decode cX5_picture 12 = .ok (.if_icmp .lt 8, 3) := by decide +kernel
theorem dX5_picture_15 : decode cX5_picture 15 = .ok (.iload_n 2, 1) := by decide +kernel
theorem dX5_picture_16 : decode cX5_picture 16 = .ok (.iconst 5, 1) := by decide +kernel
theorem dX5_picture_17 : decode cX5_picture 17 = .ok (.if_icmp .le 6, 3) := by decide +kernel
theorem dX5_picture_20 : decode cX5_picture 20 = .ok (.bipush (-2), 2) := by decide +kernel
theorem dX5_picture_22 : decode cX5_picture 22 = .ok (.ireturn, 1) := by decide +kernel
theorem dX5_picture_23 : decode cX5_picture 23 = .ok (.aload_n 0, 1) := by decide +kernel
theorem dX5_picture_24 : decode cX5_picture 24 = .ok (.getfield 12, 3) := by decide +kernel
theorem dX5_picture_27 : decode cX5_picture 27 = .ok (.iload_n 1, 1) := by decide +kernel
theorem dX5_picture_28 : decode cX5_picture 28 = .ok (.iload_n 2, 1) := by decide +kernel
theorem dX5_picture_29 : decode cX5_picture 29 = .ok (.invokevirtual 48, 3) := by decide +kernel
theorem dX5_picture_32 : decode cX5_picture 32 = .ok (.aload_n 0, 1) := by decide +kernel
theorem dX5_picture_33 : decode cX5_picture 33 = .ok (.getfield 21, 3) := by decide +kernel
theorem dX5_picture_36 : decode cX5_picture 36 = .ok (.invokevirtual 52, 3) := by decide +kernel
theorem dX5_picture_39 : decode cX5_picture 39 = .ok (.aload_n 0, 1) := by decide +kernel
theorem dX5_picture_40 : decode cX5_picture 40 = .ok (.getfield 30, 3) := by decide +kernel
theorem dX5_picture_43 : decode cX5_picture 43 = .ok (.invokevirtual 55, 3) := by decide +kernel
theorem dX5_picture_46 : decode cX5_picture 46 = .ok (.aload_n 0, 1) := by decide +kernel
theorem dX5_picture_47 : decode cX5_picture 47 = .ok (.getfield 12, 3) := by decide +kernel
theorem dX5_picture_50 : decode cX5_picture 50 = .ok (.invokevirtual 58, 3) := by decide +kernel
theorem dX5_picture_53 : decode cX5_picture 53 = .ok (.ireturn, 1) := by decide +kernel
set_option maxRecDepth 20000 in
theorem ggX5_make_X0_begin : GoodIn wsX5_make wsX0_begin := goodIn_r _ [8, 9, 43] (by decide +kernel) (by decide +kernel)
set_option maxRecDepth 20000 in
theorem gX5_make_X0_begin : GoodIn wsX5_make (wsV RX5 62 RX0 yX0_begin wsX0_begin) := goodIn_app (goodIn_of _ (by decide +kernel)) ggX5_make_X0_begin
set_option maxRecDepth 20000 in
theorem ggX5_make_X1_sides : GoodIn wsX5_make wsX1_sides := goodIn_r _ [14, 15, 16, 44, 45, 46, 47] (by decide +kernel) (by decide +kernel)
set_option maxRecDepth 20000 in
theorem gX5_make_X1_sides : GoodIn wsX5_make (wsV RX5 58 RX1 yX1_sides wsX1_sides) := goodIn_app (goodIn_of _ (by decide +kernel)) ggX5_make_X1_sides
set_option maxRecDepth 20000 in
theorem ggX5_make_X0_below : GoodIn wsX5_make wsX0_below := goodIn_r _ [20, 9, 21, 22, 23, 24, 43] (by decide +kernel) (by decide +kernel)
set_option maxRecDepth 20000 in
theorem gX5_make_X0_below : GoodIn wsX5_make (wsV RX5 66 RX0 yX0_below wsX0_below) := goodIn_app (goodIn_of _ (by decide +kernel)) ggX5_make_X0_below
set_option maxRecDepth 20000 in
theorem ggX5_make_X1_setHeight : GoodIn wsX5_make wsX1_setHeight := goodIn_r _ [28, 29, 44, 45, 46, 47] (by decide +kernel) (by decide +kernel)
set_option maxRecDepth 20000 in
theorem gX5_make_X1_setHeight : GoodIn wsX5_make (wsV RX5 70 RX1 yX1_setHeight wsX1_setHeight) := goodIn_app (goodIn_of _ (by decide +kernel)) ggX5_make_X1_setHeight
set_option maxRecDepth 20000 in
theorem ggX5_make_X3_forgetJoined : GoodIn wsX5_make wsX3_forgetJoined := goodIn_r _ [34, 35, 48, 49, 50, 51, 52, 53, 54, 55, 56, 57, 58, 59, 60] (by decide +kernel) (by decide +kernel)
set_option maxRecDepth 20000 in
theorem gX5_make_X3_forgetJoined : GoodIn wsX5_make (wsV RX5 55 RX3 yX3_forgetJoined wsX3_forgetJoined) := goodIn_app (goodIn_of _ (by decide +kernel)) ggX5_make_X3_forgetJoined
theorem dX5_make_0 : decode cX5_make 0 = .ok (.aload_n 0, 1) := by decide +kernel
theorem dX5_make_1 : decode cX5_make 1 = .ok (.getfield 37, 3) := by decide +kernel
theorem dX5_make_4 : decode cX5_make 4 = .ok (.lload_n 1, 1) := by decide +kernel
theorem dX5_make_5 : decode cX5_make 5 = .ok (.invokevirtual 62, 3) := by decide +kernel
theorem dX5_make_8 : decode cX5_make 8 = .ok (.iconst 0, 1) := by decide +kernel
theorem dX5_make_9 : decode cX5_make 9 = .ok (.istore_n 3, 1) := by decide +kernel
theorem dX5_make_10 : decode cX5_make 10 = .ok (.iload_n 3, 1) := by decide +kernel
theorem dX5_make_11 : decode cX5_make 11 = .ok (.aload_n 0, 1) := by decide +kernel
theorem dX5_make_12 : decode cX5_make 12 = .ok (.getfield 12, 3) := by decide +kernel
theorem dX5_make_15 : decode cX5_make 15 = .ok (.invokevirtual 58, 3) := by decide +kernel
theorem dX5_make_18 : decode cX5_make 18 = .ok (.if_icmp .ge 46, 3) := by decide +kernel
theorem dX5_make_21 : decode cX5_make 21 = .ok (.iconst 0, 1) := by decide +kernel
theorem dX5_make_22 : decode cX5_make 22 = .ok (.istore 4, 2) := by decide +kernel
theorem dX5_make_24 : decode cX5_make 24 = .ok (.iload 4, 2) := by decide +kernel
theorem dX5_make_26 : decode cX5_make 26 = .ok (.iconst 5, 1) := by decide +kernel
theorem dX5_make_27 : decode cX5_make 27 = .ok (.if_icmp .ge 31, 3) := by decide +kernel
theorem dX5_make_30 : decode cX5_make 30 = .ok (.aload_n 0, 1) := by decide +kernel
theorem dX5_make_31 : decode cX5_make 31 = .ok (.getfield 12, 3) := by decide +kernel
theorem dX5_make_34 : decode cX5_make 34 = .ok (.iload_n 3, 1) := by decide +kernel
theorem dX5_make_35 : decode cX5_make 35 = .ok (.iload 4, 2) := by decide +kernel
theorem dX5_make_37 : decode cX5_make 37 = .ok (.aload_n 0, 1) := by decide +kernel
theorem dX5_make_38 : decode cX5_make 38 = .ok (.getfield 37, 3) := by decide +kernel
theorem dX5_make_41 : decode cX5_make 41 = .ok (.bipush 19, 2) := by decide +kernel
theorem dX5_make_43 : decode cX5_make 43 = .ok (.invokevirtual 66, 3) := by decide +kernel
theorem dX5_make_46 : decode cX5_make 46 = .ok (.bipush 9, 2) := by decide +kernel
theorem dX5_make_48 : decode cX5_make 48 = .ok (.isub, 1) := by decide +kernel
theorem dX5_make_49 : decode cX5_make 49 = .ok (.invokevirtual 70, 3) := by decide +kernel
theorem dX5_make_52 : decode cX5_make 52 = .ok (.iinc 4 1, 3) := by decide +kernel
theorem dX5_make_55 : decode cX5_make 55 = .ok (.goto (-31), 3) := by decide +kernel
theorem dX5_make_58 : decode cX5_make 58 = .ok (.iinc 3 1, 3) := by decide +kernel
theorem dX5_make_61 : decode cX5_make 61 = .ok (.goto (-51), 3) := by decide +kernel
theorem dX5_make_64 : decode cX5_make 64 = .ok (.aload_n 0, 1) := by decide +kernel
theorem dX5_make_65 : decode cX5_make 65 = .ok (.getfield 30, 3) := by decide +kernel
theorem dX5_make_68 : decode cX5_make 68 = .ok (.invokevirtual 55, 3) := by decide +kernel
theorem dX5_make_71 : decode cX5_make 71 = .ok (.iconst 1, 1) := by decide +kernel
theorem dX5_make_72 : decode cX5_make 72 = .ok (.ireturn, 1) := by decide +kernel
set_option maxRecDepth 20000 in
theorem ggX5_bend_X1_hasSide : GoodIn wsX5_bend wsX1_hasSide := goodIn_r _ [8, 9, 10, 11, 7, 12, 13, 14, 44, 45, 46, 47] (by decide +kernel) (by decide +kernel)
set_option maxRecDepth 20000 in
theorem gX5_bend_X1_hasSide : GoodIn wsX5_bend (wsV RX5 74 RX1 yX1_hasSide wsX1_hasSide) := goodIn_app (goodIn_of _ (by decide +kernel)) ggX5_bend_X1_hasSide
set_option maxRecDepth 20000 in
theorem ggX5_bend_X5_isHeightPlace : GoodIn wsX5_bend wsX5_isHeightPlace := goodIn_r _ [18] (by decide +kernel) (by decide +kernel)
set_option maxRecDepth 20000 in
theorem gX5_bend_X5_isHeightPlace : GoodIn wsX5_bend (va_wsS RX5 78 yX5_isHeightPlace wsX5_isHeightPlace) := goodIn_app (goodIn_of _ (by decide +kernel)) ggX5_bend_X5_isHeightPlace
set_option maxRecDepth 20000 in
theorem ggX5_bend_X5_isHeight : GoodIn wsX5_bend wsX5_isHeight := goodIn_r _ [21] (by decide +kernel) (by decide +kernel)
set_option maxRecDepth 20000 in
theorem gX5_bend_X5_isHeight : GoodIn wsX5_bend (va_wsS RX5 81 yX5_isHeight wsX5_isHeight) := goodIn_app (goodIn_of _ (by decide +kernel)) ggX5_bend_X5_isHeight
set_option maxRecDepth 20000 in
theorem ggX5_bend_X1_heightAt : GoodIn wsX5_bend wsX1_heightAt := goodIn_r _ [25, 26, 44, 45, 46, 47] (by decide +kernel) (by decide +kernel)
set_option maxRecDepth 20000 in
theorem gX5_bend_X1_heightAt : GoodIn wsX5_bend (wsV RX5 86 RX1 yX1_heightAt wsX1_heightAt) := goodIn_app (goodIn_of _ (by decide +kernel)) ggX5_bend_X1_heightAt
set_option maxRecDepth 20000 in
theorem ggX5_bend_X1_setHeight : GoodIn wsX5_bend wsX1_setHeight := goodIn_r _ [30, 26, 44, 45, 46, 47] (by decide +kernel) (by decide +kernel)
set_option maxRecDepth 20000 in
theorem gX5_bend_X1_setHeight : GoodIn wsX5_bend (wsV RX5 70 RX1 yX1_setHeight wsX1_setHeight) := goodIn_app (goodIn_of _ (by decide +kernel)) ggX5_bend_X1_setHeight
set_option maxRecDepth 20000 in
theorem ggX5_bend_X3_forgetJoined : GoodIn wsX5_bend wsX3_forgetJoined := goodIn_r _ [35, 36, 48, 49, 50, 51, 52, 53, 54, 55, 56, 57, 58, 59, 60] (by decide +kernel) (by decide +kernel)
set_option maxRecDepth 20000 in
theorem gX5_bend_X3_forgetJoined : GoodIn wsX5_bend (wsV RX5 55 RX3 yX3_forgetJoined wsX3_forgetJoined) := goodIn_app (goodIn_of _ (by decide +kernel)) ggX5_bend_X3_forgetJoined
theorem dX5_bend_0 : decode cX5_bend 0 = .ok (.aload_n 0, 1) := by decide +kernel
theorem dX5_bend_1 : decode cX5_bend 1 = .ok (.getfield 12, 3) := by decide +kernel
theorem dX5_bend_4 : decode cX5_bend 4 = .ok (.iload_n 1, 1) := by decide +kernel
theorem dX5_bend_5 : decode cX5_bend 5 = .ok (.invokevirtual 74, 3) := by decide +kernel
theorem dX5_bend_8 : decode cX5_bend 8 = .ok (.ifCond .eq 17, 3) := by decide +kernel
theorem dX5_bend_11 : decode cX5_bend 11 = .ok (.iload_n 2, 1) := by decide +kernel
theorem dX5_bend_12 : decode cX5_bend 12 = .ok (.invokestatic 78, 3) := by decide +kernel
theorem dX5_bend_15 : decode cX5_bend 15 = .ok (.ifCond .eq 10, 3) := by decide +kernel
theorem dX5_bend_18 : decode cX5_bend 18 = .ok (.iload_n 3, 1) := by decide +kernel
theorem dX5_bend_19 : decode cX5_bend 19 = .ok (.invokestatic 81, 3) := by decide +kernel
theorem dX5_bend_22 : decode cX5_bend 22 = .ok (.ifCond .ne 7, 3) := by decide +kernel
theorem dX5_bend_25 : decode cX5_bend 25 = .ok (.ldc2_w 84, 3) := by decide +kernel
theorem dX5_bend_28 : decode cX5_bend 28 = .ok (.lreturn, 1) := by decide +kernel
theorem dX5_bend_29 : decode cX5_bend 29 = .ok (.aload_n 0, 1) := by decide +kernel
theorem dX5_bend_30 : decode cX5_bend 30 = .ok (.getfield 12, 3) := by decide +kernel
theorem dX5_bend_33 : decode cX5_bend 33 = .ok (.iload_n 1, 1) := by decide +kernel
theorem dX5_bend_34 : decode cX5_bend 34 = .ok (.iload_n 2, 1) := by decide +kernel
theorem dX5_bend_35 : decode cX5_bend 35 = .ok (.iconst 0, 1) := by decide +kernel
theorem dX5_bend_36 : decode cX5_bend 36 = .ok (.invokevirtual 86, 3) := by decide +kernel
theorem dX5_bend_39 : decode cX5_bend 39 = .ok (.istore 4, 2) := by decide +kernel
theorem dX5_bend_41 : decode cX5_bend 41 = .ok (.aload_n 0, 1) := by decide +kernel
theorem dX5_bend_42 : decode cX5_bend 42 = .ok (.getfield 12, 3) := by decide +kernel
theorem dX5_bend_45 : decode cX5_bend 45 = .ok (.iload_n 1, 1) := by decide +kernel
theorem dX5_bend_46 : decode cX5_bend 46 = .ok (.iload_n 2, 1) := by decide +kernel
theorem dX5_bend_47 : decode cX5_bend 47 = .ok (.iload_n 3, 1) := by decide +kernel
theorem dX5_bend_48 : decode cX5_bend 48 = .ok (.invokevirtual 70, 3) := by decide +kernel
theorem dX5_bend_51 : decode cX5_bend 51 = .ok (.aload_n 0, 1) := by decide +kernel
theorem dX5_bend_52 : decode cX5_bend 52 = .ok (.getfield 30, 3) := by decide +kernel
theorem dX5_bend_55 : decode cX5_bend 55 = .ok (.invokevirtual 55, 3) := by decide +kernel
theorem dX5_bend_58 : decode cX5_bend 58 = .ok (.iload 4, 2) := by decide +kernel
theorem dX5_bend_60 : decode cX5_bend 60 = .ok (.i2l, 1) := by decide +kernel
theorem dX5_bend_61 : decode cX5_bend 61 = .ok (.lreturn, 1) := by decide +kernel
set_option maxRecDepth 20000 in
theorem ggX5_sideOf_X1_hasEdge : GoodIn wsX5_sideOf wsX1_hasEdge := goodIn_r _ [6, 7, 8, 9, 5, 10, 11, 12, 13, 14, 15, 16, 29, 30, 31, 32] (by decide +kernel) (by decide +kernel)
set_option maxRecDepth 20000 in
theorem gX5_sideOf_X1_hasEdge : GoodIn wsX5_sideOf (wsV RX5 124 RX1 yX1_hasEdge wsX1_hasEdge) := goodIn_app (goodIn_of _ (by decide +kernel)) ggX5_sideOf_X1_hasEdge
set_option maxRecDepth 20000 in
theorem ggX5_sideOf_X1_sideAt : GoodIn wsX5_sideOf wsX1_sideAt := goodIn_r _ [20, 21, 29, 30, 31, 32] (by decide +kernel) (by decide +kernel)
set_option maxRecDepth 20000 in
theorem gX5_sideOf_X1_sideAt : GoodIn wsX5_sideOf (wsV RX5 128 RX1 yX1_sideAt wsX1_sideAt) := goodIn_app (goodIn_of _ (by decide +kernel)) ggX5_sideOf_X1_sideAt
theorem dX5_sideOf_0 : decode cX5_sideOf 0 = .ok (.aload_n 0, 1) := by decide +kernel
theorem dX5_sideOf_1 : decode cX5_sideOf 1 = .ok (.getfield 12, 3) := by decide +kernel
theorem dX5_sideOf_4 : decode cX5_sideOf 4 = .ok (.iload_n 1, 1) := by decide +kernel
theorem dX5_sideOf_5 : decode cX5_sideOf 5 = .ok (.iload_n 2, 1) := by decide +kernel
theorem dX5_sideOf_6 : decode cX5_sideOf 6 = .ok (.invokevirtual 124, 3) := by decide +kernel
theorem dX5_sideOf_9 : decode cX5_sideOf 9 = .ok (.ifCond .ne 5, 3) := by decide +kernel
theorem dX5_sideOf_12 : decode cX5_sideOf 12 = .ok (.iconst (-1), 1) := by decide +kernel
theorem dX5_sideOf_13 : decode cX5_sideOf 13 = .ok (.ireturn, 1) := by decide +kernel
theorem dX5_sideOf_14 : decode cX5_sideOf 14 = .ok (.aload_n 0, 1) := by decide +kernel
theorem dX5_sideOf_15 : decode cX5_sideOf 15 = .ok (.getfield 12, 3) := by decide +kernel
theorem dX5_sideOf_18 : decode cX5_sideOf 18 = .ok (.iload_n 1, 1) := by decide +kernel
theorem dX5_sideOf_19 : decode cX5_sideOf 19 = .ok (.iload_n 2, 1) := by decide +kernel
theorem dX5_sideOf_20 : decode cX5_sideOf 20 = .ok (.invokevirtual 128, 3) := by decide +kernel
theorem dX5_sideOf_23 : decode cX5_sideOf 23 = .ok (.ireturn, 1) := by decide +kernel
set_option maxRecDepth 20000 in
theorem ggX5_far_X1_hasEdge : GoodIn wsX5_far wsX1_hasEdge := goodIn_r _ [6, 7, 8, 9, 5, 10, 11, 12, 13, 14, 15, 16, 50, 51, 52, 53] (by decide +kernel) (by decide +kernel)
set_option maxRecDepth 20000 in
theorem gX5_far_X1_hasEdge : GoodIn wsX5_far (wsV RX5 124 RX1 yX1_hasEdge wsX1_hasEdge) := goodIn_app (goodIn_of _ (by decide +kernel)) ggX5_far_X1_hasEdge
set_option maxRecDepth 20000 in
theorem ggX5_far_X1_isFlat : GoodIn wsX5_far wsX1_isFlat := goodIn_r _ [20, 21, 22, 23, 5, 24, 25, 50, 51, 52, 53] (by decide +kernel) (by decide +kernel)
set_option maxRecDepth 20000 in
theorem gX5_far_X1_isFlat : GoodIn wsX5_far (wsV RX5 132 RX1 yX1_isFlat wsX1_isFlat) := goodIn_app (goodIn_of _ (by decide +kernel)) ggX5_far_X1_isFlat
set_option maxRecDepth 20000 in
theorem ggX5_far_X1_farness : GoodIn wsX5_far wsX1_farness := goodIn_r _ [29, 30, 31, 32, 33, 34, 35, 36, 5, 37, 21, 22, 23, 24, 25, 38, 39, 40, 41, 42, 50, 51, 52, 53] (by decide +kernel) (by decide +kernel)
set_option maxRecDepth 20000 in
theorem gX5_far_X1_farness : GoodIn wsX5_far (wsV RX5 138 RX1 yX1_farness wsX1_farness) := goodIn_app (goodIn_of _ (by decide +kernel)) ggX5_far_X1_farness
theorem dX5_far_0 : decode cX5_far 0 = .ok (.aload_n 0, 1) := by decide +kernel
theorem dX5_far_1 : decode cX5_far 1 = .ok (.getfield 12, 3) := by decide +kernel
theorem dX5_far_4 : decode cX5_far 4 = .ok (.iload_n 1, 1) := by decide +kernel
theorem dX5_far_5 : decode cX5_far 5 = .ok (.iload_n 2, 1) := by decide +kernel
theorem dX5_far_6 : decode cX5_far 6 = .ok (.invokevirtual 124, 3) := by decide +kernel
theorem dX5_far_9 : decode cX5_far 9 = .ok (.ifCond .eq 16, 3) := by decide +kernel
theorem dX5_far_12 : decode cX5_far 12 = .ok (.aload_n 0, 1) := by decide +kernel
theorem dX5_far_13 : decode cX5_far 13 = .ok (.getfield 12, 3) := by decide +kernel
theorem dX5_far_16 : decode cX5_far 16 = .ok (.iload_n 3, 1) := by decide +kernel
theorem dX5_far_17 : decode cX5_far 17 = .ok (.iload 4, 2) := by decide +kernel
theorem dX5_far_19 : decode cX5_far 19 = .ok (.invokevirtual 124, 3) := by decide +kernel
theorem dX5_far_22 : decode cX5_far 22 = .ok (.ifCond .ne 5, 3) := by decide +kernel
theorem dX5_far_25 : decode cX5_far 25 = .ok (.iconst (-1), 1) := by decide +kernel
theorem dX5_far_26 : decode cX5_far 26 = .ok (.ireturn, 1) := by decide +kernel
theorem dX5_far_27 : decode cX5_far 27 = .ok (.aload_n 0, 1) := by decide +kernel
theorem dX5_far_28 : decode cX5_far 28 = .ok (.getfield 12, 3) := by decide +kernel
theorem dX5_far_31 : decode cX5_far 31 = .ok (.iload_n 1, 1) := by decide +kernel
theorem dX5_far_32 : decode cX5_far 32 = .ok (.iload_n 2, 1) := by decide +kernel
theorem dX5_far_33 : decode cX5_far 33 = .ok (.invokevirtual 132, 3) := by decide +kernel
theorem dX5_far_36 : decode cX5_far 36 = .ok (.ifCond .ne 16, 3) := by decide +kernel
theorem dX5_far_39 : decode cX5_far 39 = .ok (.aload_n 0, 1) := by decide +kernel
theorem dX5_far_40 : decode cX5_far 40 = .ok (.getfield 12, 3) := by decide +kernel
theorem dX5_far_43 : decode cX5_far 43 = .ok (.iload_n 3, 1) := by decide +kernel
theorem dX5_far_44 : decode cX5_far 44 = .ok (.iload 4, 2) := by decide +kernel
theorem dX5_far_46 : decode cX5_far 46 = .ok (.invokevirtual 132, 3) := by decide +kernel
theorem dX5_far_49 : decode cX5_far 49 = .ok (.ifCond .eq 6, 3) := by decide +kernel
theorem dX5_far_52 : decode cX5_far 52 = .ok (.bipush (-3), 2) := by decide +kernel
theorem dX5_far_54 : decode cX5_far 54 = .ok (.ireturn, 1) := by decide +kernel
theorem dX5_far_55 : decode cX5_far 55 = .ok (.aload_n 0, 1) := by decide +kernel
theorem dX5_far_56 : decode cX5_far 56 = .ok (.getfield 12, 3) := by decide +kernel
theorem dX5_far_59 : decode cX5_far 59 = .ok (.iload_n 1, 1) := by decide +kernel
theorem dX5_far_60 : decode cX5_far 60 = .ok (.iload_n 2, 1) := by decide +kernel
theorem dX5_far_61 : decode cX5_far 61 = .ok (.iload_n 3, 1) := by decide +kernel
theorem dX5_far_62 : decode cX5_far 62 = .ok (.iload 4, 2) := by decide +kernel
theorem dX5_far_64 : decode cX5_far 64 = .ok (.invokevirtual 138, 3) := by decide +kernel
theorem dX5_far_67 : decode cX5_far 67 = .ok (.ireturn, 1) := by decide +kernel
set_option maxRecDepth 20000 in
theorem ggX5_lay_X1_hasPiece : GoodIn wsX5_lay wsX1_hasPiece := goodIn_r _ [8, 9, 10, 11, 7, 12, 13, 14, 45, 46, 47, 48] (by decide +kernel) (by decide +kernel)
set_option maxRecDepth 20000 in
theorem gX5_lay_X1_hasPiece : GoodIn wsX5_lay (wsV RX5 154 RX1 yX1_hasPiece wsX1_hasPiece) := goodIn_app (goodIn_of _ (by decide +kernel)) ggX5_lay_X1_hasPiece
set_option maxRecDepth 20000 in
theorem ggX5_lay_X2_isFull : GoodIn wsX5_lay wsX2_isFull := goodIn_r _ [19, 20, 49, 50, 51] (by decide +kernel) (by decide +kernel)
set_option maxRecDepth 20000 in
theorem gX5_lay_X2_isFull : GoodIn wsX5_lay (wsV RX5 157 RX2 yX2_isFull wsX2_isFull) := goodIn_app (goodIn_of _ (by decide +kernel)) ggX5_lay_X2_isFull
set_option maxRecDepth 20000 in
theorem ggX5_lay_X2_append : GoodIn wsX5_lay wsX2_append := goodIn_r _ [24, 25, 20, 26, 27, 16, 17, 18, 19, 49, 50, 51] (by decide +kernel) (by decide +kernel)
set_option maxRecDepth 20000 in
theorem gX5_lay_X2_append : GoodIn wsX5_lay (wsV RX5 160 RX2 yX2_append wsX2_append) := goodIn_app (goodIn_of _ (by decide +kernel)) ggX5_lay_X2_append
set_option maxRecDepth 20000 in
theorem ggX5_lay_X3_forgetJoined : GoodIn wsX5_lay wsX3_forgetJoined := goodIn_r _ [32, 33, 52, 53, 54, 55, 56, 57, 58, 59, 60, 61, 62, 63, 64] (by decide +kernel) (by decide +kernel)
set_option maxRecDepth 20000 in
theorem gX5_lay_X3_forgetJoined : GoodIn wsX5_lay (wsV RX5 55 RX3 yX3_forgetJoined wsX3_forgetJoined) := goodIn_app (goodIn_of _ (by decide +kernel)) ggX5_lay_X3_forgetJoined
set_option maxRecDepth 20000 in
theorem ggX5_lay_X2_size : GoodIn wsX5_lay wsX2_size := goodIn_r _ [37, 20, 49, 50, 51] (by decide +kernel) (by decide +kernel)
set_option maxRecDepth 20000 in
theorem gX5_lay_X2_size : GoodIn wsX5_lay (wsV RX5 163 RX2 yX2_size wsX2_size) := goodIn_app (goodIn_of _ (by decide +kernel)) ggX5_lay_X2_size
theorem dX5_lay_0 : decode cX5_lay 0 = .ok (.aload_n 0, 1) := by decide +kernel
theorem dX5_lay_1 : decode cX5_lay 1 = .ok (.getfield 12, 3) := by decide +kernel
theorem dX5_lay_4 : decode cX5_lay 4 = .ok (.iload_n 1, 1) := by decide +kernel
theorem dX5_lay_5 : decode cX5_lay 5 = .ok (.invokevirtual 154, 3) := by decide +kernel
theorem dX5_lay_8 : decode cX5_lay 8 = .ok (.ifCond .ne 5, 3) := by decide +kernel
theorem dX5_lay_11 : decode cX5_lay 11 = .ok (.iconst (-1), 1) := by decide +kernel
theorem dX5_lay_12 : decode cX5_lay 12 = .ok (.ireturn, 1) := by decide +kernel
theorem dX5_lay_13 : decode cX5_lay 13 = .ok (.iload_n 2, 1) := by decide +kernel
theorem dX5_lay_14 : decode cX5_lay 14 = .ok (.ifCond .lt 8, 3) := by decide +kernel
theorem dX5_lay_17 : decode cX5_lay 17 = .ok (.iload_n 2, 1) := by decide +kernel
theorem dX5_lay_18 : decode cX5_lay 18 = .ok (.iconst 4, 1) := by decide +kernel
theorem dX5_lay_19 : decode cX5_lay 19 = .ok (.if_icmp .lt 6, 3) := by decide +kernel
theorem dX5_lay_22 : decode cX5_lay 22 = .ok (.bipush (-2), 2) := by decide +kernel
theorem dX5_lay_24 : decode cX5_lay 24 = .ok (.ireturn, 1) := by decide +kernel
theorem dX5_lay_25 : decode cX5_lay 25 = .ok (.aload_n 0, 1) := by decide +kernel
theorem dX5_lay_26 : decode cX5_lay 26 = .ok (.getfield 21, 3) := by decide +kernel
theorem dX5_lay_29 : decode cX5_lay 29 = .ok (.invokevirtual 157, 3) := by decide +kernel
theorem dX5_lay_32 : decode cX5_lay 32 = .ok (.ifCond .eq 6, 3) := by decide +kernel
theorem dX5_lay_35 : decode cX5_lay 35 = .ok (.bipush (-4), 2) := by decide +kernel
theorem dX5_lay_37 : decode cX5_lay 37 = .ok (.ireturn, 1) := by decide +kernel
theorem dX5_lay_38 : decode cX5_lay 38 = .ok (.aload_n 0, 1) := by decide +kernel
theorem dX5_lay_39 : decode cX5_lay 39 = .ok (.getfield 21, 3) := by decide +kernel
theorem dX5_lay_42 : decode cX5_lay 42 = .ok (.iload_n 1, 1) := by decide +kernel
theorem dX5_lay_43 : decode cX5_lay 43 = .ok (.iload_n 2, 1) := by decide +kernel
theorem dX5_lay_44 : decode cX5_lay 44 = .ok (.invokevirtual 160, 3) := by decide +kernel
theorem dX5_lay_47 : decode cX5_lay 47 = .ok (.aload_n 0, 1) := by decide +kernel
theorem dX5_lay_48 : decode cX5_lay 48 = .ok (.getfield 30, 3) := by decide +kernel
theorem dX5_lay_51 : decode cX5_lay 51 = .ok (.invokevirtual 55, 3) := by decide +kernel
theorem dX5_lay_54 : decode cX5_lay 54 = .ok (.aload_n 0, 1) := by decide +kernel
theorem dX5_lay_55 : decode cX5_lay 55 = .ok (.getfield 21, 3) := by decide +kernel
theorem dX5_lay_58 : decode cX5_lay 58 = .ok (.invokevirtual 163, 3) := by decide +kernel
theorem dX5_lay_61 : decode cX5_lay 61 = .ok (.ireturn, 1) := by decide +kernel
set_option maxRecDepth 20000 in
theorem ggX5_heap_X2_clearAll : GoodIn wsX5_heap wsX2_clearAll := goodIn_r _ [9, 10, 71, 72, 73] (by decide +kernel) (by decide +kernel)
set_option maxRecDepth 20000 in
theorem gX5_heap_X2_clearAll : GoodIn wsX5_heap (wsV RX5 52 RX2 yX2_clearAll wsX2_clearAll) := goodIn_app (goodIn_of _ (by decide +kernel)) ggX5_heap_X2_clearAll
set_option maxRecDepth 20000 in
theorem ggX5_heap_X1_pieces : GoodIn wsX5_heap wsX1_pieces := goodIn_r _ [15, 16, 17, 74, 75, 76, 77] (by decide +kernel) (by decide +kernel)
set_option maxRecDepth 20000 in
theorem gX5_heap_X1_pieces : GoodIn wsX5_heap (wsV RX5 166 RX1 yX1_pieces wsX1_pieces) := goodIn_app (goodIn_of _ (by decide +kernel)) ggX5_heap_X1_pieces
set_option maxRecDepth 20000 in
theorem ggX5_heap_X2_append : GoodIn wsX5_heap wsX2_append := goodIn_r _ [21, 22, 10, 23, 24, 25, 26, 8, 27, 71, 72, 73] (by decide +kernel) (by decide +kernel)
set_option maxRecDepth 20000 in
theorem gX5_heap_X2_append : GoodIn wsX5_heap (wsV RX5 160 RX2 yX2_append wsX2_append) := goodIn_app (goodIn_of _ (by decide +kernel)) ggX5_heap_X2_append
set_option maxRecDepth 20000 in
theorem ggX5_heap_X0_begin : GoodIn wsX5_heap wsX0_begin := goodIn_r _ [32, 33, 78] (by decide +kernel) (by decide +kernel)
set_option maxRecDepth 20000 in
theorem gX5_heap_X0_begin : GoodIn wsX5_heap (wsV RX5 62 RX0 yX0_begin wsX0_begin) := goodIn_app (goodIn_of _ (by decide +kernel)) ggX5_heap_X0_begin
set_option maxRecDepth 20000 in
theorem ggX5_heap_X2_size : GoodIn wsX5_heap wsX2_size := goodIn_r _ [37, 10, 71, 72, 73] (by decide +kernel) (by decide +kernel)
set_option maxRecDepth 20000 in
theorem gX5_heap_X2_size : GoodIn wsX5_heap (wsV RX5 163 RX2 yX2_size wsX2_size) := goodIn_app (goodIn_of _ (by decide +kernel)) ggX5_heap_X2_size
set_option maxRecDepth 20000 in
theorem ggX5_heap_X0_below : GoodIn wsX5_heap wsX0_below := goodIn_r _ [41, 33, 42, 43, 44, 45, 78] (by decide +kernel) (by decide +kernel)
set_option maxRecDepth 20000 in
theorem gX5_heap_X0_below : GoodIn wsX5_heap (wsV RX5 66 RX0 yX0_below wsX0_below) := goodIn_app (goodIn_of _ (by decide +kernel)) ggX5_heap_X0_below
set_option maxRecDepth 20000 in
theorem ggX5_heap_X2_swapPieces : GoodIn wsX5_heap wsX2_swapPieces := goodIn_r _ [49, 22, 50, 51, 52, 8, 53, 10, 71, 72, 73] (by decide +kernel) (by decide +kernel)
set_option maxRecDepth 20000 in
theorem gX5_heap_X2_swapPieces : GoodIn wsX5_heap (wsV RX5 169 RX2 yX2_swapPieces wsX2_swapPieces) := goodIn_app (goodIn_of _ (by decide +kernel)) ggX5_heap_X2_swapPieces
set_option maxRecDepth 20000 in
theorem ggX5_heap_X2_setTurn : GoodIn wsX5_heap wsX2_setTurn := goodIn_r _ [57, 23, 50, 51, 52, 8, 53, 10, 71, 72, 73] (by decide +kernel) (by decide +kernel)
set_option maxRecDepth 20000 in
theorem gX5_heap_X2_setTurn : GoodIn wsX5_heap (wsV RX5 172 RX2 yX2_setTurn wsX2_setTurn) := goodIn_app (goodIn_of _ (by decide +kernel)) ggX5_heap_X2_setTurn
set_option maxRecDepth 20000 in
theorem ggX5_heap_X3_forgetJoined : GoodIn wsX5_heap wsX3_forgetJoined := goodIn_r _ [62, 63, 79, 80, 81, 82, 83, 84, 85, 86, 87, 88, 89, 90, 91] (by decide +kernel) (by decide +kernel)
set_option maxRecDepth 20000 in
theorem gX5_heap_X3_forgetJoined : GoodIn wsX5_heap (wsV RX5 55 RX3 yX3_forgetJoined wsX3_forgetJoined) := goodIn_app (goodIn_of _ (by decide +kernel)) ggX5_heap_X3_forgetJoined
theorem dX5_heap_0 : decode cX5_heap 0 = .ok (.aload_n 0, 1) := by decide +kernel
theorem dX5_heap_1 : decode cX5_heap 1 = .ok (.getfield 21, 3) := by decide +kernel
theorem dX5_heap_4 : decode cX5_heap 4 = .ok (.invokevirtual 52, 3) := by decide +kernel
theorem dX5_heap_7 : decode cX5_heap 7 = .ok (.iconst 0, 1) := by decide +kernel
theorem dX5_heap_8 : decode cX5_heap 8 = .ok (.istore_n 3, 1) := by decide +kernel
theorem dX5_heap_9 : decode cX5_heap 9 = .ok (.iload_n 3, 1) := by decide +kernel
theorem dX5_heap_10 : decode cX5_heap 10 = .ok (.aload_n 0, 1) := by decide +kernel
theorem dX5_heap_11 : decode cX5_heap 11 = .ok (.getfield 12, 3) := by decide +kernel
theorem dX5_heap_14 : decode cX5_heap 14 = .ok (.invokevirtual 166, 3) := by decide +kernel
theorem dX5_heap_17 : decode cX5_heap 17 = .ok (.if_icmp .ge 18, 3) := by decide +kernel
theorem dX5_heap_20 : decode cX5_heap 20 = .ok (.aload_n 0, 1) := by decide +kernel
theorem dX5_heap_21 : decode cX5_heap 21 = .ok (.getfield 21, 3) := by decide +kernel
theorem dX5_heap_24 : decode cX5_heap 24 = .ok (.iload_n 3, 1) := by decide +kernel
theorem dX5_heap_25 : decode cX5_heap 25 = .ok (.iconst 0, 1) := by decide +kernel
theorem dX5_heap_26 : decode cX5_heap 26 = .ok (.invokevirtual 160, 3) := by decide +kernel
theorem dX5_heap_29 : decode cX5_heap 29 = .ok (.iinc 3 1, 3) := by decide +kernel
theorem dX5_heap_32 : decode cX5_heap 32 = .ok (.goto (-23), 3) := by decide +kernel
theorem dX5_heap_35 : decode cX5_heap 35 = .ok (.aload_n 0, 1) := by decide +kernel
theorem dX5_heap_36 : decode cX5_heap 36 = .ok (.getfield 37, 3) := by decide +kernel
theorem dX5_heap_39 : decode cX5_heap 39 = .ok (.lload_n 1, 1) := by decide +kernel
theorem dX5_heap_40 : decode cX5_heap 40 = .ok (.invokevirtual 62, 3) := by decide +kernel
theorem dX5_heap_43 : decode cX5_heap 43 = .ok (.aload_n 0, 1) := by decide +kernel
theorem dX5_heap_44 : decode cX5_heap 44 = .ok (.getfield 21, 3) := by decide +kernel
theorem dX5_heap_47 : decode cX5_heap 47 = .ok (.invokevirtual 163, 3) := by decide +kernel
theorem dX5_heap_50 : decode cX5_heap 50 = .ok (.iconst 1, 1) := by decide +kernel
theorem dX5_heap_51 : decode cX5_heap 51 = .ok (.isub, 1) := by decide +kernel
theorem dX5_heap_52 : decode cX5_heap 52 = .ok (.istore_n 3, 1) := by decide +kernel
theorem dX5_heap_53 : decode cX5_heap 53 = .ok (.iload_n 3, 1) := by decide +kernel
theorem dX5_heap_54 : decode cX5_heap 54 = .ok (.iconst 1, 1) := by decide +kernel
theorem dX5_heap_55 : decode cX5_heap 55 = .ok (.if_icmp .lt 27, 3) := by decide +kernel
theorem dX5_heap_58 : decode cX5_heap 58 = .ok (.aload_n 0, 1) := by decide +kernel
theorem dX5_heap_59 : decode cX5_heap 59 = .ok (.getfield 21, 3) := by decide +kernel
theorem dX5_heap_62 : decode cX5_heap 62 = .ok (.iload_n 3, 1) := by decide +kernel
theorem dX5_heap_63 : decode cX5_heap 63 = .ok (.aload_n 0, 1) := by decide +kernel
theorem dX5_heap_64 : decode cX5_heap 64 = .ok (.getfield 37, 3) := by decide +kernel
theorem dX5_heap_67 : decode cX5_heap 67 = .ok (.iload_n 3, 1) := by decide +kernel
theorem dX5_heap_68 : decode cX5_heap 68 = .ok (.iconst 1, 1) := by decide +kernel
theorem dX5_heap_69 : decode cX5_heap 69 = .ok (.iadd, 1) := by decide +kernel
theorem dX5_heap_70 : decode cX5_heap 70 = .ok (.invokevirtual 66, 3) := by decide +kernel
theorem dX5_heap_73 : decode cX5_heap 73 = .ok (.invokevirtual 169, 3) := by decide +kernel
theorem dX5_heap_76 : decode cX5_heap 76 = .ok (.iinc 3 (-1), 3) := by decide +kernel
theorem dX5_heap_79 : decode cX5_heap 79 = .ok (.goto (-26), 3) := by decide +kernel
theorem dX5_heap_82 : decode cX5_heap 82 = .ok (.iconst 0, 1) := by decide +kernel
theorem dX5_heap_83 : decode cX5_heap 83 = .ok (.istore_n 3, 1) := by decide +kernel
theorem dX5_heap_84 : decode cX5_heap 84 = .ok (.iload_n 3, 1) := by decide +kernel
theorem dX5_heap_85 : decode cX5_heap 85 = .ok (.aload_n 0, 1) := by decide +kernel
theorem dX5_heap_86 : decode cX5_heap 86 = .ok (.getfield 21, 3) := by decide +kernel
theorem dX5_heap_89 : decode cX5_heap 89 = .ok (.invokevirtual 163, 3) := by decide +kernel
theorem dX5_heap_92 : decode cX5_heap 92 = .ok (.if_icmp .ge 25, 3) := by decide +kernel
theorem dX5_heap_95 : decode cX5_heap 95 = .ok (.aload_n 0, 1) := by decide +kernel
theorem dX5_heap_96 : decode cX5_heap 96 = .ok (.getfield 21, 3) := by decide +kernel
theorem dX5_heap_99 : decode cX5_heap 99 = .ok (.iload_n 3, 1) := by decide +kernel
theorem dX5_heap_100 : decode cX5_heap 100 = .ok (.aload_n 0, 1) := by decide +kernel
theorem dX5_heap_101 : decode cX5_heap 101 = .ok (.getfield 37, 3) := by decide +kernel
theorem dX5_heap_104 : decode cX5_heap 104 = .ok (.iconst 4, 1) := by decide +kernel
theorem dX5_heap_105 : decode cX5_heap 105 = .ok (.invokevirtual 66, 3) := by decide +kernel
theorem dX5_heap_108 : decode cX5_heap 108 = .ok (.invokevirtual 172, 3) := by decide +kernel
theorem dX5_heap_111 : decode cX5_heap 111 = .ok (.iinc 3 1, 3) := by decide +kernel
theorem dX5_heap_114 : decode cX5_heap 114 = .ok (.goto (-30), 3) := by decide +kernel
theorem dX5_heap_117 : decode cX5_heap 117 = .ok (.aload_n 0, 1) := by decide +kernel
theorem dX5_heap_118 : decode cX5_heap 118 = .ok (.getfield 30, 3) := by decide +kernel
theorem dX5_heap_121 : decode cX5_heap 121 = .ok (.invokevirtual 55, 3) := by decide +kernel
theorem dX5_heap_124 : decode cX5_heap 124 = .ok (.aload_n 0, 1) := by decide +kernel
theorem dX5_heap_125 : decode cX5_heap 125 = .ok (.getfield 21, 3) := by decide +kernel
theorem dX5_heap_128 : decode cX5_heap 128 = .ok (.invokevirtual 163, 3) := by decide +kernel
theorem dX5_heap_131 : decode cX5_heap 131 = .ok (.ireturn, 1) := by decide +kernel
set_option maxRecDepth 20000 in
theorem ggX5_take_X2_hasPlace : GoodIn wsX5_take wsX2_hasPlace := goodIn_r _ [7, 8, 33, 34, 35] (by decide +kernel) (by decide +kernel)
set_option maxRecDepth 20000 in
theorem gX5_take_X2_hasPlace : GoodIn wsX5_take (wsV RX5 175 RX2 yX2_hasPlace wsX2_hasPlace) := goodIn_app (goodIn_of _ (by decide +kernel)) ggX5_take_X2_hasPlace
set_option maxRecDepth 20000 in
theorem ggX5_take_X2_pieceAt : GoodIn wsX5_take wsX2_pieceAt := goodIn_r _ [12, 13, 14, 4, 5, 6, 7, 8, 33, 34, 35] (by decide +kernel) (by decide +kernel)
set_option maxRecDepth 20000 in
theorem gX5_take_X2_pieceAt : GoodIn wsX5_take (wsV RX5 178 RX2 yX2_pieceAt wsX2_pieceAt) := goodIn_app (goodIn_of _ (by decide +kernel)) ggX5_take_X2_pieceAt
set_option maxRecDepth 20000 in
theorem ggX5_take_X2_removeAt : GoodIn wsX5_take wsX2_removeAt := goodIn_r _ [18, 8, 13, 19, 14, 4, 5, 6, 7, 33, 34, 35] (by decide +kernel) (by decide +kernel)
set_option maxRecDepth 20000 in
theorem gX5_take_X2_removeAt : GoodIn wsX5_take (wsV RX5 181 RX2 yX2_removeAt wsX2_removeAt) := goodIn_app (goodIn_of _ (by decide +kernel)) ggX5_take_X2_removeAt
set_option maxRecDepth 20000 in
theorem ggX5_take_X3_forgetJoined : GoodIn wsX5_take wsX3_forgetJoined := goodIn_r _ [24, 25, 36, 37, 38, 39, 40, 41, 42, 43, 44, 45, 46, 47, 48] (by decide +kernel) (by decide +kernel)
set_option maxRecDepth 20000 in
theorem gX5_take_X3_forgetJoined : GoodIn wsX5_take (wsV RX5 55 RX3 yX3_forgetJoined wsX3_forgetJoined) := goodIn_app (goodIn_of _ (by decide +kernel)) ggX5_take_X3_forgetJoined
theorem dX5_take_0 : decode cX5_take 0 = .ok (.aload_n 0, 1) := by decide +kernel
theorem dX5_take_1 : decode cX5_take 1 = .ok (.getfield 21, 3) := by decide +kernel
theorem dX5_take_4 : decode cX5_take 4 = .ok (.iload_n 1, 1) := by decide +kernel
theorem dX5_take_5 : decode cX5_take 5 = .ok (.invokevirtual 175, 3) := by decide +kernel
theorem dX5_take_8 : decode cX5_take 8 = .ok (.ifCond .ne 5, 3) := by decide +kernel
theorem dX5_take_11 : decode cX5_take 11 = .ok (.iconst (-1), 1) := by decide +kernel
theorem dX5_take_12 : decode cX5_take 12 = .ok (.ireturn, 1) := by decide +kernel
theorem dX5_take_13 : decode cX5_take 13 = .ok (.aload_n 0, 1) := by decide +kernel
theorem dX5_take_14 : decode cX5_take 14 = .ok (.getfield 21, 3) := by decide +kernel
theorem dX5_take_17 : decode cX5_take 17 = .ok (.iload_n 1, 1) := by decide +kernel
theorem dX5_take_18 : decode cX5_take 18 = .ok (.invokevirtual 178, 3) := by decide +kernel
theorem dX5_take_21 : decode cX5_take 21 = .ok (.istore_n 2, 1) := by decide +kernel
theorem dX5_take_22 : decode cX5_take 22 = .ok (.aload_n 0, 1) := by decide +kernel
theorem dX5_take_23 : decode cX5_take 23 = .ok (.getfield 21, 3) := by decide +kernel
theorem dX5_take_26 : decode cX5_take 26 = .ok (.iload_n 1, 1) := by decide +kernel
theorem dX5_take_27 : decode cX5_take 27 = .ok (.invokevirtual 181, 3) := by decide +kernel
theorem dX5_take_30 : decode cX5_take 30 = .ok (.aload_n 0, 1) := by decide +kernel
theorem dX5_take_31 : decode cX5_take 31 = .ok (.getfield 30, 3) := by decide +kernel
theorem dX5_take_34 : decode cX5_take 34 = .ok (.invokevirtual 55, 3) := by decide +kernel
theorem dX5_take_37 : decode cX5_take 37 = .ok (.iload_n 2, 1) := by decide +kernel
theorem dX5_take_38 : decode cX5_take 38 = .ok (.ireturn, 1) := by decide +kernel
set_option maxRecDepth 20000 in
theorem ggX5_heaped_X2_hasPlace : GoodIn wsX5_heaped wsX2_hasPlace := goodIn_r _ [6, 7, 26, 27, 28] (by decide +kernel) (by decide +kernel)
set_option maxRecDepth 20000 in
theorem gX5_heaped_X2_hasPlace : GoodIn wsX5_heaped (wsV RX5 175 RX2 yX2_hasPlace wsX2_hasPlace) := goodIn_app (goodIn_of _ (by decide +kernel)) ggX5_heaped_X2_hasPlace
set_option maxRecDepth 20000 in
theorem ggX5_heaped_X2_pieceAt : GoodIn wsX5_heaped wsX2_pieceAt := goodIn_r _ [11, 12, 13, 3, 4, 5, 6, 7, 26, 27, 28] (by decide +kernel) (by decide +kernel)
set_option maxRecDepth 20000 in
theorem gX5_heaped_X2_pieceAt : GoodIn wsX5_heaped (wsV RX5 178 RX2 yX2_pieceAt wsX2_pieceAt) := goodIn_app (goodIn_of _ (by decide +kernel)) ggX5_heaped_X2_pieceAt
set_option maxRecDepth 20000 in
theorem ggX5_heaped_X2_turnAt : GoodIn wsX5_heaped wsX2_turnAt := goodIn_r _ [17, 18, 13, 3, 4, 5, 6, 7, 26, 27, 28] (by decide +kernel) (by decide +kernel)
set_option maxRecDepth 20000 in
theorem gX5_heaped_X2_turnAt : GoodIn wsX5_heaped (wsV RX5 185 RX2 yX2_turnAt wsX2_turnAt) := goodIn_app (goodIn_of _ (by decide +kernel)) ggX5_heaped_X2_turnAt
theorem dX5_heaped_0 : decode cX5_heaped 0 = .ok (.aload_n 0, 1) := by decide +kernel
theorem dX5_heaped_1 : decode cX5_heaped 1 = .ok (.getfield 21, 3) := by decide +kernel
theorem dX5_heaped_4 : decode cX5_heaped 4 = .ok (.iload_n 1, 1) := by decide +kernel
theorem dX5_heaped_5 : decode cX5_heaped 5 = .ok (.invokevirtual 175, 3) := by decide +kernel
theorem dX5_heaped_8 : decode cX5_heaped 8 = .ok (.ifCond .ne 5, 3) := by decide +kernel
theorem dX5_heaped_11 : decode cX5_heaped 11 = .ok (.iconst (-1), 1) := by decide +kernel
theorem dX5_heaped_12 : decode cX5_heaped 12 = .ok (.ireturn, 1) := by decide +kernel
theorem dX5_heaped_13 : decode cX5_heaped 13 = .ok (.iload_n 2, 1) := by decide +kernel
theorem dX5_heaped_14 : decode cX5_heaped 14 = .ok (.lookupswitch 44 #[(0, 26), (1, 35)], 26) := by decide +kernel
theorem dX5_heaped_40 : decode cX5_heaped 40 = .ok (.aload_n 0, 1) := by decide +kernel
theorem dX5_heaped_41 : decode cX5_heaped 41 = .ok (.getfield 21, 3) := by decide +kernel
theorem dX5_heaped_44 : decode cX5_heaped 44 = .ok (.iload_n 1, 1) := by decide +kernel
theorem dX5_heaped_45 : decode cX5_heaped 45 = .ok (.invokevirtual 178, 3) := by decide +kernel
theorem dX5_heaped_48 : decode cX5_heaped 48 = .ok (.ireturn, 1) := by decide +kernel
theorem dX5_heaped_49 : decode cX5_heaped 49 = .ok (.aload_n 0, 1) := by decide +kernel
theorem dX5_heaped_50 : decode cX5_heaped 50 = .ok (.getfield 21, 3) := by decide +kernel
theorem dX5_heaped_53 : decode cX5_heaped 53 = .ok (.iload_n 1, 1) := by decide +kernel
theorem dX5_heaped_54 : decode cX5_heaped 54 = .ok (.invokevirtual 185, 3) := by decide +kernel
theorem dX5_heaped_57 : decode cX5_heaped 57 = .ok (.ireturn, 1) := by decide +kernel
theorem dX5_heaped_58 : decode cX5_heaped 58 = .ok (.bipush (-2), 2) := by decide +kernel
theorem dX5_heaped_60 : decode cX5_heaped 60 = .ok (.ireturn, 1) := by decide +kernel
set_option maxRecDepth 20000 in
theorem ggX5_missing_X5_isMissingWhat : GoodIn wsX5_missing wsX5_isMissingWhat := goodIn_r _ [4] (by decide +kernel) (by decide +kernel)
set_option maxRecDepth 20000 in
theorem gX5_missing_X5_isMissingWhat : GoodIn wsX5_missing (va_wsS RX5 188 yX5_isMissingWhat wsX5_isMissingWhat) := goodIn_app (goodIn_of _ (by decide +kernel)) ggX5_missing_X5_isMissingWhat
set_option maxRecDepth 20000 in
theorem ggX5_missing_X5_countMissing : GoodIn wsX5_missing wsX5_countMissing := goodIn_r _ [8, 9, 10, 11, 12, 13, 14, 15, 16, 17, 18, 19, 3, 20, 21, 22, 23, 24, 25, 26, 27, 28, 29, 30, 31, 32, 33, 34, 35, 36, 37, 38, 39, 40, 41, 42] (by decide +kernel) (by decide +kernel)
set_option maxRecDepth 20000 in
theorem gX5_missing_X5_countMissing : GoodIn wsX5_missing (wsV RX5 191 RX5 yX5_countMissing wsX5_countMissing) := goodIn_app (goodIn_of _ (by decide +kernel)) ggX5_missing_X5_countMissing
theorem dX5_missing_0 : decode cX5_missing 0 = .ok (.iload_n 1, 1) := by decide +kernel
theorem dX5_missing_1 : decode cX5_missing 1 = .ok (.invokestatic 188, 3) := by decide +kernel
theorem dX5_missing_4 : decode cX5_missing 4 = .ok (.ifCond .ne 6, 3) := by decide +kernel
theorem dX5_missing_7 : decode cX5_missing 7 = .ok (.bipush (-2), 2) := by decide +kernel
theorem dX5_missing_9 : decode cX5_missing 9 = .ok (.ireturn, 1) := by decide +kernel
theorem dX5_missing_10 : decode cX5_missing 10 = .ok (.aload_n 0, 1) := by decide +kernel
theorem dX5_missing_11 : decode cX5_missing 11 = .ok (.iload_n 1, 1) := by decide +kernel
theorem dX5_missing_12 : decode cX5_missing 12 = .ok (.invokevirtual 191, 3) := by decide +kernel
theorem dX5_missing_15 : decode cX5_missing 15 = .ok (.ireturn, 1) := by decide +kernel
set_option maxRecDepth 20000 in
theorem ggX5_missed_X5_isMissingWhat : GoodIn wsX5_missed wsX5_isMissingWhat := goodIn_r _ [4] (by decide +kernel) (by decide +kernel)
set_option maxRecDepth 20000 in
theorem gX5_missed_X5_isMissingWhat : GoodIn wsX5_missed (va_wsS RX5 188 yX5_isMissingWhat wsX5_isMissingWhat) := goodIn_app (goodIn_of _ (by decide +kernel)) ggX5_missed_X5_isMissingWhat
set_option maxRecDepth 20000 in
theorem ggX5_missed_X5_missingPiece : GoodIn wsX5_missed wsX5_missingPiece := goodIn_r _ [8, 9, 10, 11, 12, 13, 14, 15, 16, 17, 18, 19, 3, 20, 21, 22, 23, 24, 25, 26, 27, 28, 29, 30, 31, 32, 33, 34, 35, 36, 37, 38, 39, 40, 41, 42] (by decide +kernel) (by decide +kernel)
set_option maxRecDepth 20000 in
theorem gX5_missed_X5_missingPiece : GoodIn wsX5_missed (wsV RX5 194 RX5 yX5_missingPiece wsX5_missingPiece) := goodIn_app (goodIn_of _ (by decide +kernel)) ggX5_missed_X5_missingPiece
theorem dX5_missed_0 : decode cX5_missed 0 = .ok (.iload_n 2, 1) := by decide +kernel
theorem dX5_missed_1 : decode cX5_missed 1 = .ok (.ifCond .ge 5, 3) := by decide +kernel
theorem dX5_missed_4 : decode cX5_missed 4 = .ok (.iconst (-1), 1) := by decide +kernel
theorem dX5_missed_5 : decode cX5_missed 5 = .ok (.ireturn, 1) := by decide +kernel
theorem dX5_missed_6 : decode cX5_missed 6 = .ok (.iload_n 1, 1) := by decide +kernel
theorem dX5_missed_7 : decode cX5_missed 7 = .ok (.invokestatic 188, 3) := by decide +kernel
theorem dX5_missed_10 : decode cX5_missed 10 = .ok (.ifCond .ne 6, 3) := by decide +kernel
theorem dX5_missed_13 : decode cX5_missed 13 = .ok (.bipush (-2), 2) := by decide +kernel
theorem dX5_missed_15 : decode cX5_missed 15 = .ok (.ireturn, 1) := by decide +kernel
theorem dX5_missed_16 : decode cX5_missed 16 = .ok (.aload_n 0, 1) := by decide +kernel
theorem dX5_missed_17 : decode cX5_missed 17 = .ok (.iload_n 1, 1) := by decide +kernel
theorem dX5_missed_18 : decode cX5_missed 18 = .ok (.iload_n 2, 1) := by decide +kernel
theorem dX5_missed_19 : decode cX5_missed 19 = .ok (.invokevirtual 194, 3) := by decide +kernel
theorem dX5_missed_22 : decode cX5_missed 22 = .ok (.ireturn, 1) := by decide +kernel
set_option maxRecDepth 20000 in
theorem ggX5_ways_X3_countWays : GoodIn wsX5_ways wsX3_countWays := goodIn_r _ [6, 7, 8, 9, 10, 11, 5, 12, 13, 14, 15, 16, 17, 18, 19, 20, 21, 22, 23, 24, 25, 26, 27, 28, 29, 30, 31, 32, 33, 34, 35, 36, 37, 38, 39, 40, 41, 42, 43, 44, 45, 46, 47, 48, 49, 50, 51, 52, 53, 54, 55, 56, 57, 58, 59, 60, 61, 62, 63, 64, 65, 66, 67, 68, 69, 70, 71, 72, 73, 74, 75, 76, 77, 78, 79, 80, 81, 82, 83, 84, 85, 86, 87, 88, 89, 90, 91, 92, 93, 94, 95, 96, 97, 98, 99, 100, 101, 102, 103, 104, 105, 113, 114, 115, 116, 117, 118, 119, 120, 121, 122, 123, 124, 125, 126, 127, 128, 129, 130, 131, 132] (by decide +kernel) (by decide +kernel)
set_option maxRecDepth 20000 in
theorem gX5_ways_X3_countWays : GoodIn wsX5_ways (wsV RX5 197 RX3 yX3_countWays wsX3_countWays) := goodIn_app (goodIn_of _ (by decide +kernel)) ggX5_ways_X3_countWays
theorem dX5_ways_0 : decode cX5_ways 0 = .ok (.aload_n 0, 1) := by decide +kernel
theorem dX5_ways_1 : decode cX5_ways 1 = .ok (.getfield 30, 3) := by decide +kernel
theorem dX5_ways_4 : decode cX5_ways 4 = .ok (.invokevirtual 197, 3) := by decide +kernel
theorem dX5_ways_7 : decode cX5_ways 7 = .ok (.ireturn, 1) := by decide +kernel
set_option maxRecDepth 20000 in
theorem ggX5_join_X3_findFirst : GoodIn wsX5_join wsX3_findFirst := goodIn_r _ [6, 7, 8, 9, 10, 11, 12, 13, 14, 15, 5, 16, 17, 18, 19, 20, 21, 22, 23, 24, 25, 26, 27, 28, 29, 30, 31, 32, 33, 34, 35, 36, 37, 38, 39, 40, 41, 42, 43, 44, 45, 46, 47, 48, 49, 50, 51, 52, 53, 54, 55, 56, 57, 58, 59, 60, 61, 62, 63, 64, 65, 66, 67, 68, 69, 70, 71, 72, 73, 74, 75, 76, 77, 78, 79, 80, 81, 82, 83, 84, 85, 86, 87, 88, 89, 90, 91, 92, 93, 94, 95, 96, 97, 98, 99, 100, 101, 102, 103, 104, 105, 106, 107, 115, 116, 117, 118, 119, 120, 121, 122, 123, 124, 125, 126, 127, 128, 129, 130, 131, 132, 133, 134] (by decide +kernel) (by decide +kernel)
set_option maxRecDepth 20000 in
theorem gX5_join_X3_findFirst : GoodIn wsX5_join (wsV RX5 200 RX3 yX3_findFirst wsX3_findFirst) := goodIn_app (goodIn_of _ (by decide +kernel)) ggX5_join_X3_findFirst
theorem dX5_join_0 : decode cX5_join 0 = .ok (.aload_n 0, 1) := by decide +kernel
theorem dX5_join_1 : decode cX5_join 1 = .ok (.getfield 30, 3) := by decide +kernel
theorem dX5_join_4 : decode cX5_join 4 = .ok (.invokevirtual 200, 3) := by decide +kernel
theorem dX5_join_7 : decode cX5_join 7 = .ok (.ireturn, 1) := by decide +kernel
set_option maxRecDepth 20000 in
theorem ggX5_joined_X3_hasJoined : GoodIn wsX5_joined wsX3_hasJoined := goodIn_r _ [7, 8, 39, 40, 41, 42, 43, 44, 45, 46, 47, 48, 49, 50, 51] (by decide +kernel) (by decide +kernel)
set_option maxRecDepth 20000 in
theorem gX5_joined_X3_hasJoined : GoodIn wsX5_joined (wsV RX5 203 RX3 yX3_hasJoined wsX3_hasJoined) := goodIn_app (goodIn_of _ (by decide +kernel)) ggX5_joined_X3_hasJoined
set_option maxRecDepth 20000 in
theorem ggX5_joined_X1_hasPiece : GoodIn wsX5_joined wsX1_hasPiece := goodIn_r _ [13, 14, 15, 16, 12, 17, 18, 19, 52, 53, 54, 55] (by decide +kernel) (by decide +kernel)
set_option maxRecDepth 20000 in
theorem gX5_joined_X1_hasPiece : GoodIn wsX5_joined (wsV RX5 154 RX1 yX1_hasPiece wsX1_hasPiece) := goodIn_app (goodIn_of _ (by decide +kernel)) ggX5_joined_X1_hasPiece
set_option maxRecDepth 20000 in
theorem ggX5_joined_X3_joinedFrom : GoodIn wsX5_joined wsX3_joinedFrom := goodIn_r _ [23, 24, 25, 26, 6, 27, 39, 40, 41, 42, 43, 44, 45, 46, 47, 48, 49, 50, 51] (by decide +kernel) (by decide +kernel)
set_option maxRecDepth 20000 in
theorem gX5_joined_X3_joinedFrom : GoodIn wsX5_joined (wsV RX5 206 RX3 yX3_joinedFrom wsX3_joinedFrom) := goodIn_app (goodIn_of _ (by decide +kernel)) ggX5_joined_X3_joinedFrom
set_option maxRecDepth 20000 in
theorem ggX5_joined_X3_joinedTurn : GoodIn wsX5_joined wsX3_joinedTurn := goodIn_r _ [31, 24, 25, 26, 6, 27, 39, 40, 41, 42, 43, 44, 45, 46, 47, 48, 49, 50, 51] (by decide +kernel) (by decide +kernel)
set_option maxRecDepth 20000 in
theorem gX5_joined_X3_joinedTurn : GoodIn wsX5_joined (wsV RX5 209 RX3 yX3_joinedTurn wsX3_joinedTurn) := goodIn_app (goodIn_of _ (by decide +kernel)) ggX5_joined_X3_joinedTurn
theorem dX5_joined_0 : decode cX5_joined 0 = .ok (.aload_n 0, 1) := by decide +kernel
theorem dX5_joined_1 : decode cX5_joined 1 = .ok (.getfield 30, 3) := by decide +kernel
theorem dX5_joined_4 : decode cX5_joined 4 = .ok (.invokevirtual 203, 3) := by decide +kernel
theorem dX5_joined_7 : decode cX5_joined 7 = .ok (.ifCond .ne 6, 3) := by decide +kernel
theorem dX5_joined_10 : decode cX5_joined 10 = .ok (.bipush (-3), 2) := by decide +kernel
theorem dX5_joined_12 : decode cX5_joined 12 = .ok (.ireturn, 1) := by decide +kernel
theorem dX5_joined_13 : decode cX5_joined 13 = .ok (.aload_n 0, 1) := by decide +kernel
theorem dX5_joined_14 : decode cX5_joined 14 = .ok (.getfield 12, 3) := by decide +kernel
theorem dX5_joined_17 : decode cX5_joined 17 = .ok (.iload_n 1, 1) := by decide +kernel
theorem dX5_joined_18 : decode cX5_joined 18 = .ok (.invokevirtual 154, 3) := by decide +kernel
theorem dX5_joined_21 : decode cX5_joined 21 = .ok (.ifCond .ne 5, 3) := by decide +kernel
theorem dX5_joined_24 : decode cX5_joined 24 = .ok (.iconst (-1), 1) := by decide +kernel
theorem dX5_joined_25 : decode cX5_joined 25 = .ok (.ireturn, 1) := by decide +kernel
theorem dX5_joined_26 : decode cX5_joined 26 = .ok (.iload_n 2, 1) := by decide +kernel
theorem dX5_joined_27 : decode cX5_joined 27 = .ok (.lookupswitch 43 #[(0, 25), (1, 34)], 25) := by decide +kernel
theorem dX5_joined_52 : decode cX5_joined 52 = .ok (.aload_n 0, 1) := by decide +kernel
theorem dX5_joined_53 : decode cX5_joined 53 = .ok (.getfield 30, 3) := by decide +kernel
theorem dX5_joined_56 : decode cX5_joined 56 = .ok (.iload_n 1, 1) := by decide +kernel
theorem dX5_joined_57 : decode cX5_joined 57 = .ok (.invokevirtual 206, 3) := by decide +kernel
theorem dX5_joined_60 : decode cX5_joined 60 = .ok (.ireturn, 1) := by decide +kernel
theorem dX5_joined_61 : decode cX5_joined 61 = .ok (.aload_n 0, 1) := by decide +kernel
theorem dX5_joined_62 : decode cX5_joined 62 = .ok (.getfield 30, 3) := by decide +kernel
theorem dX5_joined_65 : decode cX5_joined 65 = .ok (.iload_n 1, 1) := by decide +kernel
theorem dX5_joined_66 : decode cX5_joined 66 = .ok (.invokevirtual 209, 3) := by decide +kernel
theorem dX5_joined_69 : decode cX5_joined 69 = .ok (.ireturn, 1) := by decide +kernel
theorem dX5_joined_70 : decode cX5_joined 70 = .ok (.bipush (-2), 2) := by decide +kernel
theorem dX5_joined_72 : decode cX5_joined 72 = .ok (.ireturn, 1) := by decide +kernel
set_option maxRecDepth 20000 in
theorem ggX5_trials_X3_trialsCounted : GoodIn wsX5_trials wsX3_trialsCounted := goodIn_r _ [6, 7, 15, 16, 17, 18, 19, 20, 21, 22, 23, 24, 25, 26, 27] (by decide +kernel) (by decide +kernel)
set_option maxRecDepth 20000 in
theorem gX5_trials_X3_trialsCounted : GoodIn wsX5_trials (wsV RX5 212 RX3 yX3_trialsCounted wsX3_trialsCounted) := goodIn_app (goodIn_of _ (by decide +kernel)) ggX5_trials_X3_trialsCounted
theorem dX5_trials_0 : decode cX5_trials 0 = .ok (.aload_n 0, 1) := by decide +kernel
theorem dX5_trials_1 : decode cX5_trials 1 = .ok (.getfield 30, 3) := by decide +kernel
theorem dX5_trials_4 : decode cX5_trials 4 = .ok (.invokevirtual 212, 3) := by decide +kernel
theorem dX5_trials_7 : decode cX5_trials 7 = .ok (.ireturn, 1) := by decide +kernel
set_option maxRecDepth 20000 in
theorem ggX5_known_X1_hasPiece : GoodIn wsX5_known wsX1_hasPiece := goodIn_r _ [7, 8, 9, 10, 6, 11, 12, 13, 41, 42, 43, 44] (by decide +kernel) (by decide +kernel)
set_option maxRecDepth 20000 in
theorem gX5_known_X1_hasPiece : GoodIn wsX5_known (wsV RX5 154 RX1 yX1_hasPiece wsX1_hasPiece) := goodIn_app (goodIn_of _ (by decide +kernel)) ggX5_known_X1_hasPiece
set_option maxRecDepth 20000 in
theorem ggX5_known_X2_timesOf : GoodIn wsX5_known wsX2_timesOf := goodIn_r _ [18, 19, 20, 45, 46, 47] (by decide +kernel) (by decide +kernel)
set_option maxRecDepth 20000 in
theorem gX5_known_X2_timesOf : GoodIn wsX5_known (wsV RX5 215 RX2 yX2_timesOf wsX2_timesOf) := goodIn_app (goodIn_of _ (by decide +kernel)) ggX5_known_X2_timesOf
set_option maxRecDepth 20000 in
theorem ggX5_known_X1_isFlat : GoodIn wsX5_known wsX1_isFlat := goodIn_r _ [24, 25, 26, 27, 6, 28, 29, 41, 42, 43, 44] (by decide +kernel) (by decide +kernel)
set_option maxRecDepth 20000 in
theorem gX5_known_X1_isFlat : GoodIn wsX5_known (wsV RX5 132 RX1 yX1_isFlat wsX1_isFlat) := goodIn_app (goodIn_of _ (by decide +kernel)) ggX5_known_X1_isFlat
set_option maxRecDepth 20000 in
theorem ggX5_known_X1_nextTo : GoodIn wsX5_known wsX1_nextTo := goodIn_r _ [33, 12, 41, 42, 43, 44] (by decide +kernel) (by decide +kernel)
set_option maxRecDepth 20000 in
theorem gX5_known_X1_nextTo : GoodIn wsX5_known (wsV RX5 218 RX1 yX1_nextTo wsX1_nextTo) := goodIn_app (goodIn_of _ (by decide +kernel)) ggX5_known_X1_nextTo
theorem dX5_known_0 : decode cX5_known 0 = .ok (.aload_n 0, 1) := by decide +kernel
theorem dX5_known_1 : decode cX5_known 1 = .ok (.getfield 12, 3) := by decide +kernel
theorem dX5_known_4 : decode cX5_known 4 = .ok (.iload_n 1, 1) := by decide +kernel
theorem dX5_known_5 : decode cX5_known 5 = .ok (.invokevirtual 154, 3) := by decide +kernel
theorem dX5_known_8 : decode cX5_known 8 = .ok (.ifCond .ne 5, 3) := by decide +kernel
theorem dX5_known_11 : decode cX5_known 11 = .ok (.iconst (-1), 1) := by decide +kernel
theorem dX5_known_12 : decode cX5_known 12 = .ok (.ireturn, 1) := by decide +kernel
theorem dX5_known_13 : decode cX5_known 13 = .ok (.aload_n 0, 1) := by decide +kernel
theorem dX5_known_14 : decode cX5_known 14 = .ok (.getfield 21, 3) := by decide +kernel
theorem dX5_known_17 : decode cX5_known 17 = .ok (.iload_n 1, 1) := by decide +kernel
theorem dX5_known_18 : decode cX5_known 18 = .ok (.invokevirtual 215, 3) := by decide +kernel
theorem dX5_known_21 : decode cX5_known 21 = .ok (.ifCond .le 6, 3) := by decide +kernel
theorem dX5_known_24 : decode cX5_known 24 = .ok (.bipush (-3), 2) := by decide +kernel
theorem dX5_known_26 : decode cX5_known 26 = .ok (.ireturn, 1) := by decide +kernel
theorem dX5_known_27 : decode cX5_known 27 = .ok (.iconst 0, 1) := by decide +kernel
theorem dX5_known_28 : decode cX5_known 28 = .ok (.istore_n 2, 1) := by decide +kernel
theorem dX5_known_29 : decode cX5_known 29 = .ok (.iconst 0, 1) := by decide +kernel
theorem dX5_known_30 : decode cX5_known 30 = .ok (.istore_n 3, 1) := by decide +kernel
theorem dX5_known_31 : decode cX5_known 31 = .ok (.iload_n 3, 1) := by decide +kernel
theorem dX5_known_32 : decode cX5_known 32 = .ok (.iconst 4, 1) := by decide +kernel
theorem dX5_known_33 : decode cX5_known 33 = .ok (.if_icmp .ge 43, 3) := by decide +kernel
theorem dX5_known_36 : decode cX5_known 36 = .ok (.aload_n 0, 1) := by decide +kernel
theorem dX5_known_37 : decode cX5_known 37 = .ok (.getfield 12, 3) := by decide +kernel
theorem dX5_known_40 : decode cX5_known 40 = .ok (.iload_n 1, 1) := by decide +kernel
theorem dX5_known_41 : decode cX5_known 41 = .ok (.iload_n 3, 1) := by decide +kernel
theorem dX5_known_42 : decode cX5_known 42 = .ok (.invokevirtual 132, 3) := by decide +kernel
theorem dX5_known_45 : decode cX5_known 45 = .ok (.ifCond .ne 25, 3) := by decide +kernel
theorem dX5_known_48 : decode cX5_known 48 = .ok (.aload_n 0, 1) := by decide +kernel
theorem dX5_known_49 : decode cX5_known 49 = .ok (.getfield 21, 3) := by decide +kernel
theorem dX5_known_52 : decode cX5_known 52 = .ok (.aload_n 0, 1) := by decide +kernel
theorem dX5_known_53 : decode cX5_known 53 = .ok (.getfield 12, 3) := by decide +kernel
theorem dX5_known_56 : decode cX5_known 56 = .ok (.iload_n 1, 1) := by decide +kernel
theorem dX5_known_57 : decode cX5_known 57 = .ok (.iload_n 3, 1) := by decide +kernel
theorem dX5_known_58 : decode cX5_known 58 = .ok (.invokevirtual 218, 3) := by decide +kernel
theorem dX5_known_61 : decode cX5_known 61 = .ok (.invokevirtual 215, 3) := by decide +kernel
theorem dX5_known_64 : decode cX5_known 64 = .ok (.ifCond .le 6, 3) := by decide +kernel
theorem dX5_known_67 : decode cX5_known 67 = .ok (.iinc 2 5, 3) := by decide +kernel
theorem dX5_known_70 : decode cX5_known 70 = .ok (.iinc 3 1, 3) := by decide +kernel
theorem dX5_known_73 : decode cX5_known 73 = .ok (.goto (-42), 3) := by decide +kernel
theorem dX5_known_76 : decode cX5_known 76 = .ok (.iload_n 2, 1) := by decide +kernel
theorem dX5_known_77 : decode cX5_known 77 = .ok (.ireturn, 1) := by decide +kernel
theorem dX5_isHeightPlace_0 : decode cX5_isHeightPlace 0 = .ok (.iload_n 0, 1) := by decide +kernel
theorem dX5_isHeightPlace_1 : decode cX5_isHeightPlace 1 = .ok (.ifCond .lt 12, 3) := by decide +kernel
theorem dX5_isHeightPlace_4 : decode cX5_isHeightPlace 4 = .ok (.iload_n 0, 1) := by decide +kernel
theorem dX5_isHeightPlace_5 : decode cX5_isHeightPlace 5 = .ok (.iconst 5, 1) := by decide +kernel
theorem dX5_isHeightPlace_6 : decode cX5_isHeightPlace 6 = .ok (.if_icmp .ge 7, 3) := by decide +kernel
theorem dX5_isHeightPlace_9 : decode cX5_isHeightPlace 9 = .ok (.iconst 1, 1) := by decide +kernel
theorem dX5_isHeightPlace_10 : decode cX5_isHeightPlace 10 = .ok (.goto 4, 3) := by decide +kernel
theorem dX5_isHeightPlace_13 : decode cX5_isHeightPlace 13 = .ok (.iconst 0, 1) := by decide +kernel
theorem dX5_isHeightPlace_14 : decode cX5_isHeightPlace 14 = .ok (.ireturn, 1) := by decide +kernel
theorem dX5_isHeight_0 : decode cX5_isHeight 0 = .ok (.iload_n 0, 1) := by decide +kernel
theorem dX5_isHeight_1 : decode cX5_isHeight 1 = .ok (.bipush (-9), 2) := by decide +kernel
theorem dX5_isHeight_3 : decode cX5_isHeight 3 = .ok (.if_icmp .lt 13, 3) := by decide +kernel
theorem dX5_isHeight_6 : decode cX5_isHeight 6 = .ok (.iload_n 0, 1) := by decide +kernel
theorem dX5_isHeight_7 : decode cX5_isHeight 7 = .ok (.bipush 9, 2) := by decide +kernel
theorem dX5_isHeight_9 : decode cX5_isHeight 9 = .ok (.if_icmp .gt 7, 3) := by decide +kernel
theorem dX5_isHeight_12 : decode cX5_isHeight 12 = .ok (.iconst 1, 1) := by decide +kernel
theorem dX5_isHeight_13 : decode cX5_isHeight 13 = .ok (.goto 4, 3) := by decide +kernel
theorem dX5_isHeight_16 : decode cX5_isHeight 16 = .ok (.iconst 0, 1) := by decide +kernel
theorem dX5_isHeight_17 : decode cX5_isHeight 17 = .ok (.ireturn, 1) := by decide +kernel
theorem dX5_isMissingWhat_0 : decode cX5_isMissingWhat 0 = .ok (.iload_n 0, 1) := by decide +kernel
theorem dX5_isMissingWhat_1 : decode cX5_isMissingWhat 1 = .ok (.ifCond .eq 8, 3) := by decide +kernel
theorem dX5_isMissingWhat_4 : decode cX5_isMissingWhat 4 = .ok (.iload_n 0, 1) := by decide +kernel
theorem dX5_isMissingWhat_5 : decode cX5_isMissingWhat 5 = .ok (.iconst 1, 1) := by decide +kernel
theorem dX5_isMissingWhat_6 : decode cX5_isMissingWhat 6 = .ok (.if_icmp .ne 7, 3) := by decide +kernel
theorem dX5_isMissingWhat_9 : decode cX5_isMissingWhat 9 = .ok (.iconst 1, 1) := by decide +kernel
theorem dX5_isMissingWhat_10 : decode cX5_isMissingWhat 10 = .ok (.goto 4, 3) := by decide +kernel
theorem dX5_isMissingWhat_13 : decode cX5_isMissingWhat 13 = .ok (.iconst 0, 1) := by decide +kernel
theorem dX5_isMissingWhat_14 : decode cX5_isMissingWhat 14 = .ok (.ireturn, 1) := by decide +kernel
set_option maxRecDepth 20000 in
theorem ggX5_isMissing_X2_timesOf : GoodIn wsX5_isMissing wsX2_timesOf := goodIn_r _ [6, 7, 8, 16, 17, 18] (by decide +kernel) (by decide +kernel)
set_option maxRecDepth 20000 in
theorem gX5_isMissing_X2_timesOf : GoodIn wsX5_isMissing (wsV RX5 215 RX2 yX2_timesOf wsX2_timesOf) := goodIn_app (goodIn_of _ (by decide +kernel)) ggX5_isMissing_X2_timesOf
theorem dX5_isMissing_0 : decode cX5_isMissing 0 = .ok (.aload_n 0, 1) := by decide +kernel
theorem dX5_isMissing_1 : decode cX5_isMissing 1 = .ok (.getfield 21, 3) := by decide +kernel
theorem dX5_isMissing_4 : decode cX5_isMissing 4 = .ok (.iload_n 2, 1) := by decide +kernel
theorem dX5_isMissing_5 : decode cX5_isMissing 5 = .ok (.invokevirtual 215, 3) := by decide +kernel
theorem dX5_isMissing_8 : decode cX5_isMissing 8 = .ok (.istore_n 3, 1) := by decide +kernel
theorem dX5_isMissing_9 : decode cX5_isMissing 9 = .ok (.iload_n 1, 1) := by decide +kernel
theorem dX5_isMissing_10 : decode cX5_isMissing 10 = .ok (.ifCond .ne 15, 3) := by decide +kernel
theorem dX5_isMissing_13 : decode cX5_isMissing 13 = .ok (.iload_n 3, 1) := by decide +kernel
theorem dX5_isMissing_14 : decode cX5_isMissing 14 = .ok (.ifCond .ne 7, 3) := by decide +kernel
theorem dX5_isMissing_17 : decode cX5_isMissing 17 = .ok (.iconst 1, 1) := by decide +kernel
theorem dX5_isMissing_18 : decode cX5_isMissing 18 = .ok (.goto 17, 3) := by decide +kernel
theorem dX5_isMissing_21 : decode cX5_isMissing 21 = .ok (.iconst 0, 1) := by decide +kernel
theorem dX5_isMissing_22 : decode cX5_isMissing 22 = .ok (.goto 13, 3) := by decide +kernel
theorem dX5_isMissing_25 : decode cX5_isMissing 25 = .ok (.iload_n 3, 1) := by decide +kernel
theorem dX5_isMissing_26 : decode cX5_isMissing 26 = .ok (.iconst 1, 1) := by decide +kernel
theorem dX5_isMissing_27 : decode cX5_isMissing 27 = .ok (.if_icmp .le 7, 3) := by decide +kernel
theorem dX5_isMissing_30 : decode cX5_isMissing 30 = .ok (.iconst 1, 1) := by decide +kernel
theorem dX5_isMissing_31 : decode cX5_isMissing 31 = .ok (.goto 4, 3) := by decide +kernel
theorem dX5_isMissing_34 : decode cX5_isMissing 34 = .ok (.iconst 0, 1) := by decide +kernel
theorem dX5_isMissing_35 : decode cX5_isMissing 35 = .ok (.ireturn, 1) := by decide +kernel
set_option maxRecDepth 20000 in
theorem ggX5_countMissing_X1_pieces : GoodIn wsX5_countMissing wsX1_pieces := goodIn_r _ [6, 7, 8, 29, 30, 31, 32] (by decide +kernel) (by decide +kernel)
set_option maxRecDepth 20000 in
theorem gX5_countMissing_X1_pieces : GoodIn wsX5_countMissing (wsV RX5 166 RX1 yX1_pieces wsX1_pieces) := goodIn_app (goodIn_of _ (by decide +kernel)) ggX5_countMissing_X1_pieces
set_option maxRecDepth 20000 in
theorem ggX5_countMissing_X5_isMissing : GoodIn wsX5_countMissing wsX5_isMissing := goodIn_r _ [13, 14, 15, 16, 17, 18, 19, 20, 21, 22, 23, 24, 25, 26, 27, 28, 33, 34, 35] (by decide +kernel) (by decide +kernel)
set_option maxRecDepth 20000 in
theorem gX5_countMissing_X5_isMissing : GoodIn wsX5_countMissing (wsV RX5 258 RX5 yX5_isMissing wsX5_isMissing) := goodIn_app (goodIn_of _ (by decide +kernel)) ggX5_countMissing_X5_isMissing
theorem dX5_countMissing_0 : decode cX5_countMissing 0 = .ok (.iconst 0, 1) := by decide +kernel
theorem dX5_countMissing_1 : decode cX5_countMissing 1 = .ok (.istore_n 2, 1) := by decide +kernel
theorem dX5_countMissing_2 : decode cX5_countMissing 2 = .ok (.iconst 0, 1) := by decide +kernel
theorem dX5_countMissing_3 : decode cX5_countMissing 3 = .ok (.istore_n 3, 1) := by decide +kernel
theorem dX5_countMissing_4 : decode cX5_countMissing 4 = .ok (.iload_n 3, 1) := by decide +kernel
theorem dX5_countMissing_5 : decode cX5_countMissing 5 = .ok (.aload_n 0, 1) := by decide +kernel
theorem dX5_countMissing_6 : decode cX5_countMissing 6 = .ok (.getfield 12, 3) := by decide +kernel
theorem dX5_countMissing_9 : decode cX5_countMissing 9 = .ok (.invokevirtual 166, 3) := by decide +kernel
theorem dX5_countMissing_12 : decode cX5_countMissing 12 = .ok (.if_icmp .ge 21, 3) := by decide +kernel
theorem dX5_countMissing_15 : decode cX5_countMissing 15 = .ok (.aload_n 0, 1) := by decide +kernel
theorem dX5_countMissing_16 : decode cX5_countMissing 16 = .ok (.iload_n 1, 1) := by decide +kernel
theorem dX5_countMissing_17 : decode cX5_countMissing 17 = .ok (.iload_n 3, 1) := by decide +kernel
theorem dX5_countMissing_18 : decode cX5_countMissing 18 = .ok (.invokevirtual 258, 3) := by decide +kernel
theorem dX5_countMissing_21 : decode cX5_countMissing 21 = .ok (.ifCond .eq 6, 3) := by decide +kernel
theorem dX5_countMissing_24 : decode cX5_countMissing 24 = .ok (.iinc 2 1, 3) := by decide +kernel
theorem dX5_countMissing_27 : decode cX5_countMissing 27 = .ok (.iinc 3 1, 3) := by decide +kernel
theorem dX5_countMissing_30 : decode cX5_countMissing 30 = .ok (.goto (-26), 3) := by decide +kernel
theorem dX5_countMissing_33 : decode cX5_countMissing 33 = .ok (.iload_n 2, 1) := by decide +kernel
theorem dX5_countMissing_34 : decode cX5_countMissing 34 = .ok (.ireturn, 1) := by decide +kernel
set_option maxRecDepth 20000 in
theorem ggX5_missingPiece_X1_pieces : GoodIn wsX5_missingPiece wsX1_pieces := goodIn_r _ [6, 7, 8, 29, 30, 31, 32] (by decide +kernel) (by decide +kernel)
set_option maxRecDepth 20000 in
theorem gX5_missingPiece_X1_pieces : GoodIn wsX5_missingPiece (wsV RX5 166 RX1 yX1_pieces wsX1_pieces) := goodIn_app (goodIn_of _ (by decide +kernel)) ggX5_missingPiece_X1_pieces
set_option maxRecDepth 20000 in
theorem ggX5_missingPiece_X5_isMissing : GoodIn wsX5_missingPiece wsX5_isMissing := goodIn_r _ [13, 14, 15, 16, 17, 18, 19, 20, 21, 22, 23, 24, 25, 26, 27, 28, 33, 34, 35] (by decide +kernel) (by decide +kernel)
set_option maxRecDepth 20000 in
theorem gX5_missingPiece_X5_isMissing : GoodIn wsX5_missingPiece (wsV RX5 258 RX5 yX5_isMissing wsX5_isMissing) := goodIn_app (goodIn_of _ (by decide +kernel)) ggX5_missingPiece_X5_isMissing
theorem dX5_missingPiece_0 : decode cX5_missingPiece 0 = .ok (.iconst 0, 1) := by decide +kernel
theorem dX5_missingPiece_1 : decode cX5_missingPiece 1 = .ok (.istore_n 3, 1) := by decide +kernel
theorem dX5_missingPiece_2 : decode cX5_missingPiece 2 = .ok (.iconst 0, 1) := by decide +kernel
theorem dX5_missingPiece_3 : decode cX5_missingPiece 3 = .ok (.istore 4, 2) := by decide +kernel
theorem dX5_missingPiece_5 : decode cX5_missingPiece 5 = .ok (.iload 4, 2) := by decide +kernel
theorem dX5_missingPiece_7 : decode cX5_missingPiece 7 = .ok (.aload_n 0, 1) := by decide +kernel
theorem dX5_missingPiece_8 : decode cX5_missingPiece 8 = .ok (.getfield 12, 3) := by decide +kernel
theorem dX5_missingPiece_11 : decode cX5_missingPiece 11 = .ok (.invokevirtual 166, 3) := by decide +kernel
theorem dX5_missingPiece_14 : decode cX5_missingPiece 14 = .ok (.if_icmp .ge 30, 3) := by decide +kernel
theorem dX5_missingPiece_17 : decode cX5_missingPiece 17 = .ok (.aload_n 0, 1) := by decide +kernel
theorem dX5_missingPiece_18 : decode cX5_missingPiece 18 = .ok (.iload_n 1, 1) := by decide +kernel
theorem dX5_missingPiece_19 : decode cX5_missingPiece 19 = .ok (.iload 4, 2) := by decide +kernel
theorem dX5_missingPiece_21 : decode cX5_missingPiece 21 = .ok (.invokevirtual 258, 3) := by decide +kernel
theorem dX5_missingPiece_24 : decode cX5_missingPiece 24 = .ok (.ifCond .eq 14, 3) := by decide +kernel
theorem dX5_missingPiece_27 : decode cX5_missingPiece 27 = .ok (.iload_n 3, 1) := by decide +kernel
theorem dX5_missingPiece_28 : decode cX5_missingPiece 28 = .ok (.iload_n 2, 1) := by decide +kernel
theorem dX5_missingPiece_29 : decode cX5_missingPiece 29 = .ok (.if_icmp .ne 6, 3) := by decide +kernel
theorem dX5_missingPiece_32 : decode cX5_missingPiece 32 = .ok (.iload 4, 2) := by decide +kernel
theorem dX5_missingPiece_34 : decode cX5_missingPiece 34 = .ok (.ireturn, 1) := by decide +kernel
theorem dX5_missingPiece_35 : decode cX5_missingPiece 35 = .ok (.iinc 3 1, 3) := by decide +kernel
theorem dX5_missingPiece_38 : decode cX5_missingPiece 38 = .ok (.iinc 4 1, 3) := by decide +kernel
theorem dX5_missingPiece_41 : decode cX5_missingPiece 41 = .ok (.goto (-36), 3) := by decide +kernel
theorem dX5_missingPiece_44 : decode cX5_missingPiece 44 = .ok (.iconst (-1), 1) := by decide +kernel
theorem dX5_missingPiece_45 : decode cX5_missingPiece 45 = .ok (.ireturn, 1) := by decide +kernel
end
section
/-! what the calls answer, in both: the draw, the heap made from a seed, what is missing, what is known -/
theorem lI_of (x : Int64) : lI x.toInt = x := Int64.ofInt_toInt x
theorem lI_div {a b : Int} (a1 : 0 ≤ a) (a2 : a < 9223372036854775808) (b1 : 0 < b) (b2 : b < 9223372036854775808) : lI a / lI b = lI (a / b) := by
  have hb := Int.ediv_le_self b a1
  have h0 := Int.ediv_nonneg a1 (Int.le_of_lt b1)
  apply Int64.toInt_inj.mp
  have hne : lI b ≠ -1 := fun h => by
    have h2 := congrArg Int64.toInt h
    rw [lI_toInt (by omega) (by omega)] at h2
    have e : (-1 : Int64).toInt = -1 := by decide
    omega
  rw [Int64.toInt_div_of_ne_right _ _ hne, lI_toInt (by omega) (by omega), lI_toInt (by omega) (by omega), lI_toInt (by omega) (by omega), Int.tdiv_eq_ediv_of_nonneg a1]
theorem lI_rem {a b : Int} (a1 : 0 ≤ a) (a2 : a < 9223372036854775808) (b1 : 0 < b) (b2 : b < 9223372036854775808) : lI a - lI a / lI b * lI b = lI (a % b) := by
  rw [lI_div a1 a2 b1 b2, lI_mul, lI_sub, Int.emod_def, Int.mul_comm]
theorem lI_and (x : Int64) : 0 ≤ (x &&& lI 2147483647).toInt ∧ (x &&& lI 2147483647).toInt < 2147483648 := by
  have e1 : (x &&& lI 2147483647).toBitVec.toNat = x.toBitVec.toNat % 2147483648 := by
    have h : (x &&& lI 2147483647).toBitVec = x.toBitVec &&& (lI 2147483647).toBitVec := rfl
    have h2 : (lI 2147483647).toBitVec.toNat = 2 ^ 31 - 1 := by decide
    rw [h, BitVec.toNat_and, h2, Nat.and_two_pow_sub_one_eq_mod]
  have e2 : (x &&& lI 2147483647).toInt = ((x &&& lI 2147483647).toBitVec.toNat : Int) := BitVec.toInt_eq_toNat_of_lt (by rw [e1]; omega)
  rw [e2, e1]
  omega
theorem dvI_b (x : Int64) {n : Int} (hn : 1 ≤ n ∧ n < 2147483648) : 0 ≤ dvI x n ∧ dvI x n < n := by
  obtain ⟨y1, y2⟩ := lI_and x
  unfold dvI
  rw [← lI_of (x &&& lI 2147483647), lI_div y1 (by omega) (by omega) (by omega), lI_rem (by omega) (by omega) (by omega) (by omega), lI_int]
  have h1 := Int.emod_nonneg ((x &&& lI 2147483647).toInt / 4096) (show n ≠ 0 by omega)
  have h2 := Int.emod_lt_of_pos ((x &&& lI 2147483647).toInt / 4096) (show 0 < n by omega)
  rw [iI_toInt (by omega) (by omega)]
  exact ⟨h1, h2⟩
def dnN (sd : Int64) : Nat → Int64
  | 0 => sd
  | k + 1 => dnI (dnN sd k)
def dnT (sd : Int64) (k : Int) : Int64 := dnN sd k.toNat
theorem dnT_0 (sd : Int64) : dnT sd 0 = sd := rfl
theorem dnT_s (sd : Int64) {k : Int} (h : 0 ≤ k) : dnT sd (k + 1) = dnI (dnT sd k) := by
  obtain ⟨n, rfl⟩ := Int.eq_ofNat_of_zero_le h
  rfl
/-- the first k heights made from a seed -/
def mkI (sd : Int64) (hs : Int → Int) (k : Int) : Int → Int := fun j => if 0 ≤ j ∧ j < k then dvI (dnT sd (j + 1)) 19 - 9 else hs j
theorem mkI_0 (sd : Int64) (hs : Int → Int) : mkI sd hs 0 = hs := by
  funext j
  exact if_neg (by omega)
theorem mkI_s (sd : Int64) (hs : Int → Int) {k : Int} (h : 0 ≤ k) : uI (mkI sd hs k) k (dvI (dnI (dnT sd k)) 19 - 9) = mkI sd hs (k + 1) := by
  funext j
  unfold uI mkI
  by_cases e : j = k
  · rw [if_pos e, if_pos (by omega), e, dnT_s sd h]
  · rw [if_neg e]
    by_cases q : 0 ≤ j ∧ j < k
    · rw [if_pos q, if_pos (by omega)]
    · rw [if_neg q, if_neg (by omega)]
theorem mkI_b {hs : Int → Int} (hh : hB9 hs) (sd : Int64) (k : Int) : hB9 (mkI sd hs k) := by
  intro j
  have hb := dvI_b (dnT sd (j + 1)) (n := 19) (by omega)
  unfold mkI
  split
  · omega
  · exact hh j
/-- the row of a whole heap before it is mixed; mixed by k swaps; the turns -/
def apI (f : Int → Int) (k : Int) : Int → Int := fun j => if 0 ≤ j ∧ j < k then j else f j
theorem apI_0 (f : Int → Int) : apI f 0 = f := by
  funext j
  exact if_neg (by omega)
theorem apI_s (f : Int → Int) {k : Int} (h : 0 ≤ k) : uI (apI f k) k k = apI f (k + 1) := by
  funext j
  unfold uI apI
  by_cases e : j = k
  · rw [if_pos e, if_pos (by omega), e]
  · rw [if_neg e]
    by_cases q : 0 ≤ j ∧ j < k
    · rw [if_pos q, if_pos (by omega)]
    · rw [if_neg q, if_neg (by omega)]
def swN (sd : Int64) (M : Int) (f : Int → Int) : Nat → Int → Int
  | 0 => f
  | k + 1 => uI (uI (swN sd M f k) (M - 1 - k) (swN sd M f k (dvI (dnT sd (k + 1)) (M - 1 - k + 1)))) (dvI (dnT sd (k + 1)) (M - 1 - k + 1)) (swN sd M f k (M - 1 - k))
def swI (sd : Int64) (M : Int) (f : Int → Int) (k : Int) : Int → Int := swN sd M f k.toNat
theorem swI_0 (sd : Int64) (M : Int) (f : Int → Int) : swI sd M f 0 = f := rfl
theorem swI_s (sd : Int64) (M : Int) (f : Int → Int) {k : Int} (h : 0 ≤ k) : swI sd M f (k + 1) = uI (uI (swI sd M f k) (M - 1 - k) (swI sd M f k (dvI (dnI (dnT sd k)) (M - 1 - k + 1)))) (dvI (dnI (dnT sd k)) (M - 1 - k + 1)) (swI sd M f k (M - 1 - k)) := by
  obtain ⟨n, rfl⟩ := Int.eq_ofNat_of_zero_le h
  rfl
def trI (sd : Int64) (M : Int) (f : Int → Int) (k : Int) : Int → Int := fun j => if 0 ≤ j ∧ j < k then dvI (dnT sd (M - 1 + j + 1)) 4 else f j
theorem trI_0 (sd : Int64) (M : Int) (f : Int → Int) : trI sd M f 0 = f := by
  funext j
  exact if_neg (by omega)
theorem trI_s (sd : Int64) (M : Int) (f : Int → Int) {k : Int} (h : 0 ≤ k) (hM : 1 ≤ M) : uI (trI sd M f k) k (dvI (dnI (dnT sd (M - 1 + k))) 4) = trI sd M f (k + 1) := by
  funext j
  unfold uI trI
  by_cases e : j = k
  · rw [if_pos e, if_pos (by omega), e, dnT_s sd (by omega)]
  · rw [if_neg e]
    by_cases q : 0 ≤ j ∧ j < k
    · rw [if_pos q, if_pos (by omega)]
    · rw [if_neg q, if_neg (by omega)]
theorem swI_b (sd : Int64) {M : Int} (hM : 1 ≤ M ∧ M ≤ 25) (f : Int → Int) (hf : ∀ j, 0 ≤ j ∧ j < M → 0 ≤ f j ∧ f j < M) {k : Int} (hk : 0 ≤ k) : k ≤ M - 1 → ∀ j, 0 ≤ j ∧ j < M → 0 ≤ swI sd M f k j ∧ swI sd M f k j < M := by
  refine cnI_ind (M := fun k => k ≤ M - 1 → ∀ j, 0 ≤ j ∧ j < M → 0 ≤ swI sd M f k j ∧ swI sd M f k j < M) (fun _ j hj => hf j hj) ?_ hk
  intro k hk ih hle j hj
  have hd := dvI_b (dnI (dnT sd k)) (n := M - 1 - k + 1) (by omega)
  rw [swI_s sd M f hk]
  unfold uI
  split
  · exact ih (by omega) _ (by omega)
  · split
    · exact ih (by omega) _ (by omega)
    · exact ih (by omega) _ hj
noncomputable def tmI (n : Int) (pc : Int → Int) (p : Int) : Int := cnI (fun j => pc j = p) n
def msP (n : Int) (pc : Int → Int) (what p : Int) : Prop := (what = 0 ∧ tmI n pc p = 0) ∨ (what ≠ 0 ∧ 1 < tmI n pc p)
/-- the missing piece at place i of its row, or -1 -/
def mdP (M n : Int) (pc : Int → Int) (what i r : Int) : Prop := (r = -1 ∧ cnI (msP n pc what) M ≤ i) ∨ ((0 ≤ r ∧ r < M) ∧ msP n pc what r ∧ cnI (msP n pc what) r = i)
theorem cnI_m (P : Int → Prop) {a b : Int} (h0 : 0 ≤ a) (hab : a ≤ b) : cnI P a ≤ cnI P b := by
  have key : ∀ d, 0 ≤ d → cnI P a ≤ cnI P (a + d) := fun d hd => by
    refine cnI_ind (M := fun d => cnI P a ≤ cnI P (a + d)) (by rw [Int.add_zero]; exact Int.le_refl _) ?_ hd
    intro d hd ih
    rw [← Int.add_assoc]
    by_cases q : P (a + d)
    · rw [cnI_st P (by omega) q]; omega
    · rw [cnI_sf P (by omega) q]; exact ih
  have := key (b - a) (by omega)
  rwa [show a + (b - a) = b by omega] at this
theorem mdP_u {M n : Int} {pc : Int → Int} {what i r t : Int} (q : mdP M n pc what i r) (q' : mdP M n pc what i t) : r = t := by
  have up : ∀ x y : Int, 0 ≤ x → msP n pc what x → x < y → cnI (msP n pc what) x < cnI (msP n pc what) y := fun x y h0 hx hxy => by
    have h1 := cnI_m (msP n pc what) (a := x + 1) (b := y) (by omega) (by omega)
    rw [cnI_st _ h0 hx] at h1
    omega
  rcases q with ⟨e, q⟩ | ⟨b, m, q⟩ <;> rcases q' with ⟨e', q'⟩ | ⟨b', m', q'⟩
  · omega
  · have := up t M b'.1 m' b'.2; omega
  · have := up r M b.1 m b.2; omega
  · by_cases c : r < t
    · have := up r t b.1 m c; omega
    · by_cases c' : t < r
      · have := up t r b'.1 m' c'; omega
      · omega
noncomputable def knI (W h n : Int) (pc : Int → Int) (p e : Int) : Int := suI (fun e => cI (sdI W h p e ≠ -9 ∧ 0 < tmI n pc (nxI W p e)) 5 0) e
theorem knI_s (W h n : Int) (pc : Int → Int) (p : Int) {e : Int} (he : 0 ≤ e) : knI W h n pc p (e + 1) = knI W h n pc p e + cI (sdI W h p e ≠ -9 ∧ 0 < tmI n pc (nxI W p e)) 5 0 := suI_s _ he
/-- heights taken from a sheet: the first m of them -/
def shI (hs ce : Int → Int) (s i m : Int) : Int → Int := fun j => if s * 5 ≤ j ∧ j < s * 5 + m then ce (i + (j - s * 5)) else hs j
theorem shI_0 (hs ce : Int → Int) (s i : Int) : shI hs ce s i 0 = hs := by
  funext j
  exact if_neg (by omega)
theorem shI_s (hs ce : Int → Int) {s i m : Int} (h : 0 ≤ m) : uI (shI hs ce s i m) (s * 5 + m) (ce (i + m)) = shI hs ce s i (m + 1) := by
  funext j
  unfold uI shI
  by_cases e : j = s * 5 + m
  · rw [if_pos e, if_pos (by omega), e, show s * 5 + m - s * 5 = m by omega]
  · rw [if_neg e]
    by_cases q : s * 5 ≤ j ∧ j < s * 5 + m
    · rw [if_pos q, if_pos (by omega)]
    · rw [if_neg q, if_neg (by omega)]
end
section
set_option maxHeartbeats 4000000 in
set_option maxRecDepth 100000 in
theorem k_X5_isHeightPlace (E : gE) (l : Launch) {z : Int} (hz : -2147483648 ≤ z ∧ z < 2147483648) : gFun E l yX5_isHeightPlace wsX5_isHeightPlace { frames := 0, cells := 0, slots := 0, locals := 0 } [.int (iI z)] [] (.int (iI (if 0 ≤ z ∧ z < 5 then 1 else 0))) := by
  refine g_start (cc := cX5_isHeightPlace) (maxL := 1) (ret := (some .boolean)) (by decide) rfl (Nat.le_of_ble_eq_true rfl) ?_
  intro p_ e_ s_ m_ args_ below_ meth_ c_ A_ C hr hnm
  refine g_iload_n 1 C 0 dX5_isHeightPlace_0 rfl rfl ?_
  refine g_if_lt 13 4 C dX5_isHeightPlace_1 (by decide) rfl (by omega) ?_ ?_
  · intro h1
    refine g_iconst 14 C dX5_isHeightPlace_13 rfl ?_
    exact g_zret C hr dX5_isHeightPlace_14 (by first | rfl | decide | (split <;> rfl)) ⟨g_ri (by first | rfl | omega | exact (if_pos (by omega)).symm | exact (if_neg (by omega)).symm), rfl⟩
  · intro h1
    refine g_iload_n 5 C 0 dX5_isHeightPlace_4 rfl rfl ?_
    refine g_iconst 6 C dX5_isHeightPlace_5 rfl ?_
    refine g_icmp_ge 13 9 C dX5_isHeightPlace_6 (by decide) rfl (by omega) ?_ ?_
    · intro h6
      refine g_iconst 14 C dX5_isHeightPlace_13 rfl ?_
      exact g_zret C hr dX5_isHeightPlace_14 (by first | rfl | decide | (split <;> rfl)) ⟨g_ri (by first | rfl | omega | exact (if_pos (by omega)).symm | exact (if_neg (by omega)).symm), rfl⟩
    · intro h6
      refine g_iconst 10 C dX5_isHeightPlace_9 rfl ?_
      refine g_goto 14 C dX5_isHeightPlace_10 (by decide) ?_
      exact g_zret C hr dX5_isHeightPlace_14 (by first | rfl | decide | (split <;> rfl)) ⟨g_ri (by first | rfl | omega | exact (if_pos (by omega)).symm | exact (if_neg (by omega)).symm), rfl⟩
set_option maxHeartbeats 4000000 in
set_option maxRecDepth 100000 in
theorem k_X5_isHeight (E : gE) (l : Launch) {z : Int} (hz : -2147483648 ≤ z ∧ z < 2147483648) : gFun E l yX5_isHeight wsX5_isHeight { frames := 0, cells := 0, slots := 0, locals := 0 } [.int (iI z)] [] (.int (iI (if -9 ≤ z ∧ z ≤ 9 then 1 else 0))) := by
  refine g_start (cc := cX5_isHeight) (maxL := 1) (ret := (some .boolean)) (by decide) rfl (Nat.le_of_ble_eq_true rfl) ?_
  intro p_ e_ s_ m_ args_ below_ meth_ c_ A_ C hr hnm
  refine g_iload_n 1 C 0 dX5_isHeight_0 rfl rfl ?_
  refine g_bipush 3 C dX5_isHeight_1 rfl (by decide) ?_
  refine g_icmp_lt 16 6 C dX5_isHeight_3 (by decide) rfl (by omega) ?_ ?_
  · intro h3
    refine g_iconst 17 C dX5_isHeight_16 rfl ?_
    exact g_zret C hr dX5_isHeight_17 (by first | rfl | decide | (split <;> rfl)) ⟨g_ri (by first | rfl | omega | exact (if_pos (by omega)).symm | exact (if_neg (by omega)).symm), rfl⟩
  · intro h3
    refine g_iload_n 7 C 0 dX5_isHeight_6 rfl rfl ?_
    refine g_bipush 9 C dX5_isHeight_7 rfl (by decide) ?_
    refine g_icmp_gt 16 12 C dX5_isHeight_9 (by decide) rfl (by omega) ?_ ?_
    · intro h9
      refine g_iconst 17 C dX5_isHeight_16 rfl ?_
      exact g_zret C hr dX5_isHeight_17 (by first | rfl | decide | (split <;> rfl)) ⟨g_ri (by first | rfl | omega | exact (if_pos (by omega)).symm | exact (if_neg (by omega)).symm), rfl⟩
    · intro h9
      refine g_iconst 13 C dX5_isHeight_12 rfl ?_
      refine g_goto 17 C dX5_isHeight_13 (by decide) ?_
      exact g_zret C hr dX5_isHeight_17 (by first | rfl | decide | (split <;> rfl)) ⟨g_ri (by first | rfl | omega | exact (if_pos (by omega)).symm | exact (if_neg (by omega)).symm), rfl⟩
set_option maxHeartbeats 4000000 in
set_option maxRecDepth 100000 in
theorem k_X5_isMissingWhat (E : gE) (l : Launch) {z : Int} (hz : -2147483648 ≤ z ∧ z < 2147483648) : gFun E l yX5_isMissingWhat wsX5_isMissingWhat { frames := 0, cells := 0, slots := 0, locals := 0 } [.int (iI z)] [] (.int (iI (if z = 0 ∨ z = 1 then 1 else 0))) := by
  refine g_start (cc := cX5_isMissingWhat) (maxL := 1) (ret := (some .boolean)) (by decide) rfl (Nat.le_of_ble_eq_true rfl) ?_
  intro p_ e_ s_ m_ args_ below_ meth_ c_ A_ C hr hnm
  refine g_iload_n 1 C 0 dX5_isMissingWhat_0 rfl rfl ?_
  refine g_if_eq 9 4 C dX5_isMissingWhat_1 (by decide) rfl (by omega) ?_ ?_
  · intro h1
    refine g_iconst 10 C dX5_isMissingWhat_9 rfl ?_
    refine g_goto 14 C dX5_isMissingWhat_10 (by decide) ?_
    exact g_zret C hr dX5_isMissingWhat_14 (by first | rfl | decide | (split <;> rfl)) ⟨g_ri (by first | rfl | omega | exact (if_pos (by omega)).symm | exact (if_neg (by omega)).symm), rfl⟩
  · intro h1
    refine g_iload_n 5 C 0 dX5_isMissingWhat_4 rfl rfl ?_
    refine g_iconst 6 C dX5_isMissingWhat_5 rfl ?_
    refine g_icmp_ne 13 9 C dX5_isMissingWhat_6 (by decide) rfl (by omega) ?_ ?_
    · intro h6
      refine g_iconst 14 C dX5_isMissingWhat_13 rfl ?_
      exact g_zret C hr dX5_isMissingWhat_14 (by first | rfl | decide | (split <;> rfl)) ⟨g_ri (by first | rfl | omega | exact (if_pos (by omega)).symm | exact (if_neg (by omega)).symm), rfl⟩
    · intro h6
      refine g_iconst 10 C dX5_isMissingWhat_9 rfl ?_
      refine g_goto 14 C dX5_isMissingWhat_10 (by decide) ?_
      exact g_zret C hr dX5_isMissingWhat_14 (by first | rfl | decide | (split <;> rfl)) ⟨g_ri (by first | rfl | omega | exact (if_pos (by omega)).symm | exact (if_neg (by omega)).symm), rfl⟩
theorem cdX3_trialsCounted : yX3_trialsCounted.cls = RX3 ∧ yX3_trialsCounted.cls ≠ "java/lang/invoke/MethodHandle" ∧ yX3_trialsCounted.cls ≠ "java/lang/invoke/VarHandle" ∧ (parseMethodDescriptor yX3_trialsCounted.desc).map (fun d => d.parameters.length) = some 0 := by decide +kernel
theorem lX5_trials_30 : Cond.fieldLink RX5 30 (TX5 2).1 (TX5 2).2.1 (TX5 2).2.2.1 ∈ wsX5_trials := by decide +kernel
theorem iX5_trials_X5 : ∀ w ∈ u_ws RX5 TX5 7, w ∈ wsX5_trials := by decide +kernel
set_option maxHeartbeats 4000000 in
set_option maxRecDepth 100000 in
theorem k_X5_trials (E : gE) (l : Launch) {a_D a_L a_P a_Q a_R a_X a_fi a_jl a_ly a_sh a_us a_wa : Nat} {tr ft : Int} {jo fo sp fd tc : Int}  : gFun E l yX5_trials wsX5_trials { frames := 1, cells := 0, slots := 0, locals := 20 } [.ref a_X] [(a_X, .inr (5, [.ref a_P, .ref a_L, .ref a_R, .ref a_D, .ref a_Q, .int (iI tr), .int (iI ft)])), (a_R, .inr (3, [.ref a_P, .ref a_L, .ref a_sh, .ref a_fi, .ref a_wa, .ref a_us, .ref a_ly, .ref a_jl, .int (iI jo), .int (iI fo), .int (iI sp), .int (iI fd), .int (iI tc)]))] (.int (iI tc)) := by
  refine g_start (cc := cX5_trials) (maxL := 1) (ret := (some .int)) (by decide) rfl (Nat.le_of_ble_eq_true rfl) ?_
  intro p_ e_ s_ m_ args_ below_ meth_ c_ A_ C hr hnm
  refine g_aload_n 1 C 0 dX5_trials_0 rfl rfl ?_
  refine g_get 4 C 0 2 5 iX5_trials_X5 lX5_trials_30 dX5_trials_1 rfl rfl rfl (by decide) rfl ?_
  refine g_callVF 7 C [1] dX5_trials_4 rfl (k_X3_trialsCounted E l  ) (cwV 0 C.2.2.2.2.1 gX5_trials_X3_trialsCounted rfl rfl rfl cdX3_trialsCounted ⟨Nat.le_of_ble_eq_true rfl, Nat.le_of_ble_eq_true rfl⟩) rfl rfl rfl rfl (Nat.le_of_ble_eq_true rfl) 1 3 rfl rfl rfl ⟨Nat.le_of_ble_eq_true rfl, Nat.le_of_ble_eq_true rfl⟩ ?_
  exact g_iret C hr dX5_trials_7 ⟨g_ri (by first | rfl | omega | exact (if_pos (by omega)).symm | exact (if_neg (by omega)).symm), rfl⟩
theorem cdX1_hasSide : yX1_hasSide.cls = RX1 ∧ yX1_hasSide.cls ≠ "java/lang/invoke/MethodHandle" ∧ yX1_hasSide.cls ≠ "java/lang/invoke/VarHandle" ∧ (parseMethodDescriptor yX1_hasSide.desc).map (fun d => d.parameters.length) = some 1 := by decide +kernel
theorem cdX1_setHeight : yX1_setHeight.cls = RX1 ∧ yX1_setHeight.cls ≠ "java/lang/invoke/MethodHandle" ∧ yX1_setHeight.cls ≠ "java/lang/invoke/VarHandle" ∧ (parseMethodDescriptor yX1_setHeight.desc).map (fun d => d.parameters.length) = some 3 := by decide +kernel
theorem cdX3_forgetJoined : yX3_forgetJoined.cls = RX3 ∧ yX3_forgetJoined.cls ≠ "java/lang/invoke/MethodHandle" ∧ yX3_forgetJoined.cls ≠ "java/lang/invoke/VarHandle" ∧ (parseMethodDescriptor yX3_forgetJoined.desc).map (fun d => d.parameters.length) = some 0 := by decide +kernel
theorem cdX5_isHeight : yX5_isHeight.cls ≠ "java/lang/invoke/MethodHandle" ∧ yX5_isHeight.cls ≠ "java/lang/invoke/VarHandle" ∧ (parseMethodDescriptor yX5_isHeight.desc).map (fun d => d.parameters.length) = some 1 := by decide +kernel
theorem cdX5_isHeightPlace : yX5_isHeightPlace.cls ≠ "java/lang/invoke/MethodHandle" ∧ yX5_isHeightPlace.cls ≠ "java/lang/invoke/VarHandle" ∧ (parseMethodDescriptor yX5_isHeightPlace.desc).map (fun d => d.parameters.length) = some 1 := by decide +kernel
theorem lX5_bend_12 : Cond.fieldLink RX5 12 (TX5 0).1 (TX5 0).2.1 (TX5 0).2.2.1 ∈ wsX5_bend := by decide +kernel
theorem lX5_bend_30 : Cond.fieldLink RX5 30 (TX5 2).1 (TX5 2).2.1 (TX5 2).2.2.1 ∈ wsX5_bend := by decide +kernel
theorem lX5_bend_84 : Cond.constantLong RX5 84 (-9223372036854775808) ∈ wsX5_bend := by decide +kernel
theorem iX5_bend_X5 : ∀ w ∈ u_ws RX5 TX5 7, w ∈ wsX5_bend := by decide +kernel
set_option maxHeartbeats 4000000 in
set_option maxRecDepth 100000 in
theorem k_X5_bend (E : gE) (l : Launch) {a_D a_L a_P a_Q a_R a_X a_fi a_hs a_jl a_ly a_se a_sh a_us a_wa : Nat} {W h z i v : Int} {hs : Int → Int} {tr ft : Int} {jo fo sp fd tc : Int} (hB : 1 ≤ W ∧ W ≤ 5 ∧ 1 ≤ h ∧ h ≤ 5) (hh : hB9 hs) (hz : -2147483648 ≤ z ∧ z < 2147483648) (hi : -2147483648 ≤ i ∧ i < 2147483648) (hv : -2147483648 ≤ v ∧ v < 2147483648) : gUpd E l yX5_bend wsX5_bend { frames := 2, cells := 0, slots := 0, locals := 41 } [.ref a_X, .int (iI z), .int (iI i), .int (iI v)] [(a_X, .inr (5, [.ref a_P, .ref a_L, .ref a_R, .ref a_D, .ref a_Q, .int (iI tr), .int (iI ft)])), (a_P, .inr (1, [.ref a_hs, .ref a_se, .int (iI W), .int (iI h)])), (a_hs, aI E 200 hs), (a_R, .inr (3, [.ref a_P, .ref a_L, .ref a_sh, .ref a_fi, .ref a_wa, .ref a_us, .ref a_ly, .ref a_jl, .int (iI jo), .int (iI fo), .int (iI sp), .int (iI fd), .int (iI tc)]))] (some (.long (lI (if (0 ≤ z ∧ z < nsd W h) ∧ (0 ≤ i ∧ i < 5) ∧ -9 ≤ v ∧ v ≤ 9 then htI hs z i 0 else -9223372036854775808)))) [(a_X, .inr (5, [.ref a_P, .ref a_L, .ref a_R, .ref a_D, .ref a_Q, .int (iI tr), .int (iI ft)])), (a_P, .inr (1, [.ref a_hs, .ref a_se, .int (iI W), .int (iI h)])), (a_hs, aI E 200 (if (0 ≤ z ∧ z < nsd W h) ∧ (0 ≤ i ∧ i < 5) ∧ -9 ≤ v ∧ v ≤ 9 then uI hs (z * 5 + i) v else hs)), (a_R, .inr (3, [.ref a_P, .ref a_L, .ref a_sh, .ref a_fi, .ref a_wa, .ref a_us, .ref a_ly, .ref a_jl, .int (iI (if (0 ≤ z ∧ z < nsd W h) ∧ (0 ≤ i ∧ i < 5) ∧ -9 ≤ v ∧ v ≤ 9 then 0 else jo)), .int (iI fo), .int (iI sp), .int (iI fd), .int (iI tc)]))] := by
  refine g_start (cc := cX5_bend) (maxL := 5) (ret := (some .long)) (by decide) rfl (Nat.le_of_ble_eq_true rfl) ?_
  intro p_ e_ s_ m_ args_ below_ meth_ c_ A_ C hr hnm
  have hn := nsd_b hB
  refine g_aload_n 1 C 0 dX5_bend_0 rfl rfl ?_
  refine g_get 4 C 0 0 5 iX5_bend_X5 lX5_bend_12 dX5_bend_1 rfl rfl rfl (by decide) rfl ?_
  refine g_iload_n 5 C 1 dX5_bend_4 rfl rfl ?_
  refine g_callVF 8 C [1] dX5_bend_5 rfl (k_X1_hasSide E l  (by first | assumption | omega) (by first | assumption | omega)) (cwV 1 C.2.2.2.2.1 gX5_bend_X1_hasSide rfl rfl rfl cdX1_hasSide ⟨Nat.le_of_ble_eq_true rfl, Nat.le_of_ble_eq_true rfl⟩) rfl rfl rfl rfl (Nat.le_of_ble_eq_true rfl) 1 1 rfl rfl rfl ⟨Nat.le_of_ble_eq_true rfl, Nat.le_of_ble_eq_true rfl⟩ ?_
  refine g_ifb_eq 25 11 C dX5_bend_8 (by decide) rfl ?_ ?_
  · intro h8
    refine g_ldc2 28 C (-9223372036854775808) dX5_bend_25 rfl lX5_bend_84 (by decide) ?_
    exact g_lret C hr dX5_bend_28 ⟨g_rl (by first | rfl | omega | exact (if_pos (by omega)).symm | exact (if_neg (by omega)).symm), by first | rfl | (have hg : (0 ≤ z ∧ z < nsd W h) ∧ (0 ≤ i ∧ i < 5) ∧ -9 ≤ v ∧ v ≤ 9 := (by omega); simp only [if_pos hg]) | (have hg : ¬ ((0 ≤ z ∧ z < nsd W h) ∧ (0 ≤ i ∧ i < 5) ∧ -9 ≤ v ∧ v ≤ 9) := (by omega); simp only [if_neg hg])⟩
  · intro h8
    refine g_iload_n 12 C 2 dX5_bend_11 rfl rfl ?_
    refine g_callSF 15 C [] dX5_bend_12 rfl (k_X5_isHeightPlace E l  (by first | assumption | omega)) (va_cwS 1 C.2.2.2.2.1 gX5_bend_X5_isHeightPlace rfl rfl rfl cdX5_isHeightPlace ⟨Nat.le_of_ble_eq_true rfl, Nat.le_of_ble_eq_true rfl⟩) rfl rfl rfl rfl (Nat.le_of_ble_eq_true rfl) ⟨Nat.le_of_ble_eq_true rfl, Nat.le_of_ble_eq_true rfl⟩ ?_
    refine g_ifb_eq 25 18 C dX5_bend_15 (by decide) rfl ?_ ?_
    · intro h15
      refine g_ldc2 28 C (-9223372036854775808) dX5_bend_25 rfl lX5_bend_84 (by decide) ?_
      exact g_lret C hr dX5_bend_28 ⟨g_rl (by first | rfl | omega | exact (if_pos (by omega)).symm | exact (if_neg (by omega)).symm), by first | rfl | (have hg : (0 ≤ z ∧ z < nsd W h) ∧ (0 ≤ i ∧ i < 5) ∧ -9 ≤ v ∧ v ≤ 9 := (by omega); simp only [if_pos hg]) | (have hg : ¬ ((0 ≤ z ∧ z < nsd W h) ∧ (0 ≤ i ∧ i < 5) ∧ -9 ≤ v ∧ v ≤ 9) := (by omega); simp only [if_neg hg])⟩
    · intro h15
      refine g_iload_n 19 C 3 dX5_bend_18 rfl rfl ?_
      refine g_callSF 22 C [] dX5_bend_19 rfl (k_X5_isHeight E l  (by first | assumption | omega)) (va_cwS 1 C.2.2.2.2.1 gX5_bend_X5_isHeight rfl rfl rfl cdX5_isHeight ⟨Nat.le_of_ble_eq_true rfl, Nat.le_of_ble_eq_true rfl⟩) rfl rfl rfl rfl (Nat.le_of_ble_eq_true rfl) ⟨Nat.le_of_ble_eq_true rfl, Nat.le_of_ble_eq_true rfl⟩ ?_
      refine g_ifb_ne 29 25 C dX5_bend_22 (by decide) rfl ?_ ?_
      · intro h22
        refine g_aload_n 30 C 0 dX5_bend_29 rfl rfl ?_
        refine g_get 33 C 0 0 5 iX5_bend_X5 lX5_bend_12 dX5_bend_30 rfl rfl rfl (by decide) rfl ?_
        refine g_iload_n 34 C 1 dX5_bend_33 rfl rfl ?_
        refine g_iload_n 35 C 2 dX5_bend_34 rfl rfl ?_
        refine g_iconst 36 C dX5_bend_35 rfl ?_
        refine g_callVF 39 C [1, 2] dX5_bend_36 rfl (k_X1_heightAt E l  (by first | assumption | omega) (by first | assumption | omega) (by first | assumption | omega)) (cwV 3 C.2.2.2.2.1 gX5_bend_X1_heightAt rfl rfl rfl cdX1_heightAt ⟨Nat.le_of_ble_eq_true rfl, Nat.le_of_ble_eq_true rfl⟩) rfl rfl rfl rfl (Nat.le_of_ble_eq_true rfl) 1 1 rfl rfl rfl ⟨Nat.le_of_ble_eq_true rfl, Nat.le_of_ble_eq_true rfl⟩ ?_
        refine g_istore (lv' := [(4, _), (0, _), (1, _), (2, _), (3, _)]) 41 C dX5_bend_39 rfl (by decide) rfl ?_
        refine g_aload_n 42 C 1 dX5_bend_41 rfl rfl ?_
        refine g_get 45 C 0 0 5 iX5_bend_X5 lX5_bend_12 dX5_bend_42 rfl rfl rfl (by decide) rfl ?_
        refine g_iload_n 46 C 2 dX5_bend_45 rfl rfl ?_
        refine g_iload_n 47 C 3 dX5_bend_46 rfl rfl ?_
        refine g_iload_n 48 C 4 dX5_bend_47 rfl rfl ?_
        refine g_callVU (ws' := [(_, .inr (5, [_, _, _, _, _, _, _])), (_, .inr (1, [_, _, _, _])), (_, aI _ _ _), (_, .inr (3, [_, _, _, _, _, _, _, _, _, _, _, _, _]))]) 51 C [1, 2] dX5_bend_48 rfl (k_X1_setHeight E l  (by first | assumption | omega) (by first | assumption | omega)) (cwV 3 C.2.2.2.2.1 gX5_bend_X1_setHeight rfl rfl rfl cdX1_setHeight ⟨Nat.le_of_ble_eq_true rfl, Nat.le_of_ble_eq_true rfl⟩) rfl rfl rfl rfl (Nat.le_of_ble_eq_true rfl) 1 1 rfl rfl rfl ⟨Nat.le_of_ble_eq_true rfl, Nat.le_of_ble_eq_true rfl⟩ rfl rfl ?_
        refine g_aload_n 52 C 1 dX5_bend_51 rfl rfl ?_
        refine g_get 55 C 0 2 5 iX5_bend_X5 lX5_bend_30 dX5_bend_52 rfl rfl rfl (by decide) rfl ?_
        refine g_callVU (ws' := [(_, .inr (5, [_, _, _, _, _, _, _])), (_, .inr (1, [_, _, _, _])), (_, aI _ _ _), (_, .inr (3, [_, _, _, _, _, _, _, _, _, _, _, _, _]))]) 58 C [3] dX5_bend_55 rfl (k_X3_forgetJoined E l  ) (cwV 0 C.2.2.2.2.1 gX5_bend_X3_forgetJoined rfl rfl rfl cdX3_forgetJoined ⟨Nat.le_of_ble_eq_true rfl, Nat.le_of_ble_eq_true rfl⟩) rfl rfl rfl rfl (Nat.le_of_ble_eq_true rfl) 3 3 rfl rfl rfl ⟨Nat.le_of_ble_eq_true rfl, Nat.le_of_ble_eq_true rfl⟩ rfl rfl ?_
        have e0 := htI_b hh z i 0
        refine g_iload 60 C 0 dX5_bend_58 rfl rfl ?_
        refine g_i2l 61 C dX5_bend_60 rfl (by omega) ?_
        exact g_lret C hr dX5_bend_61 ⟨g_rl (by first | rfl | omega | exact (if_pos (by omega)).symm | exact (if_neg (by omega)).symm), by first | rfl | (have hg : (0 ≤ z ∧ z < nsd W h) ∧ (0 ≤ i ∧ i < 5) ∧ -9 ≤ v ∧ v ≤ 9 := (by omega); simp only [if_pos hg]) | (have hg : ¬ ((0 ≤ z ∧ z < nsd W h) ∧ (0 ≤ i ∧ i < 5) ∧ -9 ≤ v ∧ v ≤ 9) := (by omega); simp only [if_neg hg])⟩
      · intro h22
        refine g_ldc2 28 C (-9223372036854775808) dX5_bend_25 rfl lX5_bend_84 (by decide) ?_
        exact g_lret C hr dX5_bend_28 ⟨g_rl (by first | rfl | omega | exact (if_pos (by omega)).symm | exact (if_neg (by omega)).symm), by first | rfl | (have hg : (0 ≤ z ∧ z < nsd W h) ∧ (0 ≤ i ∧ i < 5) ∧ -9 ≤ v ∧ v ≤ 9 := (by omega); simp only [if_pos hg]) | (have hg : ¬ ((0 ≤ z ∧ z < nsd W h) ∧ (0 ≤ i ∧ i < 5) ∧ -9 ≤ v ∧ v ≤ 9) := (by omega); simp only [if_neg hg])⟩
theorem cdX1_hasEdge : yX1_hasEdge.cls = RX1 ∧ yX1_hasEdge.cls ≠ "java/lang/invoke/MethodHandle" ∧ yX1_hasEdge.cls ≠ "java/lang/invoke/VarHandle" ∧ (parseMethodDescriptor yX1_hasEdge.desc).map (fun d => d.parameters.length) = some 2 := by decide +kernel
theorem lX5_sideOf_12 : Cond.fieldLink RX5 12 (TX5 0).1 (TX5 0).2.1 (TX5 0).2.2.1 ∈ wsX5_sideOf := by decide +kernel
theorem iX5_sideOf_X5 : ∀ w ∈ u_ws RX5 TX5 7, w ∈ wsX5_sideOf := by decide +kernel
set_option maxHeartbeats 4000000 in
set_option maxRecDepth 100000 in
theorem k_X5_sideOf (E : gE) (l : Launch) {a_D a_L a_P a_Q a_R a_X a_hs a_se : Nat} {W h p e : Int} {se : Int → Int} {tr ft : Int} (hB : 1 ≤ W ∧ W ≤ 5 ∧ 1 ≤ h ∧ h ≤ 5) (hse : ∀ p e : Int, 0 ≤ p ∧ p < W * h → 0 ≤ e ∧ e < 4 → se (p * 4 + e) = sdI W h p e) (hp : -2147483648 ≤ p ∧ p < 2147483648) (he : -2147483648 ≤ e ∧ e < 2147483648) : gFun E l yX5_sideOf wsX5_sideOf { frames := 3, cells := 0, slots := 0, locals := 63 } [.ref a_X, .int (iI p), .int (iI e)] [(a_X, .inr (5, [.ref a_P, .ref a_L, .ref a_R, .ref a_D, .ref a_Q, .int (iI tr), .int (iI ft)])), (a_P, .inr (1, [.ref a_hs, .ref a_se, .int (iI W), .int (iI h)])), (a_se, aI E 100 se)] (.int (iI (if (0 ≤ p ∧ p < W * h) ∧ 0 ≤ e ∧ e < 4 then sdI W h p e else -1))) := by
  refine g_start (cc := cX5_sideOf) (maxL := 3) (ret := (some .int)) (by decide) rfl (Nat.le_of_ble_eq_true rfl) ?_
  intro p_ e_ s_ m_ args_ below_ meth_ c_ A_ C hr hnm
  have hn := nsd_b hB
  refine g_aload_n 1 C 0 dX5_sideOf_0 rfl rfl ?_
  refine g_get 4 C 0 0 5 iX5_sideOf_X5 lX5_sideOf_12 dX5_sideOf_1 rfl rfl rfl (by decide) rfl ?_
  refine g_iload_n 5 C 1 dX5_sideOf_4 rfl rfl ?_
  refine g_iload_n 6 C 2 dX5_sideOf_5 rfl rfl ?_
  refine g_callVF 9 C [1] dX5_sideOf_6 rfl (k_X1_hasEdge E l  (by first | assumption | omega) (by first | assumption | omega) (by first | assumption | omega)) (cwV 2 C.2.2.2.2.1 gX5_sideOf_X1_hasEdge rfl rfl rfl cdX1_hasEdge ⟨Nat.le_of_ble_eq_true rfl, Nat.le_of_ble_eq_true rfl⟩) rfl rfl rfl rfl (Nat.le_of_ble_eq_true rfl) 1 1 rfl rfl rfl ⟨Nat.le_of_ble_eq_true rfl, Nat.le_of_ble_eq_true rfl⟩ ?_
  refine g_ifb_ne 14 12 C dX5_sideOf_9 (by decide) rfl ?_ ?_
  · intro h9
    refine g_aload_n 15 C 0 dX5_sideOf_14 rfl rfl ?_
    refine g_get 18 C 0 0 5 iX5_sideOf_X5 lX5_sideOf_12 dX5_sideOf_15 rfl rfl rfl (by decide) rfl ?_
    refine g_iload_n 19 C 1 dX5_sideOf_18 rfl rfl ?_
    refine g_iload_n 20 C 2 dX5_sideOf_19 rfl rfl ?_
    refine g_callVF 23 C [1, 2] dX5_sideOf_20 rfl (k_X1_sideAt E l  (by first | assumption | omega) (by first | assumption | omega) (by first | assumption | omega) (by first | assumption | omega)) (cwV 2 C.2.2.2.2.1 gX5_sideOf_X1_sideAt rfl rfl rfl cdX1_sideAt ⟨Nat.le_of_ble_eq_true rfl, Nat.le_of_ble_eq_true rfl⟩) rfl rfl rfl rfl (Nat.le_of_ble_eq_true rfl) 1 1 rfl rfl rfl ⟨Nat.le_of_ble_eq_true rfl, Nat.le_of_ble_eq_true rfl⟩ ?_
    exact g_iret C hr dX5_sideOf_23 ⟨g_ri (by first | rfl | omega | exact (if_pos (by omega)).symm | exact (if_neg (by omega)).symm), rfl⟩
  · intro h9
    refine g_iconst 13 C dX5_sideOf_12 rfl ?_
    exact g_iret C hr dX5_sideOf_13 ⟨g_ri (by first | rfl | omega | exact (if_pos (by omega)).symm | exact (if_neg (by omega)).symm), rfl⟩
theorem cdX1_farness : yX1_farness.cls = RX1 ∧ yX1_farness.cls ≠ "java/lang/invoke/MethodHandle" ∧ yX1_farness.cls ≠ "java/lang/invoke/VarHandle" ∧ (parseMethodDescriptor yX1_farness.desc).map (fun d => d.parameters.length) = some 4 := by decide +kernel
theorem lX5_far_12 : Cond.fieldLink RX5 12 (TX5 0).1 (TX5 0).2.1 (TX5 0).2.2.1 ∈ wsX5_far := by decide +kernel
theorem iX5_far_X5 : ∀ w ∈ u_ws RX5 TX5 7, w ∈ wsX5_far := by decide +kernel
set_option maxHeartbeats 4000000 in
set_option maxRecDepth 100000 in
theorem k_X5_far (E : gE) (l : Launch) {a_D a_L a_P a_Q a_R a_X a_hs a_se : Nat} {W h p e q f : Int} {hs se : Int → Int} {tr ft : Int} (hB : 1 ≤ W ∧ W ≤ 5 ∧ 1 ≤ h ∧ h ≤ 5) (hse : ∀ p e : Int, 0 ≤ p ∧ p < W * h → 0 ≤ e ∧ e < 4 → se (p * 4 + e) = sdI W h p e) (hh : hB9 hs) (hp : -2147483648 ≤ p ∧ p < 2147483648) (he : -2147483648 ≤ e ∧ e < 2147483648) (hq : -2147483648 ≤ q ∧ q < 2147483648) (hf : -2147483648 ≤ f ∧ f < 2147483648) : gFun E l yX5_far wsX5_far { frames := 3, cells := 0, slots := 0, locals := 74 } [.ref a_X, .int (iI p), .int (iI e), .int (iI q), .int (iI f)] [(a_X, .inr (5, [.ref a_P, .ref a_L, .ref a_R, .ref a_D, .ref a_Q, .int (iI tr), .int (iI ft)])), (a_P, .inr (1, [.ref a_hs, .ref a_se, .int (iI W), .int (iI h)])), (a_hs, aI E 200 hs), (a_se, aI E 100 se)] (.int (iI (if ¬ (((0 ≤ p ∧ p < W * h) ∧ 0 ≤ e ∧ e < 4) ∧ ((0 ≤ q ∧ q < W * h) ∧ 0 ≤ f ∧ f < 4)) then -1 else if sdI W h p e = -9 ∨ sdI W h q f = -9 then -3 else frI W h hs p e q f))) := by
  refine g_start (cc := cX5_far) (maxL := 5) (ret := (some .int)) (by decide) rfl (Nat.le_of_ble_eq_true rfl) ?_
  intro p_ e_ s_ m_ args_ below_ meth_ c_ A_ C hr hnm
  have hn := nsd_b hB
  refine g_aload_n 1 C 0 dX5_far_0 rfl rfl ?_
  refine g_get 4 C 0 0 5 iX5_far_X5 lX5_far_12 dX5_far_1 rfl rfl rfl (by decide) rfl ?_
  refine g_iload_n 5 C 1 dX5_far_4 rfl rfl ?_
  refine g_iload_n 6 C 2 dX5_far_5 rfl rfl ?_
  refine g_callVF 9 C [1] dX5_far_6 rfl (k_X1_hasEdge E l  (by first | assumption | omega) (by first | assumption | omega) (by first | assumption | omega)) (cwV 2 C.2.2.2.2.1 gX5_far_X1_hasEdge rfl rfl rfl cdX1_hasEdge ⟨Nat.le_of_ble_eq_true rfl, Nat.le_of_ble_eq_true rfl⟩) rfl rfl rfl rfl (Nat.le_of_ble_eq_true rfl) 1 1 rfl rfl rfl ⟨Nat.le_of_ble_eq_true rfl, Nat.le_of_ble_eq_true rfl⟩ ?_
  refine g_ifb_eq 25 12 C dX5_far_9 (by decide) rfl ?_ ?_
  · intro h9
    refine g_iconst 26 C dX5_far_25 rfl ?_
    exact g_iret C hr dX5_far_26 ⟨g_ri (by (repeat' split) <;> first | rfl | omega), rfl⟩
  · intro h9
    refine g_aload_n 13 C 0 dX5_far_12 rfl rfl ?_
    refine g_get 16 C 0 0 5 iX5_far_X5 lX5_far_12 dX5_far_13 rfl rfl rfl (by decide) rfl ?_
    refine g_iload_n 17 C 3 dX5_far_16 rfl rfl ?_
    refine g_iload 19 C 4 dX5_far_17 rfl rfl ?_
    refine g_callVF 22 C [1] dX5_far_19 rfl (k_X1_hasEdge E l  (by first | assumption | omega) (by first | assumption | omega) (by first | assumption | omega)) (cwV 2 C.2.2.2.2.1 gX5_far_X1_hasEdge rfl rfl rfl cdX1_hasEdge ⟨Nat.le_of_ble_eq_true rfl, Nat.le_of_ble_eq_true rfl⟩) rfl rfl rfl rfl (Nat.le_of_ble_eq_true rfl) 1 1 rfl rfl rfl ⟨Nat.le_of_ble_eq_true rfl, Nat.le_of_ble_eq_true rfl⟩ ?_
    refine g_ifb_ne 27 25 C dX5_far_22 (by decide) rfl ?_ ?_
    · intro h22
      refine g_aload_n 28 C 0 dX5_far_27 rfl rfl ?_
      refine g_get 31 C 0 0 5 iX5_far_X5 lX5_far_12 dX5_far_28 rfl rfl rfl (by decide) rfl ?_
      refine g_iload_n 32 C 1 dX5_far_31 rfl rfl ?_
      refine g_iload_n 33 C 2 dX5_far_32 rfl rfl ?_
      refine g_callVF 36 C [1, 3] dX5_far_33 rfl (k_X1_isFlat E l  (by first | assumption | omega) (by first | assumption | omega) (by first | assumption | omega) (by first | assumption | omega)) (cwV 2 C.2.2.2.2.1 gX5_far_X1_isFlat rfl rfl rfl cdX1_isFlat ⟨Nat.le_of_ble_eq_true rfl, Nat.le_of_ble_eq_true rfl⟩) rfl rfl rfl rfl (Nat.le_of_ble_eq_true rfl) 1 1 rfl rfl rfl ⟨Nat.le_of_ble_eq_true rfl, Nat.le_of_ble_eq_true rfl⟩ ?_
      refine g_ifb_ne 52 39 C dX5_far_36 (by decide) rfl ?_ ?_
      · intro h36
        refine g_bipush 54 C dX5_far_52 rfl (by decide) ?_
        exact g_iret C hr dX5_far_54 ⟨g_ri (by (repeat' split) <;> first | rfl | omega), rfl⟩
      · intro h36
        refine g_aload_n 40 C 0 dX5_far_39 rfl rfl ?_
        refine g_get 43 C 0 0 5 iX5_far_X5 lX5_far_12 dX5_far_40 rfl rfl rfl (by decide) rfl ?_
        refine g_iload_n 44 C 3 dX5_far_43 rfl rfl ?_
        refine g_iload 46 C 4 dX5_far_44 rfl rfl ?_
        refine g_callVF 49 C [1, 3] dX5_far_46 rfl (k_X1_isFlat E l  (by first | assumption | omega) (by first | assumption | omega) (by first | assumption | omega) (by first | assumption | omega)) (cwV 2 C.2.2.2.2.1 gX5_far_X1_isFlat rfl rfl rfl cdX1_isFlat ⟨Nat.le_of_ble_eq_true rfl, Nat.le_of_ble_eq_true rfl⟩) rfl rfl rfl rfl (Nat.le_of_ble_eq_true rfl) 1 1 rfl rfl rfl ⟨Nat.le_of_ble_eq_true rfl, Nat.le_of_ble_eq_true rfl⟩ ?_
        refine g_ifb_eq 55 52 C dX5_far_49 (by decide) rfl ?_ ?_
        · intro h49
          refine g_aload_n 56 C 0 dX5_far_55 rfl rfl ?_
          refine g_get 59 C 0 0 5 iX5_far_X5 lX5_far_12 dX5_far_56 rfl rfl rfl (by decide) rfl ?_
          refine g_iload_n 60 C 1 dX5_far_59 rfl rfl ?_
          refine g_iload_n 61 C 2 dX5_far_60 rfl rfl ?_
          refine g_iload_n 62 C 3 dX5_far_61 rfl rfl ?_
          refine g_iload 64 C 4 dX5_far_62 rfl rfl ?_
          refine g_callVF 67 C [1, 2, 3] dX5_far_64 rfl (k_X1_farness E l  (by first | assumption | omega) (by first | assumption | omega) (by first | assumption | omega) (by first | assumption | omega) (by first | assumption | omega) (by first | assumption | omega) (by first | assumption | omega) (by first | assumption | omega) (by first | assumption | omega)) (cwV 4 C.2.2.2.2.1 gX5_far_X1_farness rfl rfl rfl cdX1_farness ⟨Nat.le_of_ble_eq_true rfl, Nat.le_of_ble_eq_true rfl⟩) rfl rfl rfl rfl (Nat.le_of_ble_eq_true rfl) 1 1 rfl rfl rfl ⟨Nat.le_of_ble_eq_true rfl, Nat.le_of_ble_eq_true rfl⟩ ?_
          exact g_iret C hr dX5_far_67 ⟨g_ri (by (repeat' split) <;> first | rfl | omega), rfl⟩
        · intro h49
          refine g_bipush 54 C dX5_far_52 rfl (by decide) ?_
          exact g_iret C hr dX5_far_54 ⟨g_ri (by (repeat' split) <;> first | rfl | omega), rfl⟩
    · intro h22
      refine g_iconst 26 C dX5_far_25 rfl ?_
      exact g_iret C hr dX5_far_26 ⟨g_ri (by (repeat' split) <;> first | rfl | omega), rfl⟩
theorem cdX2_append : yX2_append.cls = RX2 ∧ yX2_append.cls ≠ "java/lang/invoke/MethodHandle" ∧ yX2_append.cls ≠ "java/lang/invoke/VarHandle" ∧ (parseMethodDescriptor yX2_append.desc).map (fun d => d.parameters.length) = some 2 := by decide +kernel
theorem lX5_lay_12 : Cond.fieldLink RX5 12 (TX5 0).1 (TX5 0).2.1 (TX5 0).2.2.1 ∈ wsX5_lay := by decide +kernel
theorem lX5_lay_21 : Cond.fieldLink RX5 21 (TX5 1).1 (TX5 1).2.1 (TX5 1).2.2.1 ∈ wsX5_lay := by decide +kernel
theorem lX5_lay_30 : Cond.fieldLink RX5 30 (TX5 2).1 (TX5 2).2.1 (TX5 2).2.2.1 ∈ wsX5_lay := by decide +kernel
theorem iX5_lay_X5 : ∀ w ∈ u_ws RX5 TX5 7, w ∈ wsX5_lay := by decide +kernel
set_option maxHeartbeats 4000000 in
set_option maxRecDepth 100000 in
theorem k_X5_lay (E : gE) (l : Launch) {a_D a_L a_P a_Q a_R a_X a_fi a_hs a_jl a_ly a_pc a_se a_sh a_tn a_us a_wa : Nat} {W h n p t : Int} {pc tn : Int → Int} {tr ft : Int} {jo fo sp fd tc : Int} (hB : 1 ≤ W ∧ W ≤ 5 ∧ 1 ≤ h ∧ h ≤ 5) (hn : 0 ≤ n ∧ n ≤ 25) (hp : -2147483648 ≤ p ∧ p < 2147483648) (ht : -2147483648 ≤ t ∧ t < 2147483648) : gUpd E l yX5_lay wsX5_lay { frames := 2, cells := 0, slots := 0, locals := 42 } [.ref a_X, .int (iI p), .int (iI t)] [(a_X, .inr (5, [.ref a_P, .ref a_L, .ref a_R, .ref a_D, .ref a_Q, .int (iI tr), .int (iI ft)])), (a_P, .inr (1, [.ref a_hs, .ref a_se, .int (iI W), .int (iI h)])), (a_L, .inr (2, [.ref a_pc, .ref a_tn, .int (iI n)])), (a_pc, aI E 25 pc), (a_tn, aI E 25 tn), (a_R, .inr (3, [.ref a_P, .ref a_L, .ref a_sh, .ref a_fi, .ref a_wa, .ref a_us, .ref a_ly, .ref a_jl, .int (iI jo), .int (iI fo), .int (iI sp), .int (iI fd), .int (iI tc)]))] (some (.int (iI (if ¬ (0 ≤ p ∧ p < W * h) then -1 else if ¬ (0 ≤ t ∧ t < 4) then -2 else if 25 ≤ n then -4 else n + 1)))) [(a_X, .inr (5, [.ref a_P, .ref a_L, .ref a_R, .ref a_D, .ref a_Q, .int (iI tr), .int (iI ft)])), (a_P, .inr (1, [.ref a_hs, .ref a_se, .int (iI W), .int (iI h)])), (a_L, .inr (2, [.ref a_pc, .ref a_tn, .int (iI (if (0 ≤ p ∧ p < W * h) ∧ (0 ≤ t ∧ t < 4) ∧ n < 25 then n + 1 else n))])), (a_pc, aI E 25 (if (0 ≤ p ∧ p < W * h) ∧ (0 ≤ t ∧ t < 4) ∧ n < 25 then uI pc n p else pc)), (a_tn, aI E 25 (if (0 ≤ p ∧ p < W * h) ∧ (0 ≤ t ∧ t < 4) ∧ n < 25 then uI tn n t else tn)), (a_R, .inr (3, [.ref a_P, .ref a_L, .ref a_sh, .ref a_fi, .ref a_wa, .ref a_us, .ref a_ly, .ref a_jl, .int (iI (if (0 ≤ p ∧ p < W * h) ∧ (0 ≤ t ∧ t < 4) ∧ n < 25 then 0 else jo)), .int (iI fo), .int (iI sp), .int (iI fd), .int (iI tc)]))] := by
  refine g_start (cc := cX5_lay) (maxL := 3) (ret := (some .int)) (by decide) rfl (Nat.le_of_ble_eq_true rfl) ?_
  intro p_ e_ s_ m_ args_ below_ meth_ c_ A_ C hr hnm
  have hn := nsd_b hB
  refine g_aload_n 1 C 0 dX5_lay_0 rfl rfl ?_
  refine g_get 4 C 0 0 5 iX5_lay_X5 lX5_lay_12 dX5_lay_1 rfl rfl rfl (by decide) rfl ?_
  refine g_iload_n 5 C 1 dX5_lay_4 rfl rfl ?_
  refine g_callVF 8 C [1] dX5_lay_5 rfl (k_X1_hasPiece E l  (by first | assumption | omega) (by first | assumption | omega)) (cwV 1 C.2.2.2.2.1 gX5_lay_X1_hasPiece rfl rfl rfl cdX1_hasPiece ⟨Nat.le_of_ble_eq_true rfl, Nat.le_of_ble_eq_true rfl⟩) rfl rfl rfl rfl (Nat.le_of_ble_eq_true rfl) 1 1 rfl rfl rfl ⟨Nat.le_of_ble_eq_true rfl, Nat.le_of_ble_eq_true rfl⟩ ?_
  refine g_ifb_ne 13 11 C dX5_lay_8 (by decide) rfl ?_ ?_
  · intro h8
    refine g_iload_n 14 C 2 dX5_lay_13 rfl rfl ?_
    refine g_if_lt 22 17 C dX5_lay_14 (by decide) rfl (by omega) ?_ ?_
    · intro h14
      refine g_bipush 24 C dX5_lay_22 rfl (by decide) ?_
      exact g_iret C hr dX5_lay_24 ⟨g_ri (by (repeat' split) <;> first | rfl | omega), by first | rfl | (have hg : (0 ≤ p ∧ p < W * h) ∧ (0 ≤ t ∧ t < 4) ∧ n < 25 := (by omega); simp only [if_pos hg]) | (have hg : ¬ ((0 ≤ p ∧ p < W * h) ∧ (0 ≤ t ∧ t < 4) ∧ n < 25) := (by omega); simp only [if_neg hg])⟩
    · intro h14
      refine g_iload_n 18 C 2 dX5_lay_17 rfl rfl ?_
      refine g_iconst 19 C dX5_lay_18 rfl ?_
      refine g_icmp_lt 25 22 C dX5_lay_19 (by decide) rfl (by omega) ?_ ?_
      · intro h19
        refine g_aload_n 26 C 0 dX5_lay_25 rfl rfl ?_
        refine g_get 29 C 0 1 5 iX5_lay_X5 lX5_lay_21 dX5_lay_26 rfl rfl rfl (by decide) rfl ?_
        refine g_callVF 32 C [2] dX5_lay_29 rfl (k_X2_isFull E l  (by first | assumption | omega)) (cwV 0 C.2.2.2.2.1 gX5_lay_X2_isFull rfl rfl rfl cdX2_isFull ⟨Nat.le_of_ble_eq_true rfl, Nat.le_of_ble_eq_true rfl⟩) rfl rfl rfl rfl (Nat.le_of_ble_eq_true rfl) 2 2 rfl rfl rfl ⟨Nat.le_of_ble_eq_true rfl, Nat.le_of_ble_eq_true rfl⟩ ?_
        refine g_ifb_eq 38 35 C dX5_lay_32 (by decide) rfl ?_ ?_
        · intro h32
          refine g_aload_n 39 C 0 dX5_lay_38 rfl rfl ?_
          refine g_get 42 C 0 1 5 iX5_lay_X5 lX5_lay_21 dX5_lay_39 rfl rfl rfl (by decide) rfl ?_
          refine g_iload_n 43 C 1 dX5_lay_42 rfl rfl ?_
          refine g_iload_n 44 C 2 dX5_lay_43 rfl rfl ?_
          refine g_callVU (ws' := [(_, .inr (5, [_, _, _, _, _, _, _])), (_, .inr (1, [_, _, _, _])), (_, .inr (2, [_, _, _])), (_, aI _ _ _), (_, aI _ _ _), (_, .inr (3, [_, _, _, _, _, _, _, _, _, _, _, _, _]))]) 47 C [2, 3, 4] dX5_lay_44 rfl (k_X2_append E l  (by first | assumption | omega)) (cwV 2 C.2.2.2.2.1 gX5_lay_X2_append rfl rfl rfl cdX2_append ⟨Nat.le_of_ble_eq_true rfl, Nat.le_of_ble_eq_true rfl⟩) rfl rfl rfl rfl (Nat.le_of_ble_eq_true rfl) 2 2 rfl rfl rfl ⟨Nat.le_of_ble_eq_true rfl, Nat.le_of_ble_eq_true rfl⟩ rfl rfl ?_
          refine g_aload_n 48 C 0 dX5_lay_47 rfl rfl ?_
          refine g_get 51 C 0 2 5 iX5_lay_X5 lX5_lay_30 dX5_lay_48 rfl rfl rfl (by decide) rfl ?_
          refine g_callVU (ws' := [(_, .inr (5, [_, _, _, _, _, _, _])), (_, .inr (1, [_, _, _, _])), (_, .inr (2, [_, _, _])), (_, aI _ _ _), (_, aI _ _ _), (_, .inr (3, [_, _, _, _, _, _, _, _, _, _, _, _, _]))]) 54 C [5] dX5_lay_51 rfl (k_X3_forgetJoined E l  ) (cwV 0 C.2.2.2.2.1 gX5_lay_X3_forgetJoined rfl rfl rfl cdX3_forgetJoined ⟨Nat.le_of_ble_eq_true rfl, Nat.le_of_ble_eq_true rfl⟩) rfl rfl rfl rfl (Nat.le_of_ble_eq_true rfl) 5 3 rfl rfl rfl ⟨Nat.le_of_ble_eq_true rfl, Nat.le_of_ble_eq_true rfl⟩ rfl rfl ?_
          refine g_aload_n 55 C 0 dX5_lay_54 rfl rfl ?_
          refine g_get 58 C 0 1 5 iX5_lay_X5 lX5_lay_21 dX5_lay_55 rfl rfl rfl (by decide) rfl ?_
          refine g_callVF 61 C [2] dX5_lay_58 rfl (k_X2_size E l  ) (cwV 0 C.2.2.2.2.1 gX5_lay_X2_size rfl rfl rfl cdX2_size ⟨Nat.le_of_ble_eq_true rfl, Nat.le_of_ble_eq_true rfl⟩) rfl rfl rfl rfl (Nat.le_of_ble_eq_true rfl) 2 2 rfl rfl rfl ⟨Nat.le_of_ble_eq_true rfl, Nat.le_of_ble_eq_true rfl⟩ ?_
          exact g_iret C hr dX5_lay_61 ⟨g_ri (by (repeat' split) <;> first | rfl | omega), by first | rfl | (have hg : (0 ≤ p ∧ p < W * h) ∧ (0 ≤ t ∧ t < 4) ∧ n < 25 := (by omega); simp only [if_pos hg]) | (have hg : ¬ ((0 ≤ p ∧ p < W * h) ∧ (0 ≤ t ∧ t < 4) ∧ n < 25) := (by omega); simp only [if_neg hg])⟩
        · intro h32
          refine g_bipush 37 C dX5_lay_35 rfl (by decide) ?_
          exact g_iret C hr dX5_lay_37 ⟨g_ri (by (repeat' split) <;> first | rfl | omega), by first | rfl | (have hg : (0 ≤ p ∧ p < W * h) ∧ (0 ≤ t ∧ t < 4) ∧ n < 25 := (by omega); simp only [if_pos hg]) | (have hg : ¬ ((0 ≤ p ∧ p < W * h) ∧ (0 ≤ t ∧ t < 4) ∧ n < 25) := (by omega); simp only [if_neg hg])⟩
      · intro h19
        refine g_bipush 24 C dX5_lay_22 rfl (by decide) ?_
        exact g_iret C hr dX5_lay_24 ⟨g_ri (by (repeat' split) <;> first | rfl | omega), by first | rfl | (have hg : (0 ≤ p ∧ p < W * h) ∧ (0 ≤ t ∧ t < 4) ∧ n < 25 := (by omega); simp only [if_pos hg]) | (have hg : ¬ ((0 ≤ p ∧ p < W * h) ∧ (0 ≤ t ∧ t < 4) ∧ n < 25) := (by omega); simp only [if_neg hg])⟩
  · intro h8
    refine g_iconst 12 C dX5_lay_11 rfl ?_
    exact g_iret C hr dX5_lay_12 ⟨g_ri (by (repeat' split) <;> first | rfl | omega), by first | rfl | (have hg : (0 ≤ p ∧ p < W * h) ∧ (0 ≤ t ∧ t < 4) ∧ n < 25 := (by omega); simp only [if_pos hg]) | (have hg : ¬ ((0 ≤ p ∧ p < W * h) ∧ (0 ≤ t ∧ t < 4) ∧ n < 25) := (by omega); simp only [if_neg hg])⟩
theorem cdX2_removeAt : yX2_removeAt.cls = RX2 ∧ yX2_removeAt.cls ≠ "java/lang/invoke/MethodHandle" ∧ yX2_removeAt.cls ≠ "java/lang/invoke/VarHandle" ∧ (parseMethodDescriptor yX2_removeAt.desc).map (fun d => d.parameters.length) = some 1 := by decide +kernel
theorem lX5_take_21 : Cond.fieldLink RX5 21 (TX5 1).1 (TX5 1).2.1 (TX5 1).2.2.1 ∈ wsX5_take := by decide +kernel
theorem lX5_take_30 : Cond.fieldLink RX5 30 (TX5 2).1 (TX5 2).2.1 (TX5 2).2.2.1 ∈ wsX5_take := by decide +kernel
theorem iX5_take_X5 : ∀ w ∈ u_ws RX5 TX5 7, w ∈ wsX5_take := by decide +kernel
set_option maxHeartbeats 4000000 in
set_option maxRecDepth 100000 in
theorem k_X5_take (E : gE) (l : Launch) {a_D a_L a_P a_Q a_R a_X a_fi a_jl a_ly a_pc a_sh a_tn a_us a_wa : Nat} {n i : Int} {pc tn : Int → Int} {tr ft : Int} {jo fo sp fd tc : Int} (hn : 0 ≤ n ∧ n ≤ 25) (hi : -2147483648 ≤ i ∧ i < 2147483648) : gUpd E l yX5_take wsX5_take { frames := 2, cells := 0, slots := 0, locals := 43 } [.ref a_X, .int (iI i)] [(a_X, .inr (5, [.ref a_P, .ref a_L, .ref a_R, .ref a_D, .ref a_Q, .int (iI tr), .int (iI ft)])), (a_L, .inr (2, [.ref a_pc, .ref a_tn, .int (iI n)])), (a_pc, aI E 25 pc), (a_tn, aI E 25 tn), (a_R, .inr (3, [.ref a_P, .ref a_L, .ref a_sh, .ref a_fi, .ref a_wa, .ref a_us, .ref a_ly, .ref a_jl, .int (iI jo), .int (iI fo), .int (iI sp), .int (iI fd), .int (iI tc)]))] (some (.int (iI (if 0 ≤ i ∧ i < n then pc i else -1)))) [(a_X, .inr (5, [.ref a_P, .ref a_L, .ref a_R, .ref a_D, .ref a_Q, .int (iI tr), .int (iI ft)])), (a_L, .inr (2, [.ref a_pc, .ref a_tn, .int (iI (if 0 ≤ i ∧ i < n then n - 1 else n))])), (a_pc, aI E 25 (if 0 ≤ i ∧ i < n then rmI pc i n else pc)), (a_tn, aI E 25 (if 0 ≤ i ∧ i < n then rmI tn i n else tn)), (a_R, .inr (3, [.ref a_P, .ref a_L, .ref a_sh, .ref a_fi, .ref a_wa, .ref a_us, .ref a_ly, .ref a_jl, .int (iI (if 0 ≤ i ∧ i < n then 0 else jo)), .int (iI fo), .int (iI sp), .int (iI fd), .int (iI tc)]))] := by
  refine g_start (cc := cX5_take) (maxL := 3) (ret := (some .int)) (by decide) rfl (Nat.le_of_ble_eq_true rfl) ?_
  intro p_ e_ s_ m_ args_ below_ meth_ c_ A_ C hr hnm
  refine g_aload_n 1 C 0 dX5_take_0 rfl rfl ?_
  refine g_get 4 C 0 1 5 iX5_take_X5 lX5_take_21 dX5_take_1 rfl rfl rfl (by decide) rfl ?_
  refine g_iload_n 5 C 1 dX5_take_4 rfl rfl ?_
  refine g_callVF 8 C [1] dX5_take_5 rfl (k_X2_hasPlace E l  (by first | assumption | omega) (by first | assumption | omega)) (cwV 1 C.2.2.2.2.1 gX5_take_X2_hasPlace rfl rfl rfl cdX2_hasPlace ⟨Nat.le_of_ble_eq_true rfl, Nat.le_of_ble_eq_true rfl⟩) rfl rfl rfl rfl (Nat.le_of_ble_eq_true rfl) 1 2 rfl rfl rfl ⟨Nat.le_of_ble_eq_true rfl, Nat.le_of_ble_eq_true rfl⟩ ?_
  refine g_ifb_ne 13 11 C dX5_take_8 (by decide) rfl ?_ ?_
  · intro h8
    refine g_aload_n 14 C 0 dX5_take_13 rfl rfl ?_
    refine g_get 17 C 0 1 5 iX5_take_X5 lX5_take_21 dX5_take_14 rfl rfl rfl (by decide) rfl ?_
    refine g_iload_n 18 C 1 dX5_take_17 rfl rfl ?_
    refine g_callVF 21 C [1, 2] dX5_take_18 rfl (k_X2_pieceAt E l  (by first | assumption | omega) (by first | assumption | omega)) (cwV 1 C.2.2.2.2.1 gX5_take_X2_pieceAt rfl rfl rfl cdX2_pieceAt ⟨Nat.le_of_ble_eq_true rfl, Nat.le_of_ble_eq_true rfl⟩) rfl rfl rfl rfl (Nat.le_of_ble_eq_true rfl) 1 2 rfl rfl rfl ⟨Nat.le_of_ble_eq_true rfl, Nat.le_of_ble_eq_true rfl⟩ ?_
    refine g_istore_n (lv' := [(2, _), (0, _), (1, _)]) 22 C dX5_take_21 rfl rfl (by decide) rfl ?_
    refine g_aload_n 23 C 1 dX5_take_22 rfl rfl ?_
    refine g_get 26 C 0 1 5 iX5_take_X5 lX5_take_21 dX5_take_23 rfl rfl rfl (by decide) rfl ?_
    refine g_iload_n 27 C 2 dX5_take_26 rfl rfl ?_
    refine g_callVU (ws' := [(_, .inr (5, [_, _, _, _, _, _, _])), (_, .inr (2, [_, _, _])), (_, aI _ _ _), (_, aI _ _ _), (_, .inr (3, [_, _, _, _, _, _, _, _, _, _, _, _, _]))]) 30 C [1, 2, 3] dX5_take_27 rfl (k_X2_removeAt E l  (by first | assumption | omega) (by first | assumption | omega)) (cwV 1 C.2.2.2.2.1 gX5_take_X2_removeAt rfl rfl rfl cdX2_removeAt ⟨Nat.le_of_ble_eq_true rfl, Nat.le_of_ble_eq_true rfl⟩) rfl rfl rfl rfl (Nat.le_of_ble_eq_true rfl) 1 2 rfl rfl rfl ⟨Nat.le_of_ble_eq_true rfl, Nat.le_of_ble_eq_true rfl⟩ rfl rfl ?_
    refine g_aload_n 31 C 1 dX5_take_30 rfl rfl ?_
    refine g_get 34 C 0 2 5 iX5_take_X5 lX5_take_30 dX5_take_31 rfl rfl rfl (by decide) rfl ?_
    refine g_callVU (ws' := [(_, .inr (5, [_, _, _, _, _, _, _])), (_, .inr (2, [_, _, _])), (_, aI _ _ _), (_, aI _ _ _), (_, .inr (3, [_, _, _, _, _, _, _, _, _, _, _, _, _]))]) 37 C [4] dX5_take_34 rfl (k_X3_forgetJoined E l  ) (cwV 0 C.2.2.2.2.1 gX5_take_X3_forgetJoined rfl rfl rfl cdX3_forgetJoined ⟨Nat.le_of_ble_eq_true rfl, Nat.le_of_ble_eq_true rfl⟩) rfl rfl rfl rfl (Nat.le_of_ble_eq_true rfl) 4 3 rfl rfl rfl ⟨Nat.le_of_ble_eq_true rfl, Nat.le_of_ble_eq_true rfl⟩ rfl rfl ?_
    refine g_iload_n 38 C 0 dX5_take_37 rfl rfl ?_
    exact g_iret C hr dX5_take_38 ⟨g_ri (by first | rfl | omega | exact (if_pos (by omega)).symm | exact (if_neg (by omega)).symm), by first | rfl | (have hg : 0 ≤ i ∧ i < n := (by omega); simp only [if_pos hg]) | (have hg : ¬ (0 ≤ i ∧ i < n) := (by omega); simp only [if_neg hg])⟩
  · intro h8
    refine g_iconst 12 C dX5_take_11 rfl ?_
    exact g_iret C hr dX5_take_12 ⟨g_ri (by first | rfl | omega | exact (if_pos (by omega)).symm | exact (if_neg (by omega)).symm), by first | rfl | (have hg : 0 ≤ i ∧ i < n := (by omega); simp only [if_pos hg]) | (have hg : ¬ (0 ≤ i ∧ i < n) := (by omega); simp only [if_neg hg])⟩
theorem lX5_heaped_21 : Cond.fieldLink RX5 21 (TX5 1).1 (TX5 1).2.1 (TX5 1).2.2.1 ∈ wsX5_heaped := by decide +kernel
theorem iX5_heaped_X5 : ∀ w ∈ u_ws RX5 TX5 7, w ∈ wsX5_heaped := by decide +kernel
set_option maxHeartbeats 4000000 in
set_option maxRecDepth 100000 in
theorem k_X5_heaped (E : gE) (l : Launch) {a_D a_L a_P a_Q a_R a_X a_pc a_tn : Nat} {n i t : Int} {pc tn : Int → Int} {tr ft : Int} (hn : 0 ≤ n ∧ n ≤ 25) (hi : -2147483648 ≤ i ∧ i < 2147483648) (ht : -2147483648 ≤ t ∧ t < 2147483648) : gFun E l yX5_heaped wsX5_heaped { frames := 2, cells := 0, slots := 0, locals := 42 } [.ref a_X, .int (iI i), .int (iI t)] [(a_X, .inr (5, [.ref a_P, .ref a_L, .ref a_R, .ref a_D, .ref a_Q, .int (iI tr), .int (iI ft)])), (a_L, .inr (2, [.ref a_pc, .ref a_tn, .int (iI n)])), (a_pc, aI E 25 pc), (a_tn, aI E 25 tn)] (.int (iI (if ¬ (0 ≤ i ∧ i < n) then -1 else if t = 0 then pc i else if t = 1 then tn i else -2))) := by
  refine g_start (cc := cX5_heaped) (maxL := 3) (ret := (some .int)) (by decide) rfl (Nat.le_of_ble_eq_true rfl) ?_
  intro p_ e_ s_ m_ args_ below_ meth_ c_ A_ C hr hnm
  refine g_aload_n 1 C 0 dX5_heaped_0 rfl rfl ?_
  refine g_get 4 C 0 1 5 iX5_heaped_X5 lX5_heaped_21 dX5_heaped_1 rfl rfl rfl (by decide) rfl ?_
  refine g_iload_n 5 C 1 dX5_heaped_4 rfl rfl ?_
  refine g_callVF 8 C [1] dX5_heaped_5 rfl (k_X2_hasPlace E l  (by first | assumption | omega) (by first | assumption | omega)) (cwV 1 C.2.2.2.2.1 gX5_heaped_X2_hasPlace rfl rfl rfl cdX2_hasPlace ⟨Nat.le_of_ble_eq_true rfl, Nat.le_of_ble_eq_true rfl⟩) rfl rfl rfl rfl (Nat.le_of_ble_eq_true rfl) 1 2 rfl rfl rfl ⟨Nat.le_of_ble_eq_true rfl, Nat.le_of_ble_eq_true rfl⟩ ?_
  refine g_ifb_ne 13 11 C dX5_heaped_8 (by decide) rfl ?_ ?_
  · intro h8
    refine g_iload_n 14 C 2 dX5_heaped_13 rfl rfl ?_
    refine g_lsw2 40 49 58 C dX5_heaped_14 (by decide) (by omega) (by decide) (by decide) (by decide) ?_ ?_ ?_
    · intro hs14_a
      refine g_aload_n 41 C 0 dX5_heaped_40 rfl rfl ?_
      refine g_get 44 C 0 1 5 iX5_heaped_X5 lX5_heaped_21 dX5_heaped_41 rfl rfl rfl (by decide) rfl ?_
      refine g_iload_n 45 C 1 dX5_heaped_44 rfl rfl ?_
      refine g_callVF 48 C [1, 2] dX5_heaped_45 rfl (k_X2_pieceAt E l  (by first | assumption | omega) (by first | assumption | omega)) (cwV 1 C.2.2.2.2.1 gX5_heaped_X2_pieceAt rfl rfl rfl cdX2_pieceAt ⟨Nat.le_of_ble_eq_true rfl, Nat.le_of_ble_eq_true rfl⟩) rfl rfl rfl rfl (Nat.le_of_ble_eq_true rfl) 1 2 rfl rfl rfl ⟨Nat.le_of_ble_eq_true rfl, Nat.le_of_ble_eq_true rfl⟩ ?_
      exact g_iret C hr dX5_heaped_48 ⟨g_ri (by (repeat' split) <;> first | rfl | omega), rfl⟩
    · intro hs14_b
      refine g_aload_n 50 C 0 dX5_heaped_49 rfl rfl ?_
      refine g_get 53 C 0 1 5 iX5_heaped_X5 lX5_heaped_21 dX5_heaped_50 rfl rfl rfl (by decide) rfl ?_
      refine g_iload_n 54 C 1 dX5_heaped_53 rfl rfl ?_
      refine g_callVF 57 C [1, 3] dX5_heaped_54 rfl (k_X2_turnAt E l  (by first | assumption | omega) (by first | assumption | omega)) (cwV 1 C.2.2.2.2.1 gX5_heaped_X2_turnAt rfl rfl rfl cdX2_turnAt ⟨Nat.le_of_ble_eq_true rfl, Nat.le_of_ble_eq_true rfl⟩) rfl rfl rfl rfl (Nat.le_of_ble_eq_true rfl) 1 2 rfl rfl rfl ⟨Nat.le_of_ble_eq_true rfl, Nat.le_of_ble_eq_true rfl⟩ ?_
      exact g_iret C hr dX5_heaped_57 ⟨g_ri (by (repeat' split) <;> first | rfl | omega), rfl⟩
    · intro hs14_d
      refine g_bipush 60 C dX5_heaped_58 rfl (by decide) ?_
      exact g_iret C hr dX5_heaped_60 ⟨g_ri (by (repeat' split) <;> first | rfl | omega), rfl⟩
  · intro h8
    refine g_iconst 12 C dX5_heaped_11 rfl ?_
    exact g_iret C hr dX5_heaped_12 ⟨g_ri (by (repeat' split) <;> first | rfl | omega), rfl⟩
theorem cdX2_timesOf : yX2_timesOf.cls = RX2 ∧ yX2_timesOf.cls ≠ "java/lang/invoke/MethodHandle" ∧ yX2_timesOf.cls ≠ "java/lang/invoke/VarHandle" ∧ (parseMethodDescriptor yX2_timesOf.desc).map (fun d => d.parameters.length) = some 1 := by decide +kernel
theorem lX5_isMissing_21 : Cond.fieldLink RX5 21 (TX5 1).1 (TX5 1).2.1 (TX5 1).2.2.1 ∈ wsX5_isMissing := by decide +kernel
theorem iX5_isMissing_X5 : ∀ w ∈ u_ws RX5 TX5 7, w ∈ wsX5_isMissing := by decide +kernel
set_option maxHeartbeats 4000000 in
set_option maxRecDepth 100000 in
theorem k_X5_isMissing (E : gE) (l : Launch) {a_D a_L a_P a_Q a_R a_X a_pc a_tn : Nat} {n t p : Int} {pc : Int → Int} {tr ft : Int} (hn : 0 ≤ n ∧ n ≤ 25) (hpn : ∀ j : Int, 0 ≤ j ∧ j < n → 0 ≤ pc j ∧ pc j < 25) (ht : -2147483648 ≤ t ∧ t < 2147483648) (hp : -2147483648 ≤ p ∧ p < 2147483648) : gFun E l yX5_isMissing wsX5_isMissing { frames := 1, cells := 0, slots := 0, locals := 23 } [.ref a_X, .int (iI t), .int (iI p)] [(a_X, .inr (5, [.ref a_P, .ref a_L, .ref a_R, .ref a_D, .ref a_Q, .int (iI tr), .int (iI ft)])), (a_L, .inr (2, [.ref a_pc, .ref a_tn, .int (iI n)])), (a_pc, aI E 25 pc)] (.int (iI (cI (msP n pc t p) 1 0))) := by
  refine g_start (cc := cX5_isMissing) (maxL := 4) (ret := (some .boolean)) (by decide) rfl (Nat.le_of_ble_eq_true rfl) ?_
  intro p_ e_ s_ m_ args_ below_ meth_ c_ A_ C hr hnm
  refine g_aload_n 1 C 0 dX5_isMissing_0 rfl rfl ?_
  refine g_get 4 C 0 1 5 iX5_isMissing_X5 lX5_isMissing_21 dX5_isMissing_1 rfl rfl rfl (by decide) rfl ?_
  refine g_iload_n 5 C 2 dX5_isMissing_4 rfl rfl ?_
  refine g_callVF 8 C [1, 2] dX5_isMissing_5 rfl (k_X2_timesOf E l  (by first | assumption | omega) (by first | assumption | omega) (by first | assumption | omega)) (cwV 1 C.2.2.2.2.1 gX5_isMissing_X2_timesOf rfl rfl rfl cdX2_timesOf ⟨Nat.le_of_ble_eq_true rfl, Nat.le_of_ble_eq_true rfl⟩) rfl rfl rfl rfl (Nat.le_of_ble_eq_true rfl) 1 2 rfl rfl rfl ⟨Nat.le_of_ble_eq_true rfl, Nat.le_of_ble_eq_true rfl⟩ ?_
  have e0 := cnI_b (fun j => pc j = p) hn.1
  have e1 : tmI n pc p = cnI (fun j => pc j = p) n := rfl
  refine g_istore_n (lv' := [(3, _), (0, _), (1, _), (2, _)]) 9 C dX5_isMissing_8 rfl rfl (by decide) rfl ?_
  refine g_iload_n 10 C 2 dX5_isMissing_9 rfl rfl ?_
  refine g_if_ne 25 13 C dX5_isMissing_10 (by decide) rfl (by omega) ?_ ?_
  · intro h10
    refine g_iload_n 26 C 0 dX5_isMissing_25 rfl rfl ?_
    refine g_iconst 27 C dX5_isMissing_26 rfl ?_
    refine g_icmp_le 34 30 C dX5_isMissing_27 (by decide) rfl (by omega) ?_ ?_
    · intro h27
      refine g_iconst 35 C dX5_isMissing_34 rfl ?_
      exact g_zret C hr dX5_isMissing_35 (by first | rfl | decide | (split <;> rfl)) ⟨g_ri (by first | exact (cI_t (by unfold msP; omega)).symm | exact (cI_f (by unfold msP; omega)).symm), rfl⟩
    · intro h27
      refine g_iconst 31 C dX5_isMissing_30 rfl ?_
      refine g_goto 35 C dX5_isMissing_31 (by decide) ?_
      exact g_zret C hr dX5_isMissing_35 (by first | rfl | decide | (split <;> rfl)) ⟨g_ri (by first | exact (cI_t (by unfold msP; omega)).symm | exact (cI_f (by unfold msP; omega)).symm), rfl⟩
  · intro h10
    refine g_iload_n 14 C 0 dX5_isMissing_13 rfl rfl ?_
    refine g_if_ne 21 17 C dX5_isMissing_14 (by decide) rfl (by omega) ?_ ?_
    · intro h14
      refine g_iconst 22 C dX5_isMissing_21 rfl ?_
      refine g_goto 35 C dX5_isMissing_22 (by decide) ?_
      exact g_zret C hr dX5_isMissing_35 (by first | rfl | decide | (split <;> rfl)) ⟨g_ri (by first | exact (cI_t (by unfold msP; omega)).symm | exact (cI_f (by unfold msP; omega)).symm), rfl⟩
    · intro h14
      refine g_iconst 18 C dX5_isMissing_17 rfl ?_
      refine g_goto 35 C dX5_isMissing_18 (by decide) ?_
      exact g_zret C hr dX5_isMissing_35 (by first | rfl | decide | (split <;> rfl)) ⟨g_ri (by first | exact (cI_t (by unfold msP; omega)).symm | exact (cI_f (by unfold msP; omega)).symm), rfl⟩
theorem cdX5_isMissing : yX5_isMissing.cls = RX5 ∧ yX5_isMissing.cls ≠ "java/lang/invoke/MethodHandle" ∧ yX5_isMissing.cls ≠ "java/lang/invoke/VarHandle" ∧ (parseMethodDescriptor yX5_isMissing.desc).map (fun d => d.parameters.length) = some 2 := by decide +kernel
theorem lX5_countMissing_12 : Cond.fieldLink RX5 12 (TX5 0).1 (TX5 0).2.1 (TX5 0).2.2.1 ∈ wsX5_countMissing := by decide +kernel
theorem iX5_countMissing_X5 : ∀ w ∈ u_ws RX5 TX5 7, w ∈ wsX5_countMissing := by decide +kernel
set_option maxHeartbeats 4000000 in
set_option maxRecDepth 100000 in
theorem k_X5_countMissing (E : gE) (l : Launch) {a_D a_L a_P a_Q a_R a_X a_hs a_pc a_se a_tn : Nat} {W h n t : Int} {pc : Int → Int} {tr ft : Int} (hB : 1 ≤ W ∧ W ≤ 5 ∧ 1 ≤ h ∧ h ≤ 5) (hn : 0 ≤ n ∧ n ≤ 25) (hpn : ∀ j : Int, 0 ≤ j ∧ j < n → 0 ≤ pc j ∧ pc j < 25) (ht : -2147483648 ≤ t ∧ t < 2147483648) : gFun E l yX5_countMissing wsX5_countMissing { frames := 2, cells := 0, slots := 0, locals := 46 } [.ref a_X, .int (iI t)] [(a_X, .inr (5, [.ref a_P, .ref a_L, .ref a_R, .ref a_D, .ref a_Q, .int (iI tr), .int (iI ft)])), (a_P, .inr (1, [.ref a_hs, .ref a_se, .int (iI W), .int (iI h)])), (a_L, .inr (2, [.ref a_pc, .ref a_tn, .int (iI n)])), (a_pc, aI E 25 pc)] (.int (iI (cnI (msP n pc t) (W * h)))) := by
  refine g_start (cc := cX5_countMissing) (maxL := 4) (ret := (some .int)) (by decide) rfl (Nat.le_of_ble_eq_true rfl) ?_
  intro p_ e_ s_ m_ args_ below_ meth_ c_ A_ C hr hnm
  have hn := nsd_b hB
  refine g_iconst 1 C dX5_countMissing_0 rfl ?_
  refine g_istore_n (lv' := [(2, _), (0, _), (1, _)]) 2 C dX5_countMissing_1 rfl rfl (by decide) rfl ?_
  refine g_iconst 3 C dX5_countMissing_2 rfl ?_
  refine g_istore_n (lv' := [(3, _), (2, _), (0, _), (1, _)]) 4 C dX5_countMissing_3 rfl rfl (by decide) rfl ?_
  refine g_loop (α := Int × Int) (fun zz => [(a_X, .inr (5, [.ref a_P, .ref a_L, .ref a_R, .ref a_D, .ref a_Q, .int (iI tr), .int (iI ft)])), (a_P, .inr (1, [.ref a_hs, .ref a_se, .int (iI W), .int (iI h)])), (a_L, .inr (2, [.ref a_pc, .ref a_tn, .int (iI n)])), (a_pc, aI E 25 pc)]) (fun zz => [(2, .int (iI zz.1)), (3, .int (iI zz.2)), (1, .int (iI t)), (0, .ref a_X)]) (fun zz => (0 ≤ zz.2 ∧ zz.2 ≤ W * h) ∧ zz.1 = cnI (msP n pc t) zz.2) (fun zz => (W * h - zz.2).toNat) (0, 0) (by
            try dsimp only
            exact ⟨by omega, rfl⟩) [1, 0, 3, 2] rfl rfl ?_
  rintro ⟨c, k⟩ hI ih4
  try dsimp only at hI ih4 ⊢
  obtain ⟨hk, rfl⟩ := hI
  refine g_iload_n 5 C 1 dX5_countMissing_4 rfl rfl ?_
  refine g_aload_n 6 C 3 dX5_countMissing_5 rfl rfl ?_
  refine g_get 9 C 0 0 5 iX5_countMissing_X5 lX5_countMissing_12 dX5_countMissing_6 rfl rfl rfl (by decide) rfl ?_
  refine g_callVF 12 C [1] dX5_countMissing_9 rfl (k_X1_pieces E l  ) (cwV 0 C.2.2.2.2.1 gX5_countMissing_X1_pieces rfl rfl rfl cdX1_pieces ⟨Nat.le_of_ble_eq_true rfl, Nat.le_of_ble_eq_true rfl⟩) rfl rfl rfl rfl (Nat.le_of_ble_eq_true rfl) 1 1 rfl rfl rfl ⟨Nat.le_of_ble_eq_true rfl, Nat.le_of_ble_eq_true rfl⟩ ?_
  refine g_icmp_ge 33 15 C dX5_countMissing_12 (by decide) rfl (by omega) ?_ ?_
  · intro h12
    refine g_iload_n 34 C 0 dX5_countMissing_33 rfl rfl ?_
    exact g_iret C hr dX5_countMissing_34 ⟨g_ri (by rw [show k = W * h by omega]), rfl⟩
  · intro h12
    refine g_aload_n 16 C 3 dX5_countMissing_15 rfl rfl ?_
    refine g_iload_n 17 C 2 dX5_countMissing_16 rfl rfl ?_
    refine g_iload_n 18 C 1 dX5_countMissing_17 rfl rfl ?_
    refine g_callVF 21 C [0, 2, 3] dX5_countMissing_18 rfl (k_X5_isMissing E l  (by first | assumption | omega) (by first | assumption | omega) (by first | assumption | omega) (by first | assumption | omega)) (cwV 2 C.2.2.2.2.1 gX5_countMissing_X5_isMissing rfl rfl rfl cdX5_isMissing ⟨Nat.le_of_ble_eq_true rfl, Nat.le_of_ble_eq_true rfl⟩) rfl rfl rfl rfl (Nat.le_of_ble_eq_true rfl) 0 5 rfl rfl rfl ⟨Nat.le_of_ble_eq_true rfl, Nat.le_of_ble_eq_true rfl⟩ ?_
    refine g_ifb_eq 27 24 C dX5_countMissing_21 (by decide) rfl ?_ ?_
    · intro h21
      refine g_iinc (lv' := [(3, _), (2, _), (1, _), (0, _)]) 30 C 1 dX5_countMissing_27 rfl rfl (by decide) rfl ?_
      refine g_goto 4 C dX5_countMissing_30 (by decide) ?_
      first
      | exact g_w [1, 0, 2, 3] rfl rfl (ih4 ((cnI (msP n pc t) k + 1), (k + 1)) (by
            try dsimp only
            exact ⟨by omega, by first | exact (cnI_st (msP n pc t) hk.1 (by assumption)).symm | exact (cnI_sf (msP n pc t) hk.1 (by assumption)).symm⟩) (by (try dsimp only); omega))
      | exact g_w [1, 0, 2, 3] rfl rfl (ih4 ((cnI (msP n pc t) k), (k + 1)) (by
            try dsimp only
            exact ⟨by omega, by first | exact (cnI_st (msP n pc t) hk.1 (by assumption)).symm | exact (cnI_sf (msP n pc t) hk.1 (by assumption)).symm⟩) (by (try dsimp only); omega))
    · intro h21
      refine g_iinc (lv' := [(2, _), (3, _), (1, _), (0, _)]) 27 C 0 dX5_countMissing_24 rfl rfl (by decide) rfl ?_
      refine g_iinc (lv' := [(3, _), (2, _), (1, _), (0, _)]) 30 C 1 dX5_countMissing_27 rfl rfl (by decide) rfl ?_
      refine g_goto 4 C dX5_countMissing_30 (by decide) ?_
      first
      | exact g_w [1, 0, 2, 3] rfl rfl (ih4 ((cnI (msP n pc t) k + 1), (k + 1)) (by
            try dsimp only
            exact ⟨by omega, by first | exact (cnI_st (msP n pc t) hk.1 (by assumption)).symm | exact (cnI_sf (msP n pc t) hk.1 (by assumption)).symm⟩) (by (try dsimp only); omega))
      | exact g_w [1, 0, 2, 3] rfl rfl (ih4 ((cnI (msP n pc t) k), (k + 1)) (by
            try dsimp only
            exact ⟨by omega, by first | exact (cnI_st (msP n pc t) hk.1 (by assumption)).symm | exact (cnI_sf (msP n pc t) hk.1 (by assumption)).symm⟩) (by (try dsimp only); omega))
theorem lX5_missingPiece_12 : Cond.fieldLink RX5 12 (TX5 0).1 (TX5 0).2.1 (TX5 0).2.2.1 ∈ wsX5_missingPiece := by decide +kernel
theorem iX5_missingPiece_X5 : ∀ w ∈ u_ws RX5 TX5 7, w ∈ wsX5_missingPiece := by decide +kernel
set_option maxHeartbeats 4000000 in
set_option maxRecDepth 100000 in
theorem k_X5_missingPiece (E : gE) (l : Launch) {a_D a_L a_P a_Q a_R a_X a_hs a_pc a_se a_tn : Nat} {W h n t i : Int} {pc : Int → Int} {tr ft : Int} (hB : 1 ≤ W ∧ W ≤ 5 ∧ 1 ≤ h ∧ h ≤ 5) (hn : 0 ≤ n ∧ n ≤ 25) (hpn : ∀ j : Int, 0 ≤ j ∧ j < n → 0 ≤ pc j ∧ pc j < 25) (ht : -2147483648 ≤ t ∧ t < 2147483648) (hi : 0 ≤ i ∧ i < 2147483648) : gMet E l yX5_missingPiece wsX5_missingPiece { frames := 2, cells := 0, slots := 0, locals := 46 } 0 0 [.ref a_X, .int (iI t), .int (iI i)] [(a_X, .inr (5, [.ref a_P, .ref a_L, .ref a_R, .ref a_D, .ref a_Q, .int (iI tr), .int (iI ft)])), (a_P, .inr (1, [.ref a_hs, .ref a_se, .int (iI W), .int (iI h)])), (a_L, .inr (2, [.ref a_pc, .ref a_tn, .int (iI n)])), (a_pc, aI E 25 pc)] (fun v w => ∃ r : Int, (v = some (.int (iI r)) ∧ mdP (W * h) n pc t i r) ∧ w = [(a_X, .inr (5, [.ref a_P, .ref a_L, .ref a_R, .ref a_D, .ref a_Q, .int (iI tr), .int (iI ft)])), (a_P, .inr (1, [.ref a_hs, .ref a_se, .int (iI W), .int (iI h)])), (a_L, .inr (2, [.ref a_pc, .ref a_tn, .int (iI n)])), (a_pc, aI E 25 pc)]) := by
  refine g_start (cc := cX5_missingPiece) (maxL := 5) (ret := (some .int)) (by decide) rfl (Nat.le_of_ble_eq_true rfl) ?_
  intro p_ e_ s_ m_ args_ below_ meth_ c_ A_ C hr hnm
  have hn := nsd_b hB
  refine g_iconst 1 C dX5_missingPiece_0 rfl ?_
  refine g_istore_n (lv' := [(3, _), (0, _), (1, _), (2, _)]) 2 C dX5_missingPiece_1 rfl rfl (by decide) rfl ?_
  refine g_iconst 3 C dX5_missingPiece_2 rfl ?_
  refine g_istore (lv' := [(4, _), (3, _), (0, _), (1, _), (2, _)]) 5 C dX5_missingPiece_3 rfl (by decide) rfl ?_
  refine g_loop (α := Int × Int) (fun zz => [(a_X, .inr (5, [.ref a_P, .ref a_L, .ref a_R, .ref a_D, .ref a_Q, .int (iI tr), .int (iI ft)])), (a_P, .inr (1, [.ref a_hs, .ref a_se, .int (iI W), .int (iI h)])), (a_L, .inr (2, [.ref a_pc, .ref a_tn, .int (iI n)])), (a_pc, aI E 25 pc)]) (fun zz => [(3, .int (iI zz.1)), (4, .int (iI zz.2)), (2, .int (iI i)), (1, .int (iI t)), (0, .ref a_X)]) (fun zz => ((0 ≤ zz.2 ∧ zz.2 ≤ W * h) ∧ zz.1 ≤ i) ∧ zz.1 = cnI (msP n pc t) zz.2) (fun zz => (W * h - zz.2).toNat) (0, 0) (by
            try dsimp only
            exact ⟨by omega, rfl⟩) [1, 0, 4, 3, 2] rfl rfl ?_
  rintro ⟨c, k⟩ hI ih5
  try dsimp only at hI ih5 ⊢
  obtain ⟨⟨hk, hci⟩, rfl⟩ := hI
  refine g_iload 7 C 1 dX5_missingPiece_5 rfl rfl ?_
  refine g_aload_n 8 C 4 dX5_missingPiece_7 rfl rfl ?_
  refine g_get 11 C 0 0 5 iX5_missingPiece_X5 lX5_missingPiece_12 dX5_missingPiece_8 rfl rfl rfl (by decide) rfl ?_
  refine g_callVF 14 C [1] dX5_missingPiece_11 rfl (k_X1_pieces E l  ) (cwV 0 C.2.2.2.2.1 gX5_missingPiece_X1_pieces rfl rfl rfl cdX1_pieces ⟨Nat.le_of_ble_eq_true rfl, Nat.le_of_ble_eq_true rfl⟩) rfl rfl rfl rfl (Nat.le_of_ble_eq_true rfl) 1 1 rfl rfl rfl ⟨Nat.le_of_ble_eq_true rfl, Nat.le_of_ble_eq_true rfl⟩ ?_
  refine g_icmp_ge 44 17 C dX5_missingPiece_14 (by decide) rfl (by omega) ?_ ?_
  · intro h14
    refine g_iconst 45 C dX5_missingPiece_44 rfl ?_
    exact g_iret C hr dX5_missingPiece_45 ⟨_, ⟨rfl, Or.inl ⟨rfl, by rw [show W * h = k by omega]; exact hci⟩⟩, rfl⟩
  · intro h14
    refine g_aload_n 18 C 4 dX5_missingPiece_17 rfl rfl ?_
    refine g_iload_n 19 C 3 dX5_missingPiece_18 rfl rfl ?_
    refine g_iload 21 C 1 dX5_missingPiece_19 rfl rfl ?_
    refine g_callVF 24 C [0, 2, 3] dX5_missingPiece_21 rfl (k_X5_isMissing E l  (by first | assumption | omega) (by first | assumption | omega) (by first | assumption | omega) (by first | assumption | omega)) (cwV 2 C.2.2.2.2.1 gX5_missingPiece_X5_isMissing rfl rfl rfl cdX5_isMissing ⟨Nat.le_of_ble_eq_true rfl, Nat.le_of_ble_eq_true rfl⟩) rfl rfl rfl rfl (Nat.le_of_ble_eq_true rfl) 0 5 rfl rfl rfl ⟨Nat.le_of_ble_eq_true rfl, Nat.le_of_ble_eq_true rfl⟩ ?_
    refine g_ifb_eq 38 27 C dX5_missingPiece_24 (by decide) rfl ?_ ?_
    · intro h24
      refine g_iinc (lv' := [(4, _), (3, _), (2, _), (1, _), (0, _)]) 41 C 1 dX5_missingPiece_38 rfl rfl (by decide) rfl ?_
      refine g_goto 5 C dX5_missingPiece_41 (by decide) ?_
      first
      | exact g_w [1, 0, 2, 3, 4] rfl rfl (ih5 ((cnI (msP n pc t) k + 1), (k + 1)) (by
            try dsimp only
            exact ⟨by omega, by first | exact (cnI_st (msP n pc t) hk.1 (by assumption)).symm | exact (cnI_sf (msP n pc t) hk.1 (by assumption)).symm⟩) (by (try dsimp only); omega))
      | exact g_w [1, 0, 2, 3, 4] rfl rfl (ih5 ((cnI (msP n pc t) k), (k + 1)) (by
            try dsimp only
            exact ⟨by omega, by first | exact (cnI_st (msP n pc t) hk.1 (by assumption)).symm | exact (cnI_sf (msP n pc t) hk.1 (by assumption)).symm⟩) (by (try dsimp only); omega))
    · intro h24
      refine g_iload_n 28 C 0 dX5_missingPiece_27 rfl rfl ?_
      refine g_iload_n 29 C 2 dX5_missingPiece_28 rfl rfl ?_
      have e0 := cnI_b (msP n pc t) hk.1
      refine g_icmp_ne 35 32 C dX5_missingPiece_29 (by decide) rfl (by omega) ?_ ?_
      · intro h29
        refine g_iinc (lv' := [(3, _), (4, _), (2, _), (1, _), (0, _)]) 38 C 0 dX5_missingPiece_35 rfl rfl (by decide) rfl ?_
        refine g_iinc (lv' := [(4, _), (3, _), (2, _), (1, _), (0, _)]) 41 C 1 dX5_missingPiece_38 rfl rfl (by decide) rfl ?_
        refine g_goto 5 C dX5_missingPiece_41 (by decide) ?_
        first
        | exact g_w [1, 0, 2, 3, 4] rfl rfl (ih5 ((cnI (msP n pc t) k + 1), (k + 1)) (by
            try dsimp only
            exact ⟨by omega, by first | exact (cnI_st (msP n pc t) hk.1 (by assumption)).symm | exact (cnI_sf (msP n pc t) hk.1 (by assumption)).symm⟩) (by (try dsimp only); omega))
        | exact g_w [1, 0, 2, 3, 4] rfl rfl (ih5 ((cnI (msP n pc t) k), (k + 1)) (by
            try dsimp only
            exact ⟨by omega, by first | exact (cnI_st (msP n pc t) hk.1 (by assumption)).symm | exact (cnI_sf (msP n pc t) hk.1 (by assumption)).symm⟩) (by (try dsimp only); omega))
      · intro h29
        refine g_iload 34 C 1 dX5_missingPiece_32 rfl rfl ?_
        exact g_iret C hr dX5_missingPiece_34 ⟨_, ⟨rfl, Or.inr ⟨by omega, by assumption, by omega⟩⟩, rfl⟩
theorem cdX5_countMissing : yX5_countMissing.cls = RX5 ∧ yX5_countMissing.cls ≠ "java/lang/invoke/MethodHandle" ∧ yX5_countMissing.cls ≠ "java/lang/invoke/VarHandle" ∧ (parseMethodDescriptor yX5_countMissing.desc).map (fun d => d.parameters.length) = some 1 := by decide +kernel
theorem cdX5_isMissingWhat : yX5_isMissingWhat.cls ≠ "java/lang/invoke/MethodHandle" ∧ yX5_isMissingWhat.cls ≠ "java/lang/invoke/VarHandle" ∧ (parseMethodDescriptor yX5_isMissingWhat.desc).map (fun d => d.parameters.length) = some 1 := by decide +kernel
set_option maxHeartbeats 4000000 in
set_option maxRecDepth 100000 in
theorem k_X5_missing (E : gE) (l : Launch) {a_D a_L a_P a_Q a_R a_X a_hs a_pc a_se a_tn : Nat} {W h n t : Int} {pc : Int → Int} {tr ft : Int} (hB : 1 ≤ W ∧ W ≤ 5 ∧ 1 ≤ h ∧ h ≤ 5) (hn : 0 ≤ n ∧ n ≤ 25) (hpn : ∀ j : Int, 0 ≤ j ∧ j < n → 0 ≤ pc j ∧ pc j < 25) (ht : -2147483648 ≤ t ∧ t < 2147483648) : gFun E l yX5_missing wsX5_missing { frames := 3, cells := 0, slots := 0, locals := 69 } [.ref a_X, .int (iI t)] [(a_X, .inr (5, [.ref a_P, .ref a_L, .ref a_R, .ref a_D, .ref a_Q, .int (iI tr), .int (iI ft)])), (a_P, .inr (1, [.ref a_hs, .ref a_se, .int (iI W), .int (iI h)])), (a_L, .inr (2, [.ref a_pc, .ref a_tn, .int (iI n)])), (a_pc, aI E 25 pc)] (.int (iI (if t = 0 ∨ t = 1 then cnI (msP n pc t) (W * h) else -2))) := by
  refine g_start (cc := cX5_missing) (maxL := 2) (ret := (some .int)) (by decide) rfl (Nat.le_of_ble_eq_true rfl) ?_
  intro p_ e_ s_ m_ args_ below_ meth_ c_ A_ C hr hnm
  refine g_iload_n 1 C 1 dX5_missing_0 rfl rfl ?_
  refine g_callSF 4 C [] dX5_missing_1 rfl (k_X5_isMissingWhat E l  (by first | assumption | omega)) (va_cwS 1 C.2.2.2.2.1 gX5_missing_X5_isMissingWhat rfl rfl rfl cdX5_isMissingWhat ⟨Nat.le_of_ble_eq_true rfl, Nat.le_of_ble_eq_true rfl⟩) rfl rfl rfl rfl (Nat.le_of_ble_eq_true rfl) ⟨Nat.le_of_ble_eq_true rfl, Nat.le_of_ble_eq_true rfl⟩ ?_
  refine g_ifb_ne 10 7 C dX5_missing_4 (by decide) rfl ?_ ?_
  · intro h4
    refine g_aload_n 11 C 0 dX5_missing_10 rfl rfl ?_
    refine g_iload_n 12 C 1 dX5_missing_11 rfl rfl ?_
    refine g_callVF 15 C [0, 1, 2, 3] dX5_missing_12 rfl (k_X5_countMissing E l  (by first | assumption | omega) (by first | assumption | omega) (by first | assumption | omega) (by first | assumption | omega)) (cwV 1 C.2.2.2.2.1 gX5_missing_X5_countMissing rfl rfl rfl cdX5_countMissing ⟨Nat.le_of_ble_eq_true rfl, Nat.le_of_ble_eq_true rfl⟩) rfl rfl rfl rfl (Nat.le_of_ble_eq_true rfl) 0 5 rfl rfl rfl ⟨Nat.le_of_ble_eq_true rfl, Nat.le_of_ble_eq_true rfl⟩ ?_
    exact g_iret C hr dX5_missing_15 ⟨g_ri (by first | rfl | omega | exact (if_pos (by omega)).symm | exact (if_neg (by omega)).symm), rfl⟩
  · intro h4
    refine g_bipush 9 C dX5_missing_7 rfl (by decide) ?_
    exact g_iret C hr dX5_missing_9 ⟨g_ri (by first | rfl | omega | exact (if_pos (by omega)).symm | exact (if_neg (by omega)).symm), rfl⟩
theorem cdX5_missingPiece : yX5_missingPiece.cls = RX5 ∧ yX5_missingPiece.cls ≠ "java/lang/invoke/MethodHandle" ∧ yX5_missingPiece.cls ≠ "java/lang/invoke/VarHandle" ∧ (parseMethodDescriptor yX5_missingPiece.desc).map (fun d => d.parameters.length) = some 2 := by decide +kernel
set_option maxHeartbeats 4000000 in
set_option maxRecDepth 100000 in
theorem k_X5_missed (E : gE) (l : Launch) {a_D a_L a_P a_Q a_R a_X a_hs a_pc a_se a_tn : Nat} {W h n t i : Int} {pc : Int → Int} {tr ft : Int} (hB : 1 ≤ W ∧ W ≤ 5 ∧ 1 ≤ h ∧ h ≤ 5) (hn : 0 ≤ n ∧ n ≤ 25) (hpn : ∀ j : Int, 0 ≤ j ∧ j < n → 0 ≤ pc j ∧ pc j < 25) (ht : -2147483648 ≤ t ∧ t < 2147483648) (hi : -2147483648 ≤ i ∧ i < 2147483648) : gMet E l yX5_missed wsX5_missed { frames := 3, cells := 0, slots := 0, locals := 70 } 0 0 [.ref a_X, .int (iI t), .int (iI i)] [(a_X, .inr (5, [.ref a_P, .ref a_L, .ref a_R, .ref a_D, .ref a_Q, .int (iI tr), .int (iI ft)])), (a_P, .inr (1, [.ref a_hs, .ref a_se, .int (iI W), .int (iI h)])), (a_L, .inr (2, [.ref a_pc, .ref a_tn, .int (iI n)])), (a_pc, aI E 25 pc)] (fun v w => ∃ r : Int, (v = some (.int (iI r)) ∧ ((i < 0 ∧ r = -1) ∨ (0 ≤ i ∧ ¬ (t = 0 ∨ t = 1) ∧ r = -2) ∨ (0 ≤ i ∧ (t = 0 ∨ t = 1) ∧ mdP (W * h) n pc t i r))) ∧ w = [(a_X, .inr (5, [.ref a_P, .ref a_L, .ref a_R, .ref a_D, .ref a_Q, .int (iI tr), .int (iI ft)])), (a_P, .inr (1, [.ref a_hs, .ref a_se, .int (iI W), .int (iI h)])), (a_L, .inr (2, [.ref a_pc, .ref a_tn, .int (iI n)])), (a_pc, aI E 25 pc)]) := by
  refine g_start (cc := cX5_missed) (maxL := 3) (ret := (some .int)) (by decide) rfl (Nat.le_of_ble_eq_true rfl) ?_
  intro p_ e_ s_ m_ args_ below_ meth_ c_ A_ C hr hnm
  refine g_iload_n 1 C 2 dX5_missed_0 rfl rfl ?_
  refine g_if_ge 6 4 C dX5_missed_1 (by decide) rfl (by omega) ?_ ?_
  · intro h1
    refine g_iload_n 7 C 1 dX5_missed_6 rfl rfl ?_
    refine g_callSF 10 C [] dX5_missed_7 rfl (k_X5_isMissingWhat E l  (by first | assumption | omega)) (va_cwS 1 C.2.2.2.2.1 gX5_missed_X5_isMissingWhat rfl rfl rfl cdX5_isMissingWhat ⟨Nat.le_of_ble_eq_true rfl, Nat.le_of_ble_eq_true rfl⟩) rfl rfl rfl rfl (Nat.le_of_ble_eq_true rfl) ⟨Nat.le_of_ble_eq_true rfl, Nat.le_of_ble_eq_true rfl⟩ ?_
    refine g_ifb_ne 16 13 C dX5_missed_10 (by decide) rfl ?_ ?_
    · intro h10
      refine g_aload_n 17 C 0 dX5_missed_16 rfl rfl ?_
      refine g_iload_n 18 C 1 dX5_missed_17 rfl rfl ?_
      refine g_iload_n 19 C 2 dX5_missed_18 rfl rfl ?_
      refine g_callV 22 C [0, 1, 2, 3] dX5_missed_19 rfl (k_X5_missingPiece E l  (by first | assumption | omega) (by first | assumption | omega) (by first | assumption | omega) (by first | assumption | omega) (by first | assumption | omega)) (cwV 2 C.2.2.2.2.1 gX5_missed_X5_missingPiece rfl rfl rfl cdX5_missingPiece ⟨Nat.le_of_ble_eq_true rfl, Nat.le_of_ble_eq_true rfl⟩) rfl rfl rfl rfl (Nat.le_of_ble_eq_true rfl) 0 5 rfl rfl rfl ⟨Nat.le_of_ble_eq_true rfl, Nat.le_of_ble_eq_true rfl⟩ (fun v w q => by obtain ⟨_, -, rfl⟩ := q; rfl) ?_
      rintro _ _ ⟨r, ⟨rfl, hL⟩, rfl⟩
      refine g_w (ws' := [(_, .inr (5, [_, _, _, _, _, _, _])), (_, .inr (1, [_, _, _, _])), (_, .inr (2, [_, _, _])), (_, aI _ _ _)]) [0, 1, 2] rfl rfl ?_
      exact g_iret C hr dX5_missed_22 ⟨_, ⟨rfl, Or.inr (Or.inr ⟨by omega, by assumption, hL⟩)⟩, rfl⟩
    · intro h10
      refine g_bipush 15 C dX5_missed_13 rfl (by decide) ?_
      exact g_iret C hr dX5_missed_15 ⟨_, ⟨rfl, Or.inr (Or.inl ⟨by omega, by assumption, rfl⟩)⟩, rfl⟩
  · intro h1
    refine g_iconst 5 C dX5_missed_4 rfl ?_
    exact g_iret C hr dX5_missed_5 ⟨_, ⟨rfl, Or.inl ⟨by omega, rfl⟩⟩, rfl⟩
theorem cdX3_hasJoined : yX3_hasJoined.cls = RX3 ∧ yX3_hasJoined.cls ≠ "java/lang/invoke/MethodHandle" ∧ yX3_hasJoined.cls ≠ "java/lang/invoke/VarHandle" ∧ (parseMethodDescriptor yX3_hasJoined.desc).map (fun d => d.parameters.length) = some 0 := by decide +kernel
theorem cdX3_joinedFrom : yX3_joinedFrom.cls = RX3 ∧ yX3_joinedFrom.cls ≠ "java/lang/invoke/MethodHandle" ∧ yX3_joinedFrom.cls ≠ "java/lang/invoke/VarHandle" ∧ (parseMethodDescriptor yX3_joinedFrom.desc).map (fun d => d.parameters.length) = some 1 := by decide +kernel
theorem cdX3_joinedTurn : yX3_joinedTurn.cls = RX3 ∧ yX3_joinedTurn.cls ≠ "java/lang/invoke/MethodHandle" ∧ yX3_joinedTurn.cls ≠ "java/lang/invoke/VarHandle" ∧ (parseMethodDescriptor yX3_joinedTurn.desc).map (fun d => d.parameters.length) = some 1 := by decide +kernel
theorem lX5_joined_12 : Cond.fieldLink RX5 12 (TX5 0).1 (TX5 0).2.1 (TX5 0).2.2.1 ∈ wsX5_joined := by decide +kernel
theorem lX5_joined_30 : Cond.fieldLink RX5 30 (TX5 2).1 (TX5 2).2.1 (TX5 2).2.2.1 ∈ wsX5_joined := by decide +kernel
theorem iX5_joined_X5 : ∀ w ∈ u_ws RX5 TX5 7, w ∈ wsX5_joined := by decide +kernel
set_option maxHeartbeats 4000000 in
set_option maxRecDepth 100000 in
theorem k_X5_joined (E : gE) (l : Launch) {a_D a_L a_P a_Q a_R a_X a_fi a_hs a_jl a_ly a_se a_sh a_us a_wa : Nat} {W h z t : Int} {jl : Int → Int} {tr ft : Int} {jo fo sp fd tc : Int} (hB : 1 ≤ W ∧ W ≤ 5 ∧ 1 ≤ h ∧ h ≤ 5) (hjo : jo = 0 ∨ jo = 1) (hjl : jo = 1 → ∀ j : Int, 0 ≤ j ∧ j < W * h → 0 ≤ jl j ∧ jl j < 100) (hz : -2147483648 ≤ z ∧ z < 2147483648) (ht : -2147483648 ≤ t ∧ t < 2147483648) : gFun E l yX5_joined wsX5_joined { frames := 2, cells := 0, slots := 0, locals := 42 } [.ref a_X, .int (iI z), .int (iI t)] [(a_X, .inr (5, [.ref a_P, .ref a_L, .ref a_R, .ref a_D, .ref a_Q, .int (iI tr), .int (iI ft)])), (a_P, .inr (1, [.ref a_hs, .ref a_se, .int (iI W), .int (iI h)])), (a_R, .inr (3, [.ref a_P, .ref a_L, .ref a_sh, .ref a_fi, .ref a_wa, .ref a_us, .ref a_ly, .ref a_jl, .int (iI jo), .int (iI fo), .int (iI sp), .int (iI fd), .int (iI tc)])), (a_jl, aI E 25 jl)] (.int (iI (if jo = 0 then -3 else if ¬ (0 ≤ z ∧ z < W * h) then -1 else if t = 0 then jl z / 4 else if t = 1 then jl z % 4 else -2))) := by
  refine g_start (cc := cX5_joined) (maxL := 3) (ret := (some .int)) (by decide) rfl (Nat.le_of_ble_eq_true rfl) ?_
  intro p_ e_ s_ m_ args_ below_ meth_ c_ A_ C hr hnm
  have hn := nsd_b hB
  refine g_aload_n 1 C 0 dX5_joined_0 rfl rfl ?_
  refine g_get 4 C 0 2 5 iX5_joined_X5 lX5_joined_30 dX5_joined_1 rfl rfl rfl (by decide) rfl ?_
  refine g_callVF 7 C [2] dX5_joined_4 rfl (k_X3_hasJoined E l  (by first | assumption | omega)) (cwV 0 C.2.2.2.2.1 gX5_joined_X3_hasJoined rfl rfl rfl cdX3_hasJoined ⟨Nat.le_of_ble_eq_true rfl, Nat.le_of_ble_eq_true rfl⟩) rfl rfl rfl rfl (Nat.le_of_ble_eq_true rfl) 2 3 rfl rfl rfl ⟨Nat.le_of_ble_eq_true rfl, Nat.le_of_ble_eq_true rfl⟩ ?_
  refine g_if_ne 13 10 C dX5_joined_7 (by decide) rfl (by omega) ?_ ?_
  · intro h7
    refine g_aload_n 14 C 0 dX5_joined_13 rfl rfl ?_
    refine g_get 17 C 0 0 5 iX5_joined_X5 lX5_joined_12 dX5_joined_14 rfl rfl rfl (by decide) rfl ?_
    refine g_iload_n 18 C 1 dX5_joined_17 rfl rfl ?_
    refine g_callVF 21 C [1] dX5_joined_18 rfl (k_X1_hasPiece E l  (by first | assumption | omega) (by first | assumption | omega)) (cwV 1 C.2.2.2.2.1 gX5_joined_X1_hasPiece rfl rfl rfl cdX1_hasPiece ⟨Nat.le_of_ble_eq_true rfl, Nat.le_of_ble_eq_true rfl⟩) rfl rfl rfl rfl (Nat.le_of_ble_eq_true rfl) 1 1 rfl rfl rfl ⟨Nat.le_of_ble_eq_true rfl, Nat.le_of_ble_eq_true rfl⟩ ?_
    refine g_ifb_ne 26 24 C dX5_joined_21 (by decide) rfl ?_ ?_
    · intro h21
      refine g_iload_n 27 C 2 dX5_joined_26 rfl rfl ?_
      refine g_lsw2 52 61 70 C dX5_joined_27 (by decide) (by omega) (by decide) (by decide) (by decide) ?_ ?_ ?_
      · intro hs27_a
        refine g_aload_n 53 C 0 dX5_joined_52 rfl rfl ?_
        refine g_get 56 C 0 2 5 iX5_joined_X5 lX5_joined_30 dX5_joined_53 rfl rfl rfl (by decide) rfl ?_
        refine g_iload_n 57 C 1 dX5_joined_56 rfl rfl ?_
        refine g_callVF 60 C [2, 3] dX5_joined_57 rfl (k_X3_joinedFrom E l  (by first | assumption | omega) (hjl (by omega) z (by omega))) (cwV 1 C.2.2.2.2.1 gX5_joined_X3_joinedFrom rfl rfl rfl cdX3_joinedFrom ⟨Nat.le_of_ble_eq_true rfl, Nat.le_of_ble_eq_true rfl⟩) rfl rfl rfl rfl (Nat.le_of_ble_eq_true rfl) 2 3 rfl rfl rfl ⟨Nat.le_of_ble_eq_true rfl, Nat.le_of_ble_eq_true rfl⟩ ?_
        exact g_iret C hr dX5_joined_60 ⟨g_ri (by (repeat' split) <;> first | rfl | omega), rfl⟩
      · intro hs27_b
        refine g_aload_n 62 C 0 dX5_joined_61 rfl rfl ?_
        refine g_get 65 C 0 2 5 iX5_joined_X5 lX5_joined_30 dX5_joined_62 rfl rfl rfl (by decide) rfl ?_
        refine g_iload_n 66 C 1 dX5_joined_65 rfl rfl ?_
        refine g_callVF 69 C [2, 3] dX5_joined_66 rfl (k_X3_joinedTurn E l  (by first | assumption | omega) (hjl (by omega) z (by omega))) (cwV 1 C.2.2.2.2.1 gX5_joined_X3_joinedTurn rfl rfl rfl cdX3_joinedTurn ⟨Nat.le_of_ble_eq_true rfl, Nat.le_of_ble_eq_true rfl⟩) rfl rfl rfl rfl (Nat.le_of_ble_eq_true rfl) 2 3 rfl rfl rfl ⟨Nat.le_of_ble_eq_true rfl, Nat.le_of_ble_eq_true rfl⟩ ?_
        exact g_iret C hr dX5_joined_69 ⟨g_ri (by (repeat' split) <;> first | rfl | omega), rfl⟩
      · intro hs27_d
        refine g_bipush 72 C dX5_joined_70 rfl (by decide) ?_
        exact g_iret C hr dX5_joined_72 ⟨g_ri (by (repeat' split) <;> first | rfl | omega), rfl⟩
    · intro h21
      refine g_iconst 25 C dX5_joined_24 rfl ?_
      exact g_iret C hr dX5_joined_25 ⟨g_ri (by (repeat' split) <;> first | rfl | omega), rfl⟩
  · intro h7
    refine g_bipush 12 C dX5_joined_10 rfl (by decide) ?_
    exact g_iret C hr dX5_joined_12 ⟨g_ri (by (repeat' split) <;> first | rfl | omega), rfl⟩
theorem lX5_known_12 : Cond.fieldLink RX5 12 (TX5 0).1 (TX5 0).2.1 (TX5 0).2.2.1 ∈ wsX5_known := by decide +kernel
theorem lX5_known_21 : Cond.fieldLink RX5 21 (TX5 1).1 (TX5 1).2.1 (TX5 1).2.2.1 ∈ wsX5_known := by decide +kernel
theorem iX5_known_X5 : ∀ w ∈ u_ws RX5 TX5 7, w ∈ wsX5_known := by decide +kernel
set_option maxHeartbeats 4000000 in
set_option maxRecDepth 100000 in
theorem k_X5_known (E : gE) (l : Launch) {a_D a_L a_P a_Q a_R a_X a_hs a_pc a_se a_tn : Nat} {W h n p : Int} {se pc : Int → Int} {tr ft : Int} (hB : 1 ≤ W ∧ W ≤ 5 ∧ 1 ≤ h ∧ h ≤ 5) (hse : ∀ p e : Int, 0 ≤ p ∧ p < W * h → 0 ≤ e ∧ e < 4 → se (p * 4 + e) = sdI W h p e) (hn : 0 ≤ n ∧ n ≤ 25) (hpn : ∀ j : Int, 0 ≤ j ∧ j < n → 0 ≤ pc j ∧ pc j < 25) (hp : -2147483648 ≤ p ∧ p < 2147483648) : gFun E l yX5_known wsX5_known { frames := 2, cells := 0, slots := 0, locals := 45 } [.ref a_X, .int (iI p)] [(a_X, .inr (5, [.ref a_P, .ref a_L, .ref a_R, .ref a_D, .ref a_Q, .int (iI tr), .int (iI ft)])), (a_P, .inr (1, [.ref a_hs, .ref a_se, .int (iI W), .int (iI h)])), (a_se, aI E 100 se), (a_L, .inr (2, [.ref a_pc, .ref a_tn, .int (iI n)])), (a_pc, aI E 25 pc)] (.int (iI (if ¬ (0 ≤ p ∧ p < W * h) then -1 else if 0 < tmI n pc p then -3 else knI W h n pc p 4))) := by
  refine g_start (cc := cX5_known) (maxL := 4) (ret := (some .int)) (by decide) rfl (Nat.le_of_ble_eq_true rfl) ?_
  intro p_ e_ s_ m_ args_ below_ meth_ c_ A_ C hr hnm
  have hn := nsd_b hB
  refine g_aload_n 1 C 0 dX5_known_0 rfl rfl ?_
  refine g_get 4 C 0 0 5 iX5_known_X5 lX5_known_12 dX5_known_1 rfl rfl rfl (by decide) rfl ?_
  refine g_iload_n 5 C 1 dX5_known_4 rfl rfl ?_
  refine g_callVF 8 C [1] dX5_known_5 rfl (k_X1_hasPiece E l  (by first | assumption | omega) (by first | assumption | omega)) (cwV 1 C.2.2.2.2.1 gX5_known_X1_hasPiece rfl rfl rfl cdX1_hasPiece ⟨Nat.le_of_ble_eq_true rfl, Nat.le_of_ble_eq_true rfl⟩) rfl rfl rfl rfl (Nat.le_of_ble_eq_true rfl) 1 1 rfl rfl rfl ⟨Nat.le_of_ble_eq_true rfl, Nat.le_of_ble_eq_true rfl⟩ ?_
  refine g_ifb_ne 13 11 C dX5_known_8 (by decide) rfl ?_ ?_
  · intro h8
    refine g_aload_n 14 C 0 dX5_known_13 rfl rfl ?_
    refine g_get 17 C 0 1 5 iX5_known_X5 lX5_known_21 dX5_known_14 rfl rfl rfl (by decide) rfl ?_
    refine g_iload_n 18 C 1 dX5_known_17 rfl rfl ?_
    have e0 := cnI_b (fun j => pc j = p) (i := n) (by omega)
    have e1 : tmI n pc p = cnI (fun j => pc j = p) n := rfl
    refine g_callVF 21 C [3, 4] dX5_known_18 rfl (k_X2_timesOf E l  (by first | assumption | omega) (by first | assumption | omega) (by first | assumption | omega)) (cwV 1 C.2.2.2.2.1 gX5_known_X2_timesOf rfl rfl rfl cdX2_timesOf ⟨Nat.le_of_ble_eq_true rfl, Nat.le_of_ble_eq_true rfl⟩) rfl rfl rfl rfl (Nat.le_of_ble_eq_true rfl) 3 2 rfl rfl rfl ⟨Nat.le_of_ble_eq_true rfl, Nat.le_of_ble_eq_true rfl⟩ ?_
    refine g_if_le 27 24 C dX5_known_21 (by decide) rfl (by omega) ?_ ?_
    · intro h21
      refine g_iconst 28 C dX5_known_27 rfl ?_
      refine g_istore_n (lv' := [(2, _), (0, _), (1, _)]) 29 C dX5_known_28 rfl rfl (by decide) rfl ?_
      refine g_iconst 30 C dX5_known_29 rfl ?_
      refine g_istore_n (lv' := [(3, _), (2, _), (0, _), (1, _)]) 31 C dX5_known_30 rfl rfl (by decide) rfl ?_
      refine g_loop (α := Int × Int) (fun zz => [(a_X, .inr (5, [.ref a_P, .ref a_L, .ref a_R, .ref a_D, .ref a_Q, .int (iI tr), .int (iI ft)])), (a_P, .inr (1, [.ref a_hs, .ref a_se, .int (iI W), .int (iI h)])), (a_se, aI E 100 se), (a_L, .inr (2, [.ref a_pc, .ref a_tn, .int (iI n)])), (a_pc, aI E 25 pc)]) (fun zz => [(3, .int (iI zz.2)), (2, .int (iI zz.1)), (1, .int (iI p)), (0, .ref a_X)]) (fun zz => (0 ≤ zz.2 ∧ zz.2 ≤ 4) ∧ zz.1 = knI W h n pc p zz.2) (fun zz => (4 - zz.2).toNat) (0, 0) (by
            try dsimp only
            exact ⟨by omega, rfl⟩) [0, 1, 3, 2] rfl rfl ?_
      rintro ⟨c, k⟩ hI ih31
      try dsimp only at hI ih31 ⊢
      obtain ⟨hk, rfl⟩ := hI
      refine g_iload_n 32 C 0 dX5_known_31 rfl rfl ?_
      refine g_iconst 33 C dX5_known_32 rfl ?_
      refine g_icmp_ge 76 36 C dX5_known_33 (by decide) rfl (by omega) ?_ ?_
      · intro h33
        refine g_iload_n 77 C 1 dX5_known_76 rfl rfl ?_
        exact g_iret C hr dX5_known_77 ⟨g_ri (((if_neg (by omega)).trans ((if_neg (by omega)).trans (by rw [show (4 : Int) = k by omega]))).symm), rfl⟩
      · intro h33
        refine g_aload_n 37 C 3 dX5_known_36 rfl rfl ?_
        refine g_get 40 C 0 0 5 iX5_known_X5 lX5_known_12 dX5_known_37 rfl rfl rfl (by decide) rfl ?_
        refine g_iload_n 41 C 2 dX5_known_40 rfl rfl ?_
        refine g_iload_n 42 C 0 dX5_known_41 rfl rfl ?_
        refine g_callVF 45 C [1, 2] dX5_known_42 rfl (k_X1_isFlat E l  (by first | assumption | omega) (by first | assumption | omega) (by first | assumption | omega) (by first | assumption | omega)) (cwV 2 C.2.2.2.2.1 gX5_known_X1_isFlat rfl rfl rfl cdX1_isFlat ⟨Nat.le_of_ble_eq_true rfl, Nat.le_of_ble_eq_true rfl⟩) rfl rfl rfl rfl (Nat.le_of_ble_eq_true rfl) 1 1 rfl rfl rfl ⟨Nat.le_of_ble_eq_true rfl, Nat.le_of_ble_eq_true rfl⟩ ?_
        refine g_ifb_ne 70 48 C dX5_known_45 (by decide) rfl ?_ ?_
        · intro h45
          refine g_iinc (lv' := [(3, _), (2, _), (1, _), (0, _)]) 73 C 0 dX5_known_70 rfl rfl (by decide) rfl ?_
          refine g_goto 31 C dX5_known_73 (by decide) ?_
          first
          | exact g_w [0, 1, 2, 3] rfl rfl (ih31 ((knI W h n pc p k + 5), (k + 1)) (by
            try dsimp only
            exact ⟨by omega, by first | (rw [knI_s W h n pc p hk.1, cI_t (by omega)]) | (rw [knI_s W h n pc p hk.1, cI_f (by omega), Int.add_zero])⟩) (by (try dsimp only); omega))
          | exact g_w [0, 1, 2, 3] rfl rfl (ih31 ((knI W h n pc p k), (k + 1)) (by
            try dsimp only
            exact ⟨by omega, by first | (rw [knI_s W h n pc p hk.1, cI_t (by omega)]) | (rw [knI_s W h n pc p hk.1, cI_f (by omega), Int.add_zero])⟩) (by (try dsimp only); omega))
        · intro h45
          refine g_aload_n 49 C 3 dX5_known_48 rfl rfl ?_
          refine g_get 52 C 0 1 5 iX5_known_X5 lX5_known_21 dX5_known_49 rfl rfl rfl (by decide) rfl ?_
          refine g_aload_n 53 C 3 dX5_known_52 rfl rfl ?_
          refine g_get 56 C 0 0 5 iX5_known_X5 lX5_known_12 dX5_known_53 rfl rfl rfl (by decide) rfl ?_
          refine g_iload_n 57 C 2 dX5_known_56 rfl rfl ?_
          refine g_iload_n 58 C 0 dX5_known_57 rfl rfl ?_
          have e2 := nxI_b (p := p) (e := k) (And.intro hB.1 hB.2.1)
          have e3 := cnI_b (fun j => pc j = nxI W p k) (i := n) (by omega)
          have e4 : tmI n pc (nxI W p k) = cnI (fun j => pc j = nxI W p k) n := rfl
          refine g_callVF 61 C [1] dX5_known_58 rfl (k_X1_nextTo E l  (by first | assumption | omega)) (cwV 2 C.2.2.2.2.1 gX5_known_X1_nextTo rfl rfl rfl cdX1_nextTo ⟨Nat.le_of_ble_eq_true rfl, Nat.le_of_ble_eq_true rfl⟩) rfl rfl rfl rfl (Nat.le_of_ble_eq_true rfl) 1 1 rfl rfl rfl ⟨Nat.le_of_ble_eq_true rfl, Nat.le_of_ble_eq_true rfl⟩ ?_
          refine g_callVF 64 C [3, 4] dX5_known_61 rfl (k_X2_timesOf E l  (by first | assumption | omega) (by first | assumption | omega) (by first | assumption | omega)) (cwV 1 C.2.2.2.2.1 gX5_known_X2_timesOf rfl rfl rfl cdX2_timesOf ⟨Nat.le_of_ble_eq_true rfl, Nat.le_of_ble_eq_true rfl⟩) rfl rfl rfl rfl (Nat.le_of_ble_eq_true rfl) 3 2 rfl rfl rfl ⟨Nat.le_of_ble_eq_true rfl, Nat.le_of_ble_eq_true rfl⟩ ?_
          refine g_if_le 70 67 C dX5_known_64 (by decide) rfl (by omega) ?_ ?_
          · intro h64
            refine g_iinc (lv' := [(3, _), (2, _), (1, _), (0, _)]) 73 C 0 dX5_known_70 rfl rfl (by decide) rfl ?_
            refine g_goto 31 C dX5_known_73 (by decide) ?_
            first
            | exact g_w [0, 1, 2, 3] rfl rfl (ih31 ((knI W h n pc p k + 5), (k + 1)) (by
            try dsimp only
            exact ⟨by omega, by first | (rw [knI_s W h n pc p hk.1, cI_t (by omega)]) | (rw [knI_s W h n pc p hk.1, cI_f (by omega), Int.add_zero])⟩) (by (try dsimp only); omega))
            | exact g_w [0, 1, 2, 3] rfl rfl (ih31 ((knI W h n pc p k), (k + 1)) (by
            try dsimp only
            exact ⟨by omega, by first | (rw [knI_s W h n pc p hk.1, cI_t (by omega)]) | (rw [knI_s W h n pc p hk.1, cI_f (by omega), Int.add_zero])⟩) (by (try dsimp only); omega))
          · intro h64
            refine g_iinc (lv' := [(2, _), (3, _), (1, _), (0, _)]) 70 C 1 dX5_known_67 rfl rfl (by decide) rfl ?_
            refine g_iinc (lv' := [(3, _), (2, _), (1, _), (0, _)]) 73 C 1 dX5_known_70 rfl rfl (by decide) rfl ?_
            refine g_goto 31 C dX5_known_73 (by decide) ?_
            first
            | exact g_w [0, 1, 2, 3] rfl rfl (ih31 ((knI W h n pc p k + 5), (k + 1)) (by
            try dsimp only
            exact ⟨by omega, by first | (rw [knI_s W h n pc p hk.1, cI_t (by omega)]) | (rw [knI_s W h n pc p hk.1, cI_f (by omega), Int.add_zero])⟩) (by (try dsimp only); omega))
            | exact g_w [0, 1, 2, 3] rfl rfl (ih31 ((knI W h n pc p k), (k + 1)) (by
            try dsimp only
            exact ⟨by omega, by first | (rw [knI_s W h n pc p hk.1, cI_t (by omega)]) | (rw [knI_s W h n pc p hk.1, cI_f (by omega), Int.add_zero])⟩) (by (try dsimp only); omega))
    · intro h21
      refine g_bipush 26 C dX5_known_24 rfl (by decide) ?_
      exact g_iret C hr dX5_known_26 ⟨g_ri (((if_neg (by omega)).trans (if_pos (by omega))).symm), rfl⟩
  · intro h8
    refine g_iconst 12 C dX5_known_11 rfl ?_
    exact g_iret C hr dX5_known_12 ⟨g_ri ((if_pos (by omega)).symm), rfl⟩
end
section
theorem cdX1_cutAnew : yX1_cutAnew.cls = RX1 ∧ yX1_cutAnew.cls ≠ "java/lang/invoke/MethodHandle" ∧ yX1_cutAnew.cls ≠ "java/lang/invoke/VarHandle" ∧ (parseMethodDescriptor yX1_cutAnew.desc).map (fun d => d.parameters.length) = some 2 := by decide +kernel
theorem cdX2_clearAll : yX2_clearAll.cls = RX2 ∧ yX2_clearAll.cls ≠ "java/lang/invoke/MethodHandle" ∧ yX2_clearAll.cls ≠ "java/lang/invoke/VarHandle" ∧ (parseMethodDescriptor yX2_clearAll.desc).map (fun d => d.parameters.length) = some 0 := by decide +kernel
theorem lX5_picture_12 : Cond.fieldLink RX5 12 (TX5 0).1 (TX5 0).2.1 (TX5 0).2.2.1 ∈ wsX5_picture := by decide +kernel
theorem lX5_picture_21 : Cond.fieldLink RX5 21 (TX5 1).1 (TX5 1).2.1 (TX5 1).2.2.1 ∈ wsX5_picture := by decide +kernel
theorem lX5_picture_30 : Cond.fieldLink RX5 30 (TX5 2).1 (TX5 2).2.1 (TX5 2).2.2.1 ∈ wsX5_picture := by decide +kernel
theorem iX5_picture_X5 : ∀ w ∈ u_ws RX5 TX5 7, w ∈ wsX5_picture := by decide +kernel
set_option maxHeartbeats 4000000 in
set_option maxRecDepth 100000 in
theorem k_X5_picture (E : gE) (l : Launch) {a_D a_L a_P a_Q a_R a_X a_fi a_hs a_jl a_ly a_pc a_se a_sh a_tn a_us a_wa : Nat} {W h Wn Hn n : Int} {hs se : Int → Int} {tr ft : Int} {jo fo sp fd tc : Int} (ha : -2147483648 ≤ Wn ∧ Wn < 2147483648) (hb : -2147483648 ≤ Hn ∧ Hn < 2147483648) : gMet E l yX5_picture wsX5_picture { frames := 3, cells := 0, slots := 0, locals := 73 } 0 0 [.ref a_X, .int (iI Wn), .int (iI Hn)] [(a_X, .inr (5, [.ref a_P, .ref a_L, .ref a_R, .ref a_D, .ref a_Q, .int (iI tr), .int (iI ft)])), (a_P, .inr (1, [.ref a_hs, .ref a_se, .int (iI W), .int (iI h)])), (a_hs, aI E 200 hs), (a_se, aI E 100 se), (a_L, .inr (2, [.ref a_pc, .ref a_tn, .int (iI n)])), (a_R, .inr (3, [.ref a_P, .ref a_L, .ref a_sh, .ref a_fi, .ref a_wa, .ref a_us, .ref a_ly, .ref a_jl, .int (iI jo), .int (iI fo), .int (iI sp), .int (iI fd), .int (iI tc)]))] (fun v w => ∃ f : Int → Int, (v = some (.int (iI (if 1 ≤ Wn ∧ Wn ≤ 5 ∧ 1 ≤ Hn ∧ Hn ≤ 5 then nsd Wn Hn else -2))) ∧ ((1 ≤ Wn ∧ Wn ≤ 5 ∧ 1 ≤ Hn ∧ Hn ≤ 5) → ∀ p e : Int, 0 ≤ p ∧ p < Wn * Hn → 0 ≤ e ∧ e < 4 → f (p * 4 + e) = sdI Wn Hn p e) ∧ (¬ (1 ≤ Wn ∧ Wn ≤ 5 ∧ 1 ≤ Hn ∧ Hn ≤ 5) → f = se)) ∧ w = [(a_X, .inr (5, [.ref a_P, .ref a_L, .ref a_R, .ref a_D, .ref a_Q, .int (iI tr), .int (iI ft)])), (a_P, .inr (1, [.ref a_hs, .ref a_se, .int (iI (if 1 ≤ Wn ∧ Wn ≤ 5 ∧ 1 ≤ Hn ∧ Hn ≤ 5 then Wn else W)), .int (iI (if 1 ≤ Wn ∧ Wn ≤ 5 ∧ 1 ≤ Hn ∧ Hn ≤ 5 then Hn else h))])), (a_hs, aI E 200 (if 1 ≤ Wn ∧ Wn ≤ 5 ∧ 1 ≤ Hn ∧ Hn ≤ 5 then zrI hs 200 else hs)), (a_se, aI E 100 f), (a_L, .inr (2, [.ref a_pc, .ref a_tn, .int (iI (if 1 ≤ Wn ∧ Wn ≤ 5 ∧ 1 ≤ Hn ∧ Hn ≤ 5 then 0 else n))])), (a_R, .inr (3, [.ref a_P, .ref a_L, .ref a_sh, .ref a_fi, .ref a_wa, .ref a_us, .ref a_ly, .ref a_jl, .int (iI (if 1 ≤ Wn ∧ Wn ≤ 5 ∧ 1 ≤ Hn ∧ Hn ≤ 5 then 0 else jo)), .int (iI fo), .int (iI sp), .int (iI fd), .int (iI tc)]))]) := by
  refine g_start (cc := cX5_picture) (maxL := 3) (ret := (some .int)) (by decide) rfl (Nat.le_of_ble_eq_true rfl) ?_
  intro p_ e_ s_ m_ args_ below_ meth_ c_ A_ C hr hnm
  refine g_iload_n 1 C 1 dX5_picture_0 rfl rfl ?_
  refine g_iconst 2 C dX5_picture_1 rfl ?_
  refine g_icmp_lt 20 5 C dX5_picture_2 (by decide) rfl (by omega) ?_ ?_
  · intro h2
    refine g_bipush 22 C dX5_picture_20 rfl (by decide) ?_
    exact g_iret C hr dX5_picture_22 ⟨se, ⟨g_ri (if_neg (by omega)).symm, fun q => by omega, fun _ => rfl⟩, by (have hg : ¬ (1 ≤ Wn ∧ Wn ≤ 5 ∧ 1 ≤ Hn ∧ Hn ≤ 5) := (by omega)); simp only [if_neg hg]⟩
  · intro h2
    refine g_iload_n 6 C 1 dX5_picture_5 rfl rfl ?_
    refine g_iconst 7 C dX5_picture_6 rfl ?_
    refine g_icmp_gt 20 10 C dX5_picture_7 (by decide) rfl (by omega) ?_ ?_
    · intro h7
      refine g_bipush 22 C dX5_picture_20 rfl (by decide) ?_
      exact g_iret C hr dX5_picture_22 ⟨se, ⟨g_ri (if_neg (by omega)).symm, fun q => by omega, fun _ => rfl⟩, by (have hg : ¬ (1 ≤ Wn ∧ Wn ≤ 5 ∧ 1 ≤ Hn ∧ Hn ≤ 5) := (by omega)); simp only [if_neg hg]⟩
    · intro h7
      refine g_iload_n 11 C 2 dX5_picture_10 rfl rfl ?_
      refine g_iconst 12 C dX5_picture_11 rfl ?_
      refine g_icmp_lt 20 15 C dX5_picture_12 (by decide) rfl (by omega) ?_ ?_
      · intro h12
        refine g_bipush 22 C dX5_picture_20 rfl (by decide) ?_
        exact g_iret C hr dX5_picture_22 ⟨se, ⟨g_ri (if_neg (by omega)).symm, fun q => by omega, fun _ => rfl⟩, by (have hg : ¬ (1 ≤ Wn ∧ Wn ≤ 5 ∧ 1 ≤ Hn ∧ Hn ≤ 5) := (by omega)); simp only [if_neg hg]⟩
      · intro h12
        refine g_iload_n 16 C 2 dX5_picture_15 rfl rfl ?_
        refine g_iconst 17 C dX5_picture_16 rfl ?_
        refine g_icmp_le 23 20 C dX5_picture_17 (by decide) rfl (by omega) ?_ ?_
        · intro h17
          refine g_aload_n 24 C 0 dX5_picture_23 rfl rfl ?_
          refine g_get 27 C 0 0 5 iX5_picture_X5 lX5_picture_12 dX5_picture_24 rfl rfl rfl (by decide) rfl ?_
          refine g_iload_n 28 C 1 dX5_picture_27 rfl rfl ?_
          refine g_iload_n 29 C 2 dX5_picture_28 rfl rfl ?_
          refine g_callV 32 C [1, 2, 3] dX5_picture_29 rfl (k_X1_cutAnew E l  (by omega)) (cwV 2 C.2.2.2.2.1 gX5_picture_X1_cutAnew rfl rfl rfl cdX1_cutAnew ⟨Nat.le_of_ble_eq_true rfl, Nat.le_of_ble_eq_true rfl⟩) rfl rfl rfl rfl (Nat.le_of_ble_eq_true rfl) 1 1 rfl rfl rfl ⟨Nat.le_of_ble_eq_true rfl, Nat.le_of_ble_eq_true rfl⟩ (fun v w q => by obtain ⟨f, -, rfl⟩ := q; rfl) ?_
          rintro _ _ ⟨f, ⟨rfl, hf⟩, rfl⟩
          refine g_w (ws' := [(_, .inr (5, [_, _, _, _, _, _, _])), (_, .inr (1, [_, _, _, _])), (_, aI _ _ _), (_, aI _ _ _), (_, .inr (2, [_, _, _])), (_, .inr (3, [_, _, _, _, _, _, _, _, _, _, _, _, _]))]) [0, 1, 2] rfl rfl ?_
          refine g_aload_n 33 C 0 dX5_picture_32 rfl rfl ?_
          refine g_get 36 C 0 1 5 iX5_picture_X5 lX5_picture_21 dX5_picture_33 rfl rfl rfl (by decide) rfl ?_
          refine g_callVU (ws' := [(_, .inr (5, [_, _, _, _, _, _, _])), (_, .inr (1, [_, _, _, _])), (_, aI _ _ _), (_, aI _ _ _), (_, .inr (2, [_, _, _])), (_, .inr (3, [_, _, _, _, _, _, _, _, _, _, _, _, _]))]) 39 C [4] dX5_picture_36 rfl (k_X2_clearAll E l  ) (cwV 0 C.2.2.2.2.1 gX5_picture_X2_clearAll rfl rfl rfl cdX2_clearAll ⟨Nat.le_of_ble_eq_true rfl, Nat.le_of_ble_eq_true rfl⟩) rfl rfl rfl rfl (Nat.le_of_ble_eq_true rfl) 4 2 rfl rfl rfl ⟨Nat.le_of_ble_eq_true rfl, Nat.le_of_ble_eq_true rfl⟩ rfl rfl ?_
          refine g_aload_n 40 C 0 dX5_picture_39 rfl rfl ?_
          refine g_get 43 C 0 2 5 iX5_picture_X5 lX5_picture_30 dX5_picture_40 rfl rfl rfl (by decide) rfl ?_
          refine g_callVU (ws' := [(_, .inr (5, [_, _, _, _, _, _, _])), (_, .inr (1, [_, _, _, _])), (_, aI _ _ _), (_, aI _ _ _), (_, .inr (2, [_, _, _])), (_, .inr (3, [_, _, _, _, _, _, _, _, _, _, _, _, _]))]) 46 C [5] dX5_picture_43 rfl (k_X3_forgetJoined E l  ) (cwV 0 C.2.2.2.2.1 gX5_picture_X3_forgetJoined rfl rfl rfl cdX3_forgetJoined ⟨Nat.le_of_ble_eq_true rfl, Nat.le_of_ble_eq_true rfl⟩) rfl rfl rfl rfl (Nat.le_of_ble_eq_true rfl) 5 3 rfl rfl rfl ⟨Nat.le_of_ble_eq_true rfl, Nat.le_of_ble_eq_true rfl⟩ rfl rfl ?_
          refine g_aload_n 47 C 0 dX5_picture_46 rfl rfl ?_
          refine g_get 50 C 0 0 5 iX5_picture_X5 lX5_picture_12 dX5_picture_47 rfl rfl rfl (by decide) rfl ?_
          refine g_callVF 53 C [1] dX5_picture_50 rfl (k_X1_sides E l  ) (cwV 0 C.2.2.2.2.1 gX5_picture_X1_sides rfl rfl rfl cdX1_sides ⟨Nat.le_of_ble_eq_true rfl, Nat.le_of_ble_eq_true rfl⟩) rfl rfl rfl rfl (Nat.le_of_ble_eq_true rfl) 1 1 rfl rfl rfl ⟨Nat.le_of_ble_eq_true rfl, Nat.le_of_ble_eq_true rfl⟩ ?_
          exact g_iret C hr dX5_picture_53 ⟨f, ⟨g_ri (if_pos (by omega)).symm, fun _ => hf, fun q => by omega⟩, by (have hg : 1 ≤ Wn ∧ Wn ≤ 5 ∧ 1 ≤ Hn ∧ Hn ≤ 5 := (by omega)); simp only [if_pos hg]⟩
        · intro h17
          refine g_bipush 22 C dX5_picture_20 rfl (by decide) ?_
          exact g_iret C hr dX5_picture_22 ⟨se, ⟨g_ri (if_neg (by omega)).symm, fun q => by omega, fun _ => rfl⟩, by (have hg : ¬ (1 ≤ Wn ∧ Wn ≤ 5 ∧ 1 ≤ Hn ∧ Hn ≤ 5) := (by omega)); simp only [if_neg hg]⟩
theorem cdX0_begin : yX0_begin.cls = RX0 ∧ yX0_begin.cls ≠ "java/lang/invoke/MethodHandle" ∧ yX0_begin.cls ≠ "java/lang/invoke/VarHandle" ∧ (parseMethodDescriptor yX0_begin.desc).map (fun d => d.parameters.length) = some 1 := by decide +kernel
theorem cdX0_below : yX0_below.cls = RX0 ∧ yX0_below.cls ≠ "java/lang/invoke/MethodHandle" ∧ yX0_below.cls ≠ "java/lang/invoke/VarHandle" ∧ (parseMethodDescriptor yX0_below.desc).map (fun d => d.parameters.length) = some 1 := by decide +kernel
theorem lX5_make_12 : Cond.fieldLink RX5 12 (TX5 0).1 (TX5 0).2.1 (TX5 0).2.2.1 ∈ wsX5_make := by decide +kernel
theorem lX5_make_30 : Cond.fieldLink RX5 30 (TX5 2).1 (TX5 2).2.1 (TX5 2).2.2.1 ∈ wsX5_make := by decide +kernel
theorem lX5_make_37 : Cond.fieldLink RX5 37 (TX5 3).1 (TX5 3).2.1 (TX5 3).2.2.1 ∈ wsX5_make := by decide +kernel
theorem iX5_make_X5 : ∀ w ∈ u_ws RX5 TX5 7, w ∈ wsX5_make := by decide +kernel
set_option maxHeartbeats 4000000 in
set_option maxRecDepth 100000 in
theorem k_X5_make (E : gE) (l : Launch) {a_D a_L a_P a_Q a_R a_X a_fi a_hs a_jl a_ly a_se a_sh a_us a_wa : Nat} {W h : Int} {hs : Int → Int} {now sd : Int64} {tr ft : Int} {jo fo sp fd tc : Int} (hB : 1 ≤ W ∧ W ≤ 5 ∧ 1 ≤ h ∧ h ≤ 5) : gUpd E l yX5_make wsX5_make { frames := 1, cells := 0, slots := 0, locals := 24 } [.ref a_X, .long sd] [(a_X, .inr (5, [.ref a_P, .ref a_L, .ref a_R, .ref a_D, .ref a_Q, .int (iI tr), .int (iI ft)])), (a_P, .inr (1, [.ref a_hs, .ref a_se, .int (iI W), .int (iI h)])), (a_hs, aI E 200 hs), (a_D, .inr (0, [.long now])), (a_R, .inr (3, [.ref a_P, .ref a_L, .ref a_sh, .ref a_fi, .ref a_wa, .ref a_us, .ref a_ly, .ref a_jl, .int (iI jo), .int (iI fo), .int (iI sp), .int (iI fd), .int (iI tc)]))] (some (.int (iI 1))) [(a_X, .inr (5, [.ref a_P, .ref a_L, .ref a_R, .ref a_D, .ref a_Q, .int (iI tr), .int (iI ft)])), (a_P, .inr (1, [.ref a_hs, .ref a_se, .int (iI W), .int (iI h)])), (a_hs, aI E 200 (mkI sd hs (nsd W h * 5))), (a_D, .inr (0, [.long (dnT sd (nsd W h * 5))])), (a_R, .inr (3, [.ref a_P, .ref a_L, .ref a_sh, .ref a_fi, .ref a_wa, .ref a_us, .ref a_ly, .ref a_jl, .int (iI 0), .int (iI fo), .int (iI sp), .int (iI fd), .int (iI tc)]))] := by
  refine g_start (cc := cX5_make) (maxL := 5) (ret := (some .int)) (by decide) rfl (Nat.le_of_ble_eq_true rfl) ?_
  intro p_ e_ s_ m_ args_ below_ meth_ c_ A_ C hr hnm
  have hn := nsd_b hB
  refine g_aload_n 1 C 0 dX5_make_0 rfl rfl ?_
  refine g_get 4 C 0 3 5 iX5_make_X5 lX5_make_37 dX5_make_1 rfl rfl rfl (by decide) rfl ?_
  refine g_lload_n 5 C 1 dX5_make_4 rfl rfl ?_
  refine g_callVU (ws' := [(_, .inr (5, [_, _, _, _, _, _, _])), (_, .inr (1, [_, _, _, _])), (_, aI _ _ _), (_, .inr (0, [_])), (_, .inr (3, [_, _, _, _, _, _, _, _, _, _, _, _, _]))]) 8 C [3] dX5_make_5 rfl (k_X0_begin E l  ) (cwV 1 C.2.2.2.2.1 gX5_make_X0_begin rfl rfl rfl cdX0_begin ⟨Nat.le_of_ble_eq_true rfl, Nat.le_of_ble_eq_true rfl⟩) rfl rfl rfl rfl (Nat.le_of_ble_eq_true rfl) 3 0 rfl rfl rfl ⟨Nat.le_of_ble_eq_true rfl, Nat.le_of_ble_eq_true rfl⟩ (by simp only [List.map_cons, List.map_nil]) rfl ?_
  refine g_iconst 9 C dX5_make_8 rfl ?_
  refine g_istore_n (lv' := [(3, _), (0, _), (1, _)]) 10 C dX5_make_9 rfl rfl (by decide) rfl ?_
  refine g_loop (α := Int) (fun zz => [(a_X, .inr (5, [.ref a_P, .ref a_L, .ref a_R, .ref a_D, .ref a_Q, .int (iI tr), .int (iI ft)])), (a_P, .inr (1, [.ref a_hs, .ref a_se, .int (iI W), .int (iI h)])), (a_hs, aI E 200 (mkI sd hs (zz * 5))), (a_D, .inr (0, [.long (dnT sd (zz * 5))])), (a_R, .inr (3, [.ref a_P, .ref a_L, .ref a_sh, .ref a_fi, .ref a_wa, .ref a_us, .ref a_ly, .ref a_jl, .int (iI jo), .int (iI fo), .int (iI sp), .int (iI fd), .int (iI tc)]))]) (fun zz => [(3, .int (iI zz)), (1, .long sd), (0, .ref a_X)]) (fun zz => 0 ≤ zz ∧ zz ≤ nsd W h) (fun zz => (nsd W h - zz).toNat) (0) (by (try dsimp only); omega) [0, 2, 1] (by rw [show (0 : Int) * 5 = 0 by omega, mkI_0, dnT_0]) rfl ?_
  rintro k hI ih10
  try dsimp only at hI ih10 ⊢
  obtain ⟨hk0, hkn⟩ := hI
  refine g_iload_n 11 C 0 dX5_make_10 rfl rfl ?_
  refine g_aload_n 12 C 2 dX5_make_11 rfl rfl ?_
  refine g_get 15 C 0 0 5 iX5_make_X5 lX5_make_12 dX5_make_12 rfl rfl rfl (by decide) rfl ?_
  refine g_callVF 18 C [1] dX5_make_15 rfl (k_X1_sides E l  ) (cwV 0 C.2.2.2.2.1 gX5_make_X1_sides rfl rfl rfl cdX1_sides ⟨Nat.le_of_ble_eq_true rfl, Nat.le_of_ble_eq_true rfl⟩) rfl rfl rfl rfl (Nat.le_of_ble_eq_true rfl) 1 1 rfl rfl rfl ⟨Nat.le_of_ble_eq_true rfl, Nat.le_of_ble_eq_true rfl⟩ ?_
  refine g_icmp_ge 64 21 C dX5_make_18 (by decide) rfl (by omega) ?_ ?_
  · intro h18
    refine g_aload_n 65 C 2 dX5_make_64 rfl rfl ?_
    refine g_get 68 C 0 2 5 iX5_make_X5 lX5_make_30 dX5_make_65 rfl rfl rfl (by decide) rfl ?_
    refine g_callVU (ws' := [(_, .inr (5, [_, _, _, _, _, _, _])), (_, .inr (1, [_, _, _, _])), (_, aI _ _ _), (_, .inr (0, [_])), (_, .inr (3, [_, _, _, _, _, _, _, _, _, _, _, _, _]))]) 71 C [4] dX5_make_68 rfl (k_X3_forgetJoined E l  ) (cwV 0 C.2.2.2.2.1 gX5_make_X3_forgetJoined rfl rfl rfl cdX3_forgetJoined ⟨Nat.le_of_ble_eq_true rfl, Nat.le_of_ble_eq_true rfl⟩) rfl rfl rfl rfl (Nat.le_of_ble_eq_true rfl) 4 3 rfl rfl rfl ⟨Nat.le_of_ble_eq_true rfl, Nat.le_of_ble_eq_true rfl⟩ rfl rfl ?_
    refine g_iconst 72 C dX5_make_71 rfl ?_
    exact g_iret C hr dX5_make_72 ⟨g_ri (rfl), by rw [show nsd W h = k by omega]⟩
  · intro h18
    refine g_iconst 22 C dX5_make_21 rfl ?_
    refine g_istore (lv' := [(4, _), (3, _), (1, _), (0, _)]) 24 C dX5_make_22 rfl (by decide) rfl ?_
    refine g_loop (α := Int) (fun zz => [(a_X, .inr (5, [.ref a_P, .ref a_L, .ref a_R, .ref a_D, .ref a_Q, .int (iI tr), .int (iI ft)])), (a_P, .inr (1, [.ref a_hs, .ref a_se, .int (iI W), .int (iI h)])), (a_hs, aI E 200 (mkI sd hs (k * 5 + zz))), (a_D, .inr (0, [.long (dnT sd (k * 5 + zz))])), (a_R, .inr (3, [.ref a_P, .ref a_L, .ref a_sh, .ref a_fi, .ref a_wa, .ref a_us, .ref a_ly, .ref a_jl, .int (iI jo), .int (iI fo), .int (iI sp), .int (iI fd), .int (iI tc)]))]) (fun zz => [(4, .int (iI zz)), (3, .int (iI k)), (1, .long sd), (0, .ref a_X)]) (fun zz => 0 ≤ zz ∧ zz ≤ 5) (fun zz => (5 - zz).toNat) (0) (by (try dsimp only); omega) [0, 1, 2, 3] (by rw [show k * 5 + 0 = k * 5 by omega]) rfl ?_
    rintro i hI ih24
    try dsimp only at hI ih24 ⊢
    obtain ⟨hi0, hi5⟩ := hI
    refine g_iload 26 C 0 dX5_make_24 rfl rfl ?_
    refine g_iconst 27 C dX5_make_26 rfl ?_
    refine g_icmp_ge 58 30 C dX5_make_27 (by decide) rfl (by omega) ?_ ?_
    · intro h27
      refine g_iinc (lv' := [(3, _), (4, _), (1, _), (0, _)]) 61 C 1 dX5_make_58 rfl rfl (by decide) rfl ?_
      refine g_goto 10 C dX5_make_61 (by decide) ?_
      exact g_w [0, 2, 3] (by (try dsimp only); rw [show (k + 1) * 5 = k * 5 + i by omega]) rfl (ih10 ((k + 1)) (by (try dsimp only); omega) (by (try dsimp only); omega))
    · intro h27
      refine g_aload_n 31 C 3 dX5_make_30 rfl rfl ?_
      refine g_get 34 C 0 0 5 iX5_make_X5 lX5_make_12 dX5_make_31 rfl rfl rfl (by decide) rfl ?_
      refine g_iload_n 35 C 1 dX5_make_34 rfl rfl ?_
      refine g_iload 37 C 0 dX5_make_35 rfl rfl ?_
      refine g_aload_n 38 C 3 dX5_make_37 rfl rfl ?_
      refine g_get 41 C 0 3 5 iX5_make_X5 lX5_make_37 dX5_make_38 rfl rfl rfl (by decide) rfl ?_
      refine g_bipush 43 C dX5_make_41 rfl (by decide) ?_
      refine g_callVU (ws' := [(_, .inr (5, [_, _, _, _, _, _, _])), (_, .inr (1, [_, _, _, _])), (_, aI _ _ _), (_, .inr (0, [_])), (_, .inr (3, [_, _, _, _, _, _, _, _, _, _, _, _, _]))]) 46 C [3] dX5_make_43 rfl (k_X0_below E l  (by omega)) (cwV 1 C.2.2.2.2.1 gX5_make_X0_below rfl rfl rfl cdX0_below ⟨Nat.le_of_ble_eq_true rfl, Nat.le_of_ble_eq_true rfl⟩) rfl rfl rfl rfl (Nat.le_of_ble_eq_true rfl) 3 0 rfl rfl rfl ⟨Nat.le_of_ble_eq_true rfl, Nat.le_of_ble_eq_true rfl⟩ (by simp only [List.map_cons, List.map_nil]) rfl ?_
      refine g_bipush 48 C dX5_make_46 rfl (by decide) ?_
      refine g_isub 49 C dX5_make_48 rfl ?_
      refine g_callVU (ws' := [(_, .inr (5, [_, _, _, _, _, _, _])), (_, .inr (1, [_, _, _, _])), (_, aI _ _ _), (_, .inr (0, [_])), (_, .inr (3, [_, _, _, _, _, _, _, _, _, _, _, _, _]))]) 52 C [1, 2] dX5_make_49 rfl (k_X1_setHeight E l  (by first | assumption | omega) (by first | assumption | omega)) (cwV 3 C.2.2.2.2.1 gX5_make_X1_setHeight rfl rfl rfl cdX1_setHeight ⟨Nat.le_of_ble_eq_true rfl, Nat.le_of_ble_eq_true rfl⟩) rfl rfl rfl rfl (Nat.le_of_ble_eq_true rfl) 1 1 rfl rfl rfl ⟨Nat.le_of_ble_eq_true rfl, Nat.le_of_ble_eq_true rfl⟩ rfl rfl ?_
      refine g_iinc (lv' := [(4, _), (3, _), (1, _), (0, _)]) 55 C 0 dX5_make_52 rfl rfl (by decide) rfl ?_
      refine g_goto 24 C dX5_make_55 (by decide) ?_
      exact g_w [0, 1, 2, 3] (by (try dsimp only); rw [show k * 5 + (i + 1) = k * 5 + i + 1 by omega, ← mkI_s sd hs (by omega), dnT_s sd (by omega)]) rfl (ih24 ((i + 1)) (by (try dsimp only); omega) (by (try dsimp only); omega))
theorem cdX2_setTurn : yX2_setTurn.cls = RX2 ∧ yX2_setTurn.cls ≠ "java/lang/invoke/MethodHandle" ∧ yX2_setTurn.cls ≠ "java/lang/invoke/VarHandle" ∧ (parseMethodDescriptor yX2_setTurn.desc).map (fun d => d.parameters.length) = some 2 := by decide +kernel
theorem cdX2_swapPieces : yX2_swapPieces.cls = RX2 ∧ yX2_swapPieces.cls ≠ "java/lang/invoke/MethodHandle" ∧ yX2_swapPieces.cls ≠ "java/lang/invoke/VarHandle" ∧ (parseMethodDescriptor yX2_swapPieces.desc).map (fun d => d.parameters.length) = some 2 := by decide +kernel
theorem lX5_heap_12 : Cond.fieldLink RX5 12 (TX5 0).1 (TX5 0).2.1 (TX5 0).2.2.1 ∈ wsX5_heap := by decide +kernel
theorem lX5_heap_21 : Cond.fieldLink RX5 21 (TX5 1).1 (TX5 1).2.1 (TX5 1).2.2.1 ∈ wsX5_heap := by decide +kernel
theorem lX5_heap_30 : Cond.fieldLink RX5 30 (TX5 2).1 (TX5 2).2.1 (TX5 2).2.2.1 ∈ wsX5_heap := by decide +kernel
theorem lX5_heap_37 : Cond.fieldLink RX5 37 (TX5 3).1 (TX5 3).2.1 (TX5 3).2.2.1 ∈ wsX5_heap := by decide +kernel
theorem iX5_heap_X5 : ∀ w ∈ u_ws RX5 TX5 7, w ∈ wsX5_heap := by decide +kernel
set_option maxHeartbeats 4000000 in
set_option maxRecDepth 100000 in
theorem k_X5_heap (E : gE) (l : Launch) {a_D a_L a_P a_Q a_R a_X a_fi a_hs a_jl a_ly a_pc a_se a_sh a_tn a_us a_wa : Nat} {W h n : Int} {pc tn : Int → Int} {now sd : Int64} {tr ft : Int} {jo fo sp fd tc : Int} (hB : 1 ≤ W ∧ W ≤ 5 ∧ 1 ≤ h ∧ h ≤ 5) : gUpd E l yX5_heap wsX5_heap { frames := 2, cells := 0, slots := 0, locals := 44 } [.ref a_X, .long sd] [(a_X, .inr (5, [.ref a_P, .ref a_L, .ref a_R, .ref a_D, .ref a_Q, .int (iI tr), .int (iI ft)])), (a_P, .inr (1, [.ref a_hs, .ref a_se, .int (iI W), .int (iI h)])), (a_L, .inr (2, [.ref a_pc, .ref a_tn, .int (iI n)])), (a_pc, aI E 25 pc), (a_tn, aI E 25 tn), (a_D, .inr (0, [.long now])), (a_R, .inr (3, [.ref a_P, .ref a_L, .ref a_sh, .ref a_fi, .ref a_wa, .ref a_us, .ref a_ly, .ref a_jl, .int (iI jo), .int (iI fo), .int (iI sp), .int (iI fd), .int (iI tc)]))] (some (.int (iI (W * h)))) [(a_X, .inr (5, [.ref a_P, .ref a_L, .ref a_R, .ref a_D, .ref a_Q, .int (iI tr), .int (iI ft)])), (a_P, .inr (1, [.ref a_hs, .ref a_se, .int (iI W), .int (iI h)])), (a_L, .inr (2, [.ref a_pc, .ref a_tn, .int (iI (W * h))])), (a_pc, aI E 25 (swI sd (W * h) (apI pc (W * h)) (W * h - 1))), (a_tn, aI E 25 (trI sd (W * h) (zrI tn (W * h)) (W * h))), (a_D, .inr (0, [.long (dnT sd (W * h - 1 + W * h))])), (a_R, .inr (3, [.ref a_P, .ref a_L, .ref a_sh, .ref a_fi, .ref a_wa, .ref a_us, .ref a_ly, .ref a_jl, .int (iI 0), .int (iI fo), .int (iI sp), .int (iI fd), .int (iI tc)]))] := by
  refine g_start (cc := cX5_heap) (maxL := 4) (ret := (some .int)) (by decide) rfl (Nat.le_of_ble_eq_true rfl) ?_
  intro p_ e_ s_ m_ args_ below_ meth_ c_ A_ C hr hnm
  have hn := nsd_b hB
  refine g_aload_n 1 C 0 dX5_heap_0 rfl rfl ?_
  refine g_get 4 C 0 1 5 iX5_heap_X5 lX5_heap_21 dX5_heap_1 rfl rfl rfl (by decide) rfl ?_
  refine g_callVU (ws' := [(_, .inr (5, [_, _, _, _, _, _, _])), (_, .inr (1, [_, _, _, _])), (_, .inr (2, [_, _, _])), (_, aI _ _ _), (_, aI _ _ _), (_, .inr (0, [_])), (_, .inr (3, [_, _, _, _, _, _, _, _, _, _, _, _, _]))]) 7 C [2] dX5_heap_4 rfl (k_X2_clearAll E l  ) (cwV 0 C.2.2.2.2.1 gX5_heap_X2_clearAll rfl rfl rfl cdX2_clearAll ⟨Nat.le_of_ble_eq_true rfl, Nat.le_of_ble_eq_true rfl⟩) rfl rfl rfl rfl (Nat.le_of_ble_eq_true rfl) 2 2 rfl rfl rfl ⟨Nat.le_of_ble_eq_true rfl, Nat.le_of_ble_eq_true rfl⟩ rfl rfl ?_
  refine g_iconst 8 C dX5_heap_7 rfl ?_
  refine g_istore_n (lv' := [(3, _), (0, _), (1, _)]) 9 C dX5_heap_8 rfl rfl (by decide) rfl ?_
  refine g_loop (α := Int) (fun zz => [(a_X, .inr (5, [.ref a_P, .ref a_L, .ref a_R, .ref a_D, .ref a_Q, .int (iI tr), .int (iI ft)])), (a_P, .inr (1, [.ref a_hs, .ref a_se, .int (iI W), .int (iI h)])), (a_L, .inr (2, [.ref a_pc, .ref a_tn, .int (iI zz)])), (a_pc, aI E 25 (apI pc zz)), (a_tn, aI E 25 (zrI tn zz)), (a_D, .inr (0, [.long now])), (a_R, .inr (3, [.ref a_P, .ref a_L, .ref a_sh, .ref a_fi, .ref a_wa, .ref a_us, .ref a_ly, .ref a_jl, .int (iI jo), .int (iI fo), .int (iI sp), .int (iI fd), .int (iI tc)]))]) (fun zz => [(3, .int (iI zz)), (1, .long sd), (0, .ref a_X)]) (fun zz => 0 ≤ zz ∧ zz ≤ W * h) (fun zz => (W * h - zz).toNat) (0) (by (try dsimp only); omega) [0, 2, 1] (by rw [apI_0, zrI_0]) rfl ?_
  rintro k hI ih9
  try dsimp only at hI ih9 ⊢
  obtain ⟨hk0, hkn⟩ := hI
  refine g_iload_n 10 C 0 dX5_heap_9 rfl rfl ?_
  refine g_aload_n 11 C 2 dX5_heap_10 rfl rfl ?_
  refine g_get 14 C 0 0 5 iX5_heap_X5 lX5_heap_12 dX5_heap_11 rfl rfl rfl (by decide) rfl ?_
  refine g_callVF 17 C [1] dX5_heap_14 rfl (k_X1_pieces E l  ) (cwV 0 C.2.2.2.2.1 gX5_heap_X1_pieces rfl rfl rfl cdX1_pieces ⟨Nat.le_of_ble_eq_true rfl, Nat.le_of_ble_eq_true rfl⟩) rfl rfl rfl rfl (Nat.le_of_ble_eq_true rfl) 1 1 rfl rfl rfl ⟨Nat.le_of_ble_eq_true rfl, Nat.le_of_ble_eq_true rfl⟩ ?_
  refine g_icmp_ge 35 20 C dX5_heap_17 (by decide) rfl (by omega) ?_ ?_
  · intro h17
    refine g_aload_n 36 C 2 dX5_heap_35 rfl rfl ?_
    refine g_get 39 C 0 3 5 iX5_heap_X5 lX5_heap_37 dX5_heap_36 rfl rfl rfl (by decide) rfl ?_
    refine g_lload_n 40 C 1 dX5_heap_39 rfl rfl ?_
    refine g_callVU (ws' := [(_, .inr (5, [_, _, _, _, _, _, _])), (_, .inr (1, [_, _, _, _])), (_, .inr (2, [_, _, _])), (_, aI _ _ _), (_, aI _ _ _), (_, .inr (0, [_])), (_, .inr (3, [_, _, _, _, _, _, _, _, _, _, _, _, _]))]) 43 C [5] dX5_heap_40 rfl (k_X0_begin E l  ) (cwV 1 C.2.2.2.2.1 gX5_heap_X0_begin rfl rfl rfl cdX0_begin ⟨Nat.le_of_ble_eq_true rfl, Nat.le_of_ble_eq_true rfl⟩) rfl rfl rfl rfl (Nat.le_of_ble_eq_true rfl) 5 0 rfl rfl rfl ⟨Nat.le_of_ble_eq_true rfl, Nat.le_of_ble_eq_true rfl⟩ (by simp only [List.map_cons, List.map_nil]) rfl ?_
    refine g_aload_n 44 C 2 dX5_heap_43 rfl rfl ?_
    refine g_get 47 C 0 1 5 iX5_heap_X5 lX5_heap_21 dX5_heap_44 rfl rfl rfl (by decide) rfl ?_
    refine g_callVF 50 C [2] dX5_heap_47 rfl (k_X2_size E l  ) (cwV 0 C.2.2.2.2.1 gX5_heap_X2_size rfl rfl rfl cdX2_size ⟨Nat.le_of_ble_eq_true rfl, Nat.le_of_ble_eq_true rfl⟩) rfl rfl rfl rfl (Nat.le_of_ble_eq_true rfl) 2 2 rfl rfl rfl ⟨Nat.le_of_ble_eq_true rfl, Nat.le_of_ble_eq_true rfl⟩ ?_
    refine g_iconst 51 C dX5_heap_50 rfl ?_
    refine g_isub 52 C dX5_heap_51 rfl ?_
    refine g_istore_n (lv' := [(3, _), (1, _), (0, _)]) 53 C dX5_heap_52 rfl rfl (by decide) rfl ?_
    refine g_loop (α := Int) (fun zz => [(a_X, .inr (5, [.ref a_P, .ref a_L, .ref a_R, .ref a_D, .ref a_Q, .int (iI tr), .int (iI ft)])), (a_P, .inr (1, [.ref a_hs, .ref a_se, .int (iI W), .int (iI h)])), (a_L, .inr (2, [.ref a_pc, .ref a_tn, .int (iI (W * h))])), (a_pc, aI E 25 (swI sd (W * h) (apI pc (W * h)) zz)), (a_tn, aI E 25 (zrI tn (W * h))), (a_D, .inr (0, [.long (dnT sd zz)])), (a_R, .inr (3, [.ref a_P, .ref a_L, .ref a_sh, .ref a_fi, .ref a_wa, .ref a_us, .ref a_ly, .ref a_jl, .int (iI jo), .int (iI fo), .int (iI sp), .int (iI fd), .int (iI tc)]))]) (fun zz => [(3, .int (iI (W * h - 1 - zz))), (1, .long sd), (0, .ref a_X)]) (fun zz => 0 ≤ zz ∧ zz ≤ W * h - 1) (fun zz => (W * h - 1 - zz).toNat) (0) (by (try dsimp only); omega) [0, 1, 2] (by rw [swI_0, dnT_0, show W * h = k by omega]) (by (try dsimp only); rw [show W * h - 1 - 0 = k - 1 by omega]; rfl) ?_
    rintro k hI ih53
    try dsimp only at hI ih53 ⊢
    obtain ⟨hk0, hkn⟩ := hI
    refine g_iload_n 54 C 0 dX5_heap_53 rfl rfl ?_
    refine g_iconst 55 C dX5_heap_54 rfl ?_
    refine g_icmp_lt 82 58 C dX5_heap_55 (by decide) rfl (by omega) ?_ ?_
    · intro h55
      refine g_iconst 83 C dX5_heap_82 rfl ?_
      refine g_istore_n (lv' := [(3, _), (1, _), (0, _)]) 84 C dX5_heap_83 rfl rfl (by decide) rfl ?_
      refine g_loop (α := Int) (fun zz => [(a_X, .inr (5, [.ref a_P, .ref a_L, .ref a_R, .ref a_D, .ref a_Q, .int (iI tr), .int (iI ft)])), (a_P, .inr (1, [.ref a_hs, .ref a_se, .int (iI W), .int (iI h)])), (a_L, .inr (2, [.ref a_pc, .ref a_tn, .int (iI (W * h))])), (a_pc, aI E 25 (swI sd (W * h) (apI pc (W * h)) (W * h - 1))), (a_tn, aI E 25 (trI sd (W * h) (zrI tn (W * h)) zz)), (a_D, .inr (0, [.long (dnT sd (W * h - 1 + zz))])), (a_R, .inr (3, [.ref a_P, .ref a_L, .ref a_sh, .ref a_fi, .ref a_wa, .ref a_us, .ref a_ly, .ref a_jl, .int (iI jo), .int (iI fo), .int (iI sp), .int (iI fd), .int (iI tc)]))]) (fun zz => [(3, .int (iI zz)), (1, .long sd), (0, .ref a_X)]) (fun zz => 0 ≤ zz ∧ zz ≤ W * h) (fun zz => (W * h - zz).toNat) (0) (by (try dsimp only); omega) [0, 1, 2] (by rw [trI_0, show W * h - 1 = k by omega, Int.add_zero]) rfl ?_
      rintro k hI ih84
      try dsimp only at hI ih84 ⊢
      obtain ⟨hk0, hkn⟩ := hI
      refine g_iload_n 85 C 0 dX5_heap_84 rfl rfl ?_
      refine g_aload_n 86 C 2 dX5_heap_85 rfl rfl ?_
      refine g_get 89 C 0 1 5 iX5_heap_X5 lX5_heap_21 dX5_heap_86 rfl rfl rfl (by decide) rfl ?_
      refine g_callVF 92 C [2] dX5_heap_89 rfl (k_X2_size E l  ) (cwV 0 C.2.2.2.2.1 gX5_heap_X2_size rfl rfl rfl cdX2_size ⟨Nat.le_of_ble_eq_true rfl, Nat.le_of_ble_eq_true rfl⟩) rfl rfl rfl rfl (Nat.le_of_ble_eq_true rfl) 2 2 rfl rfl rfl ⟨Nat.le_of_ble_eq_true rfl, Nat.le_of_ble_eq_true rfl⟩ ?_
      refine g_icmp_ge 117 95 C dX5_heap_92 (by decide) rfl (by omega) ?_ ?_
      · intro h92
        refine g_aload_n 118 C 2 dX5_heap_117 rfl rfl ?_
        refine g_get 121 C 0 2 5 iX5_heap_X5 lX5_heap_30 dX5_heap_118 rfl rfl rfl (by decide) rfl ?_
        refine g_callVU (ws' := [(_, .inr (5, [_, _, _, _, _, _, _])), (_, .inr (1, [_, _, _, _])), (_, .inr (2, [_, _, _])), (_, aI _ _ _), (_, aI _ _ _), (_, .inr (0, [_])), (_, .inr (3, [_, _, _, _, _, _, _, _, _, _, _, _, _]))]) 124 C [6] dX5_heap_121 rfl (k_X3_forgetJoined E l  ) (cwV 0 C.2.2.2.2.1 gX5_heap_X3_forgetJoined rfl rfl rfl cdX3_forgetJoined ⟨Nat.le_of_ble_eq_true rfl, Nat.le_of_ble_eq_true rfl⟩) rfl rfl rfl rfl (Nat.le_of_ble_eq_true rfl) 6 3 rfl rfl rfl ⟨Nat.le_of_ble_eq_true rfl, Nat.le_of_ble_eq_true rfl⟩ rfl rfl ?_
        refine g_aload_n 125 C 2 dX5_heap_124 rfl rfl ?_
        refine g_get 128 C 0 1 5 iX5_heap_X5 lX5_heap_21 dX5_heap_125 rfl rfl rfl (by decide) rfl ?_
        refine g_callVF 131 C [2] dX5_heap_128 rfl (k_X2_size E l  ) (cwV 0 C.2.2.2.2.1 gX5_heap_X2_size rfl rfl rfl cdX2_size ⟨Nat.le_of_ble_eq_true rfl, Nat.le_of_ble_eq_true rfl⟩) rfl rfl rfl rfl (Nat.le_of_ble_eq_true rfl) 2 2 rfl rfl rfl ⟨Nat.le_of_ble_eq_true rfl, Nat.le_of_ble_eq_true rfl⟩ ?_
        exact g_iret C hr dX5_heap_131 ⟨g_ri (rfl), by rw [show k = W * h by omega]⟩
      · intro h92
        refine g_aload_n 96 C 2 dX5_heap_95 rfl rfl ?_
        refine g_get 99 C 0 1 5 iX5_heap_X5 lX5_heap_21 dX5_heap_96 rfl rfl rfl (by decide) rfl ?_
        refine g_iload_n 100 C 0 dX5_heap_99 rfl rfl ?_
        refine g_aload_n 101 C 2 dX5_heap_100 rfl rfl ?_
        refine g_get 104 C 0 3 5 iX5_heap_X5 lX5_heap_37 dX5_heap_101 rfl rfl rfl (by decide) rfl ?_
        refine g_iconst 105 C dX5_heap_104 rfl ?_
        refine g_callVU (ws' := [(_, .inr (5, [_, _, _, _, _, _, _])), (_, .inr (1, [_, _, _, _])), (_, .inr (2, [_, _, _])), (_, aI _ _ _), (_, aI _ _ _), (_, .inr (0, [_])), (_, .inr (3, [_, _, _, _, _, _, _, _, _, _, _, _, _]))]) 108 C [5] dX5_heap_105 rfl (k_X0_below E l  (by first | assumption | omega)) (cwV 1 C.2.2.2.2.1 gX5_heap_X0_below rfl rfl rfl cdX0_below ⟨Nat.le_of_ble_eq_true rfl, Nat.le_of_ble_eq_true rfl⟩) rfl rfl rfl rfl (Nat.le_of_ble_eq_true rfl) 5 0 rfl rfl rfl ⟨Nat.le_of_ble_eq_true rfl, Nat.le_of_ble_eq_true rfl⟩ (by simp only [List.map_cons, List.map_nil]) rfl ?_
        obtain ⟨jj, hj, hd⟩ : ∃ z : Int, some (dvI (dnI (dnT sd (W * h - 1 + k))) 4) = some z ∧ 0 ≤ z ∧ z < 4 := ⟨_, rfl, dvI_b _ (by omega)⟩
        rw [Option.some.inj hj]
        refine g_callVU (ws' := [(_, .inr (5, [_, _, _, _, _, _, _])), (_, .inr (1, [_, _, _, _])), (_, .inr (2, [_, _, _])), (_, aI _ _ _), (_, aI _ _ _), (_, .inr (0, [_])), (_, .inr (3, [_, _, _, _, _, _, _, _, _, _, _, _, _]))]) 111 C [2, 4] dX5_heap_108 rfl (k_X2_setTurn E l  (by first | assumption | omega) (by first | assumption | omega)) (cwV 2 C.2.2.2.2.1 gX5_heap_X2_setTurn rfl rfl rfl cdX2_setTurn ⟨Nat.le_of_ble_eq_true rfl, Nat.le_of_ble_eq_true rfl⟩) rfl rfl rfl rfl (Nat.le_of_ble_eq_true rfl) 2 2 rfl rfl rfl ⟨Nat.le_of_ble_eq_true rfl, Nat.le_of_ble_eq_true rfl⟩ rfl rfl ?_
        refine g_iinc (lv' := [(3, _), (1, _), (0, _)]) 114 C 0 dX5_heap_111 rfl rfl (by decide) rfl ?_
        refine g_goto 84 C dX5_heap_114 (by decide) ?_
        exact g_w [0, 1, 2] (by rw [← Option.some.inj hj]; (try dsimp only); rw [← trI_s sd (W * h) (zrI tn (W * h)) hk0 (by omega), show W * h - 1 + (k + 1) = W * h - 1 + k + 1 by omega, dnT_s sd (by omega)]) rfl (ih84 ((k + 1)) (by (try dsimp only); omega) (by (try dsimp only); omega))
    · intro h55
      refine g_aload_n 59 C 2 dX5_heap_58 rfl rfl ?_
      refine g_get 62 C 0 1 5 iX5_heap_X5 lX5_heap_21 dX5_heap_59 rfl rfl rfl (by decide) rfl ?_
      refine g_iload_n 63 C 0 dX5_heap_62 rfl rfl ?_
      refine g_aload_n 64 C 2 dX5_heap_63 rfl rfl ?_
      refine g_get 67 C 0 3 5 iX5_heap_X5 lX5_heap_37 dX5_heap_64 rfl rfl rfl (by decide) rfl ?_
      refine g_iload_n 68 C 0 dX5_heap_67 rfl rfl ?_
      refine g_iconst 69 C dX5_heap_68 rfl ?_
      refine g_iadd 70 C dX5_heap_69 rfl ?_
      refine g_callVU (ws' := [(_, .inr (5, [_, _, _, _, _, _, _])), (_, .inr (1, [_, _, _, _])), (_, .inr (2, [_, _, _])), (_, aI _ _ _), (_, aI _ _ _), (_, .inr (0, [_])), (_, .inr (3, [_, _, _, _, _, _, _, _, _, _, _, _, _]))]) 73 C [5] dX5_heap_70 rfl (k_X0_below E l  (by first | assumption | omega)) (cwV 1 C.2.2.2.2.1 gX5_heap_X0_below rfl rfl rfl cdX0_below ⟨Nat.le_of_ble_eq_true rfl, Nat.le_of_ble_eq_true rfl⟩) rfl rfl rfl rfl (Nat.le_of_ble_eq_true rfl) 5 0 rfl rfl rfl ⟨Nat.le_of_ble_eq_true rfl, Nat.le_of_ble_eq_true rfl⟩ (by simp only [List.map_cons, List.map_nil]) rfl ?_
      obtain ⟨jj, hj, hd⟩ : ∃ z : Int, some (dvI (dnI (dnT sd k)) (W * h - 1 - k + 1)) = some z ∧ 0 ≤ z ∧ z < W * h - 1 - k + 1 := ⟨_, rfl, dvI_b _ (by omega)⟩
      rw [Option.some.inj hj]
      refine g_callVU (ws' := [(_, .inr (5, [_, _, _, _, _, _, _])), (_, .inr (1, [_, _, _, _])), (_, .inr (2, [_, _, _])), (_, aI _ _ _), (_, aI _ _ _), (_, .inr (0, [_])), (_, .inr (3, [_, _, _, _, _, _, _, _, _, _, _, _, _]))]) 76 C [2, 3] dX5_heap_73 rfl (k_X2_swapPieces E l  (by first | assumption | omega) (by first | assumption | omega) (by first | assumption | omega)) (cwV 2 C.2.2.2.2.1 gX5_heap_X2_swapPieces rfl rfl rfl cdX2_swapPieces ⟨Nat.le_of_ble_eq_true rfl, Nat.le_of_ble_eq_true rfl⟩) rfl rfl rfl rfl (Nat.le_of_ble_eq_true rfl) 2 2 rfl rfl rfl ⟨Nat.le_of_ble_eq_true rfl, Nat.le_of_ble_eq_true rfl⟩ rfl rfl ?_
      refine g_iinc (lv' := [(3, _), (1, _), (0, _)]) 79 C 0 dX5_heap_76 rfl rfl (by decide) rfl ?_
      refine g_goto 53 C dX5_heap_79 (by decide) ?_
      exact g_w [0, 1, 2] (by rw [← Option.some.inj hj]; (try dsimp only); rw [swI_s sd (W * h) (apI pc (W * h)) hk0, dnT_s sd hk0]) (by (try dsimp only); rw [show W * h - 1 - (k + 1) = W * h - 1 - k + -1 by omega]; rfl) (ih53 ((k + 1)) (by (try dsimp only); omega) (by (try dsimp only); omega))
  · intro h17
    refine g_aload_n 21 C 2 dX5_heap_20 rfl rfl ?_
    refine g_get 24 C 0 1 5 iX5_heap_X5 lX5_heap_21 dX5_heap_21 rfl rfl rfl (by decide) rfl ?_
    refine g_iload_n 25 C 0 dX5_heap_24 rfl rfl ?_
    refine g_iconst 26 C dX5_heap_25 rfl ?_
    refine g_callVU (ws' := [(_, .inr (5, [_, _, _, _, _, _, _])), (_, .inr (1, [_, _, _, _])), (_, .inr (2, [_, _, _])), (_, aI _ _ _), (_, aI _ _ _), (_, .inr (0, [_])), (_, .inr (3, [_, _, _, _, _, _, _, _, _, _, _, _, _]))]) 29 C [2, 3, 4] dX5_heap_26 rfl (k_X2_append E l  (by first | assumption | omega)) (cwV 2 C.2.2.2.2.1 gX5_heap_X2_append rfl rfl rfl cdX2_append ⟨Nat.le_of_ble_eq_true rfl, Nat.le_of_ble_eq_true rfl⟩) rfl rfl rfl rfl (Nat.le_of_ble_eq_true rfl) 2 2 rfl rfl rfl ⟨Nat.le_of_ble_eq_true rfl, Nat.le_of_ble_eq_true rfl⟩ rfl rfl ?_
    refine g_iinc (lv' := [(3, _), (1, _), (0, _)]) 32 C 0 dX5_heap_29 rfl rfl (by decide) rfl ?_
    refine g_goto 9 C dX5_heap_32 (by decide) ?_
    exact g_w [0, 1, 2] (by (try dsimp only); rw [apI_s pc hk0, zrI_s tn hk0]) rfl (ih9 ((k + 1)) (by (try dsimp only); omega) (by (try dsimp only); omega))
theorem cdX3_countWays : yX3_countWays.cls = RX3 ∧ yX3_countWays.cls ≠ "java/lang/invoke/MethodHandle" ∧ yX3_countWays.cls ≠ "java/lang/invoke/VarHandle" ∧ (parseMethodDescriptor yX3_countWays.desc).map (fun d => d.parameters.length) = some 0 := by decide +kernel
theorem lX5_ways_30 : Cond.fieldLink RX5 30 (TX5 2).1 (TX5 2).2.1 (TX5 2).2.2.1 ∈ wsX5_ways := by decide +kernel
theorem iX5_ways_X5 : ∀ w ∈ u_ws RX5 TX5 7, w ∈ wsX5_ways := by decide +kernel
set_option maxHeartbeats 4000000 in
set_option maxRecDepth 100000 in
theorem k_X5_ways (E : gE) (l : Launch) {a_D a_L a_P a_Q a_R a_X a_fi a_hs a_jl a_ly a_pc a_se a_sh a_tn a_us a_wa : Nat} {W h n : Int} {hs se pc tn sh fi wa us ly : Int → Int} {jo fo sp fd tc : Int} {tr ft : Int} (hB : 1 ≤ W ∧ W ≤ 5 ∧ 1 ≤ h ∧ h ≤ 5) (hse : ∀ p e : Int, 0 ≤ p ∧ p < W * h → 0 ≤ e ∧ e < 4 → se (p * 4 + e) = sdI W h p e) (hh : hB9 hs) (hn : 0 ≤ n ∧ n ≤ 25) (hpw : ∀ j : Int, 0 ≤ j ∧ j < n → (0 ≤ pc j ∧ pc j < W * h) ∧ 0 ≤ tn j ∧ tn j < 4) : gMet E l yX5_ways wsX5_ways { frames := 42, cells := 0, slots := 0, locals := 1342 } 0 0 [.ref a_X] [(a_X, .inr (5, [.ref a_P, .ref a_L, .ref a_R, .ref a_D, .ref a_Q, .int (iI tr), .int (iI ft)])), (a_R, .inr (3, [.ref a_P, .ref a_L, .ref a_sh, .ref a_fi, .ref a_wa, .ref a_us, .ref a_ly, .ref a_jl, .int (iI jo), .int (iI fo), .int (iI sp), .int (iI fd), .int (iI tc)])), (a_P, .inr (1, [.ref a_hs, .ref a_se, .int (iI W), .int (iI h)])), (a_hs, aI E 200 hs), (a_se, aI E 100 se), (a_L, .inr (2, [.ref a_pc, .ref a_tn, .int (iI n)])), (a_pc, aI E 25 pc), (a_tn, aI E 25 tn), (a_sh, aI E 400 sh), (a_fi, aI E 400 fi), (a_wa, aI E 100 wa), (a_us, aZ E 25 us), (a_ly, aI E 25 ly)] (fun v w => ∃ (sh2 fi2 wa2 us2 ly2 : Int → Int) (sp2 fd2 tc2 : Int), (v = some (.int (iI (if sp2 = 1 then -6 else fd2))) ∧ runR (FT W h hs pc tn) n (W * h) 0 ly2 sp2 fd2 tc2) ∧ w = [(a_X, .inr (5, [.ref a_P, .ref a_L, .ref a_R, .ref a_D, .ref a_Q, .int (iI tr), .int (iI ft)])), (a_R, .inr (3, [.ref a_P, .ref a_L, .ref a_sh, .ref a_fi, .ref a_wa, .ref a_us, .ref a_ly, .ref a_jl, .int (iI jo), .int (iI 0), .int (iI sp2), .int (iI fd2), .int (iI tc2)])), (a_P, .inr (1, [.ref a_hs, .ref a_se, .int (iI W), .int (iI h)])), (a_hs, aI E 200 hs), (a_se, aI E 100 se), (a_L, .inr (2, [.ref a_pc, .ref a_tn, .int (iI n)])), (a_pc, aI E 25 pc), (a_tn, aI E 25 tn), (a_sh, aI E 400 sh2), (a_fi, aI E 400 fi2), (a_wa, aI E 100 wa2), (a_us, aZ E 25 us2), (a_ly, aI E 25 ly2)]) := by
  refine g_start (cc := cX5_ways) (maxL := 1) (ret := (some .int)) (by decide) rfl (Nat.le_of_ble_eq_true rfl) ?_
  intro p_ e_ s_ m_ args_ below_ meth_ c_ A_ C hr hnm
  refine g_aload_n 1 C 0 dX5_ways_0 rfl rfl ?_
  refine g_get 4 C 0 2 5 iX5_ways_X5 lX5_ways_30 dX5_ways_1 rfl rfl rfl (by decide) rfl ?_
  refine g_callV 7 C [1, 2, 3, 4, 5, 6, 7, 8, 9, 10, 11, 12] dX5_ways_4 rfl (k_X3_countWays E l  (by first | assumption | omega) (by first | assumption | omega) (by first | assumption | omega) (by first | assumption | omega) (by first | assumption | omega)) (cwV 0 C.2.2.2.2.1 gX5_ways_X3_countWays rfl rfl rfl cdX3_countWays ⟨Nat.le_of_ble_eq_true rfl, Nat.le_of_ble_eq_true rfl⟩) rfl rfl rfl rfl (Nat.le_of_ble_eq_true rfl) 1 3 rfl rfl rfl ⟨Nat.le_of_ble_eq_true rfl, Nat.le_of_ble_eq_true rfl⟩ (fun v w q => by obtain ⟨_, _, _, _, _, _, _, _, -, rfl⟩ := q; rfl) ?_
  rintro _ _ ⟨sh2, fi2, wa2, us2, ly2, sp2, fd2, tc2, ⟨rfl, hR⟩, rfl⟩
  refine g_w (ws' := [(_, .inr (5, [_, _, _, _, _, _, _])), (_, .inr (3, [_, _, _, _, _, _, _, _, _, _, _, _, _])), (_, .inr (1, [_, _, _, _])), (_, aI _ _ _), (_, aI _ _ _), (_, .inr (2, [_, _, _])), (_, aI _ _ _), (_, aI _ _ _), (_, aI _ _ _), (_, aI _ _ _), (_, aI _ _ _), (_, aZ _ _ _), (_, aI _ _ _)]) [0] rfl rfl ?_
  exact g_iret C hr dX5_ways_7 ⟨_, _, _, _, _, _, _, _, ⟨rfl, hR⟩, rfl⟩
theorem cdX3_findFirst : yX3_findFirst.cls = RX3 ∧ yX3_findFirst.cls ≠ "java/lang/invoke/MethodHandle" ∧ yX3_findFirst.cls ≠ "java/lang/invoke/VarHandle" ∧ (parseMethodDescriptor yX3_findFirst.desc).map (fun d => d.parameters.length) = some 0 := by decide +kernel
theorem lX5_join_30 : Cond.fieldLink RX5 30 (TX5 2).1 (TX5 2).2.1 (TX5 2).2.2.1 ∈ wsX5_join := by decide +kernel
theorem iX5_join_X5 : ∀ w ∈ u_ws RX5 TX5 7, w ∈ wsX5_join := by decide +kernel
set_option maxHeartbeats 4000000 in
set_option maxRecDepth 100000 in
theorem k_X5_join (E : gE) (l : Launch) {a_D a_L a_P a_Q a_R a_X a_fi a_hs a_jl a_ly a_pc a_se a_sh a_tn a_us a_wa : Nat} {W h n : Int} {hs se pc tn sh fi wa us ly : Int → Int} {jo fo sp fd tc : Int} {jl : Int → Int} {tr ft : Int} (hB : 1 ≤ W ∧ W ≤ 5 ∧ 1 ≤ h ∧ h ≤ 5) (hse : ∀ p e : Int, 0 ≤ p ∧ p < W * h → 0 ≤ e ∧ e < 4 → se (p * 4 + e) = sdI W h p e) (hh : hB9 hs) (hn : 0 ≤ n ∧ n ≤ 25) (hpw : ∀ j : Int, 0 ≤ j ∧ j < n → (0 ≤ pc j ∧ pc j < W * h) ∧ 0 ≤ tn j ∧ tn j < 4) : gMet E l yX5_join wsX5_join { frames := 42, cells := 0, slots := 0, locals := 1343 } 0 0 [.ref a_X] [(a_X, .inr (5, [.ref a_P, .ref a_L, .ref a_R, .ref a_D, .ref a_Q, .int (iI tr), .int (iI ft)])), (a_R, .inr (3, [.ref a_P, .ref a_L, .ref a_sh, .ref a_fi, .ref a_wa, .ref a_us, .ref a_ly, .ref a_jl, .int (iI jo), .int (iI fo), .int (iI sp), .int (iI fd), .int (iI tc)])), (a_P, .inr (1, [.ref a_hs, .ref a_se, .int (iI W), .int (iI h)])), (a_hs, aI E 200 hs), (a_se, aI E 100 se), (a_L, .inr (2, [.ref a_pc, .ref a_tn, .int (iI n)])), (a_pc, aI E 25 pc), (a_tn, aI E 25 tn), (a_sh, aI E 400 sh), (a_fi, aI E 400 fi), (a_wa, aI E 100 wa), (a_us, aZ E 25 us), (a_ly, aI E 25 ly), (a_jl, aI E 25 jl)] (fun v w => ∃ (sh2 fi2 wa2 us2 ly2 : Int → Int) (sp2 fd2 tc2 : Int) (r jo2 : Int) (jl2 : Int → Int), (v = some (.int (iI r)) ∧ runR (FT W h hs pc tn) n (W * h) 1 ly2 sp2 fd2 tc2 ∧ ((sp2 = 1 ∧ r = -6 ∧ jo2 = jo ∧ jl2 = jl) ∨ (sp2 = 0 ∧ r = 0 ∧ fd2 = 0 ∧ jo2 = 0 ∧ jl2 = jl) ∨ (sp2 = 0 ∧ r = 1 ∧ fd2 = 1 ∧ jo2 = 1 ∧ ∀ j : Int, 0 ≤ j ∧ j < W * h → jl2 j = ly2 j))) ∧ w = [(a_X, .inr (5, [.ref a_P, .ref a_L, .ref a_R, .ref a_D, .ref a_Q, .int (iI tr), .int (iI ft)])), (a_R, .inr (3, [.ref a_P, .ref a_L, .ref a_sh, .ref a_fi, .ref a_wa, .ref a_us, .ref a_ly, .ref a_jl, .int (iI jo2), .int (iI 1), .int (iI sp2), .int (iI fd2), .int (iI tc2)])), (a_P, .inr (1, [.ref a_hs, .ref a_se, .int (iI W), .int (iI h)])), (a_hs, aI E 200 hs), (a_se, aI E 100 se), (a_L, .inr (2, [.ref a_pc, .ref a_tn, .int (iI n)])), (a_pc, aI E 25 pc), (a_tn, aI E 25 tn), (a_sh, aI E 400 sh2), (a_fi, aI E 400 fi2), (a_wa, aI E 100 wa2), (a_us, aZ E 25 us2), (a_ly, aI E 25 ly2), (a_jl, aI E 25 jl2)]) := by
  refine g_start (cc := cX5_join) (maxL := 1) (ret := (some .int)) (by decide) rfl (Nat.le_of_ble_eq_true rfl) ?_
  intro p_ e_ s_ m_ args_ below_ meth_ c_ A_ C hr hnm
  refine g_aload_n 1 C 0 dX5_join_0 rfl rfl ?_
  refine g_get 4 C 0 2 5 iX5_join_X5 lX5_join_30 dX5_join_1 rfl rfl rfl (by decide) rfl ?_
  refine g_callV 7 C [1, 2, 3, 4, 5, 6, 7, 8, 9, 10, 11, 12, 13] dX5_join_4 rfl (k_X3_findFirst E l  (by first | assumption | omega) (by first | assumption | omega) (by first | assumption | omega) (by first | assumption | omega) (by first | assumption | omega)) (cwV 0 C.2.2.2.2.1 gX5_join_X3_findFirst rfl rfl rfl cdX3_findFirst ⟨Nat.le_of_ble_eq_true rfl, Nat.le_of_ble_eq_true rfl⟩) rfl rfl rfl rfl (Nat.le_of_ble_eq_true rfl) 1 3 rfl rfl rfl ⟨Nat.le_of_ble_eq_true rfl, Nat.le_of_ble_eq_true rfl⟩ (fun v w q => by obtain ⟨_, _, _, _, _, _, _, _, _, _, _, -, rfl⟩ := q; rfl) ?_
  rintro _ _ ⟨sh2, fi2, wa2, us2, ly2, sp2, fd2, tc2, r, jo2, jl2, ⟨rfl, hR, hj⟩, rfl⟩
  refine g_w (ws' := [(_, .inr (5, [_, _, _, _, _, _, _])), (_, .inr (3, [_, _, _, _, _, _, _, _, _, _, _, _, _])), (_, .inr (1, [_, _, _, _])), (_, aI _ _ _), (_, aI _ _ _), (_, .inr (2, [_, _, _])), (_, aI _ _ _), (_, aI _ _ _), (_, aI _ _ _), (_, aI _ _ _), (_, aI _ _ _), (_, aZ _ _ _), (_, aI _ _ _), (_, aI _ _ _)]) [0] rfl rfl ?_
  exact g_iret C hr dX5_join_7 ⟨_, _, _, _, _, _, _, _, _, _, _, ⟨rfl, hR, hj⟩, rfl⟩
end
section
/-! the reference's numbers are the same -/
theorem ht5 (hs : Int → Int) (z i : Int) : hs (5 * z + i) = htI hs z i 0 := by
  unfold htI
  rw [if_pos rfl, Int.mul_comm]
theorem ht5n (hs : Int → Int) (z i : Int) : - hs (5 * z + 4 - i) = htI hs z i 1 := by
  unfold htI
  rw [if_neg (by decide), show z * 5 + (4 - i) = 5 * z + 4 - i by omega]
theorem eh_a {W h p e i : Int} {hs : Int → Int} (he : e = 1 ∨ e = 2) : hs (5 * sdI W h p e + i) = ehI W h hs p e i := by
  rw [ht5 hs]
  unfold ehI wyI
  rw [if_pos he]
theorem eh_b {W h p e i : Int} {hs : Int → Int} (he : ¬ (e = 1 ∨ e = 2)) : - hs (5 * sdI W h p e + 4 - i) = ehI W h hs p e i := by
  rw [ht5n hs]
  unfold ehI wyI
  rw [if_neg he]
theorem dfI_0 (hs : Int → Int) (z o w : Int) : dfI hs z o w = 0 ↔ ∀ j, 0 ≤ j → j < 5 → htI hs z j 0 = htI hs o j w := by
  unfold dfI
  rw [cnI_z _ (by omega)]
  exact ⟨fun q j h1 h2 => Classical.byContradiction fun y => q j h1 h2 y, fun q j h1 h2 y => y (q j h1 h2)⟩
theorem abI_c (x y : Int) : abI (x + y) = abI (y + x) := by rw [Int.add_comm]
theorem frI_c {W h : Int} {hs : Int → Int} (p e q f : Int) : frI W h hs p e q f = frI W h hs q f p e := by
  unfold frI
  rw [abI_c (ehI W h hs p e 0), abI_c (ehI W h hs p e 1), abI_c (ehI W h hs p e 2), abI_c (ehI W h hs p e 3), abI_c (ehI W h hs p e 4)]
  omega
theorem saI_c {W h : Int} {hs : Int → Int} (a b : Int) : saI W h hs a b = saI W h hs b a := by
  unfold saI
  rw [frI_c]
  split <;> split <;> first | rfl | omega
theorem suI_c {f g : Int → Int} {i : Int} (h : 0 ≤ i) (hfg : ∀ j, 0 ≤ j → j < i → f j = g j) : suI f i = suI g i := by
  have key : ∀ k, 0 ≤ k → k ≤ i → suI f k = suI g k := by
    intro k hk
    refine cnI_ind (M := fun k => k ≤ i → suI f k = suI g k) (fun _ => rfl) ?_ hk
    intro k hk ih hle
    rw [suI_s f hk, suI_s g hk, ih (by omega), hfg k hk (by omega)]
  exact key i h (Int.le_refl _)
theorem suI_a {f g : Int → Int} {i : Int} (h : 0 ≤ i) : suI (fun j => f j + g j) i = suI f i + suI g i := by
  refine cnI_ind (M := fun i => suI (fun j => f j + g j) i = suI f i + suI g i) rfl ?_ h
  intro i hi ih
  rw [suI_s _ hi, suI_s f hi, suI_s g hi, ih]
  omega
theorem suI_n {P : Int → Prop} {i : Int} (h : 0 ≤ i) : suI (fun j => cI (P j) 1 0) i = cnI P i := by
  refine cnI_ind (M := fun i => suI (fun j => cI (P j) 1 0) i = cnI P i) rfl ?_ h
  intro i hi ih
  rw [suI_s _ hi, cnI_s P hi, ih]
/-- pairs counted by their first, and by their second -/
theorem pw_swap (P : Int → Int → Prop) {n : Int} (hn : 0 ≤ n) : suI (fun a => cnI (fun b => a < b ∧ P a b) n) n = suI (fun b => cnI (fun a => P a b) b) n := by
  refine cnI_ind (M := fun n => suI (fun a => cnI (fun b => a < b ∧ P a b) n) n = suI (fun b => cnI (fun a => P a b) b) n) rfl ?_ hn
  intro n hn ih
  rw [suI_s _ hn, suI_s _ hn, ← ih]
  have e1 : cnI (fun b => n < b ∧ P n b) (n + 1) = 0 := (cnI_z _ (by omega)).mpr (fun j h1 h2 q => by have := q.1; omega)
  have e2 : suI (fun a => cnI (fun b => a < b ∧ P a b) (n + 1)) n = suI (fun a => cnI (fun b => a < b ∧ P a b) n + cI (P a n) 1 0) n := suI_c hn (fun a h1 h2 => by
    show cnI (fun b => a < b ∧ P a b) (n + 1) = cnI (fun b => a < b ∧ P a b) n + cI (P a n) 1 0
    rw [cnI_s _ hn]
    congr 1
    exact cI_c ⟨fun q => q.2, fun q => ⟨h2, q⟩⟩)
  rw [e1, e2, suI_a hn, suI_n hn, Int.add_zero]
def rwP (W h : Int) (hs : Int → Int) (d b a : Int) : Prop := saI W h hs a b ≠ -9 ∧ saI W h hs a b ≤ d
noncomputable def rwR (W h : Int) (hs : Int → Int) (d b : Int) : Int := cnI (rwP W h hs d b) b
theorem pw_rw {W h : Int} {hs : Int → Int} {d : Int} (hB : 1 ≤ W ∧ W ≤ 5 ∧ 1 ≤ h ∧ h ≤ 5) : suI (rwR W h hs d) (W * h * 4) = pwI W h hs d := by
  have hn := nsd_b hB
  exact (pw_swap (fun a b => saI W h hs a b ≠ -9 ∧ saI W h hs a b ≤ d) (n := W * h * 4) (by omega)).symm
theorem gv_o0 {hs : Int → Int} {a b w i : Int} (hab : a ≠ b) (hi : 0 ≤ i ∧ i < 5) (hw : w = 0) : gvI hs a b w i (5 * b + i) = htI hs b i w := by
  rw [hw, ← ht5 hs b i]
  exact if_neg (by omega)
theorem gv_o1 {hs : Int → Int} {a b w i : Int} (hab : a ≠ b) (hi : 0 ≤ i ∧ i < 5) (hw : w = 1) : - gvI hs a b w i (5 * b + 4 - i) = htI hs b i w := by
  rw [hw, ← ht5n hs b i]
  congr 1
  exact if_neg (by omega)
theorem gv_z {hs : Int → Int} {a b w i : Int} (hi : 0 ≤ i ∧ i < 5) : gvI hs a b w i (5 * a + i) = htI hs a i 0 := by
  rw [← ht5 hs a i]
  exact if_neg (by omega)
theorem gv_s {hs : Int → Int} {a b w i : Int} (hi : 0 ≤ i ∧ i < 5) : uI (gvI hs a b w i) (5 * a + i) (htI hs b i w) = gvI hs a b w (i + 1) := by
  funext j
  unfold uI gvI
  by_cases h : j = 5 * a + i
  · rw [if_pos h, if_pos (by omega), show j - a * 5 = i by omega]
  · rw [if_neg h]
    by_cases q : a * 5 ≤ j ∧ j < a * 5 + i
    · rw [if_pos q, if_pos (by omega)]
    · rw [if_neg q, if_neg (by omega)]
/-- a row with zeros from b on, m of them -/
def zsI (f : Int → Int) (b m : Int) : Int → Int := fun j => if b ≤ j ∧ j < b + m then 0 else f j
theorem zsI_0 (f : Int → Int) (b : Int) : zsI f b 0 = f := by
  funext j
  exact if_neg (by omega)
theorem zsI_s (f : Int → Int) {b m : Int} (h : 0 ≤ m) : uI (zsI f b m) (b + m) 0 = zsI f b (m + 1) := by
  funext j
  unfold uI zsI
  by_cases e : j = b + m
  · rw [if_pos e, if_pos (by omega)]
  · rw [if_neg e]
    by_cases q : b ≤ j ∧ j < b + m
    · rw [if_pos q, if_pos (by omega)]
    · rw [if_neg q, if_neg (by omega)]
/-- hands: the first m of a row's part; and laid down again -/
theorem cpI_0 (f g : Int → Int) (i j : Int) : cpI f g i j 0 = g := by
  funext x
  exact if_neg (by omega)
theorem cpI_s (f g : Int → Int) {i j m : Int} (h : 0 ≤ m) : uI (cpI f g i j m) (j + m) (f (i + m)) = cpI f g i j (m + 1) := by
  funext x
  unfold uI cpI
  by_cases e : x = j + m
  · rw [if_pos e, if_pos (by omega), show i + (x - j) = i + m by omega]
  · rw [if_neg e]
    by_cases q : j ≤ x ∧ x < j + m
    · rw [if_pos q, if_pos (by omega)]
    · rw [if_neg q, if_neg (by omega)]
theorem rm_s {f : Int → Int} {i k : Int} (h : i ≤ k) : uI (rmI f i (k + 1)) k (rmI f i (k + 1) (k + 1)) = rmI f i (k + 1 + 1) := by
  have := rmI_s f (i := i) (k := k + 1) (by omega)
  rwa [show k + 1 - 1 = k by omega] at this
section HT
variable {F : (Int → Int) → Int → Prop} {n N fo : Int} {s : gS}
theorem it_stay {a : Nat} (h : (itS F n N fo a s).1 < 0) : ∀ b : Nat, itS F n N fo (a + b) s = itS F n N fo a s
  | 0 => rfl
  | b + 1 => by
    show stp F n N fo (itS F n N fo (a + b) s) = _
    rw [it_stay h b]
    exact st_halt h
theorem it_fin {a b : Nat} (ha : (itS F n N fo a s).1 < 0) (hb : (itS F n N fo b s).1 < 0) : itS F n N fo a s = itS F n N fo b s := by
  rcases Nat.le_total a b with h | h
  · have := it_stay ha (b - a)
    rw [show a + (b - a) = b by omega] at this
    exact this.symm
  · have := it_stay hb (a - b)
    rw [show b + (a - b) = a by omega] at this
    exact this
theorem it_lt {a b : Nat} (ha : ¬ (itS F n N fo a s).1 < 0) (hb : (itS F n N fo b s).1 < 0) : a < b := by
  rcases Nat.lt_or_ge a b with h | h
  · exact h
  · have := it_stay hb (a - b)
    rw [show b + (a - b) = a by omega] at this
    rw [this] at ha
    exact absurd hb ha
end HT
end
section
theorem lX0_init_1 : ∀ w ∈ ([Cond.methodLink RX0 1 Lib.objectInit, Cond.instanceMethod Lib.objectInit, Cond.code Lib.objectInit ⟨#[0xb1]⟩ 1 none] : List Cond), w ∈ wsX0_init := by decide +kernel
set_option maxHeartbeats 4000000 in
set_option maxRecDepth 100000 in
theorem k_X0_init (E : gE) (l : Launch) {a_D : Nat}   : gMet E l yX0_init wsX0_init { frames := 1, cells := 0, slots := 0, locals := 20 } 0 0 [.ref a_D] [(a_D, .inr (0, [.long 0]))] (fun v w => v = none ∧ w = [(a_D, .inr (0, [.long 0]))]) := by
  refine g_start (cc := cX0_init) (maxL := 1) (ret := none) (by decide) rfl (Nat.le_of_ble_eq_true rfl) ?_
  intro p_ e_ s_ m_ args_ below_ meth_ c_ A_ C hr hnm
  refine g_aload_n 1 C 0 dX0_init_0 rfl rfl ?_
  refine g_objInit 4 C dX0_init_1 rfl lX0_init_1 (Nat.le_of_ble_eq_true rfl) (Nat.le_of_ble_eq_true rfl) ?_
  exact g_vret C hr dX0_init_4 ⟨rfl, rfl⟩
theorem lX2_init_arrI : Cond.arrayClass .int ∈ wsX2_init := by decide +kernel
theorem lX2_init_15 : Cond.fieldLink RX2 15 (TX2 1).1 (TX2 1).2.1 (TX2 1).2.2.1 ∈ wsX2_init := by decide +kernel
theorem lX2_init_9 : Cond.fieldLink RX2 9 (TX2 0).1 (TX2 0).2.1 (TX2 0).2.2.1 ∈ wsX2_init := by decide +kernel
theorem lX2_init_3 : ∀ w ∈ ([Cond.methodLink RX2 3 Lib.objectInit, Cond.instanceMethod Lib.objectInit, Cond.code Lib.objectInit ⟨#[0xb1]⟩ 1 none] : List Cond), w ∈ wsX2_init := by decide +kernel
theorem iX2_init_X2 : ∀ w ∈ u_ws RX2 TX2 3, w ∈ wsX2_init := by decide +kernel
set_option maxHeartbeats 4000000 in
set_option maxRecDepth 100000 in
theorem k_X2_init (E : gE) (l : Launch) {a_L : Nat}   : gMet E l yX2_init wsX2_init { frames := 1, cells := 2, slots := 50, locals := 20 } 2 50 [.ref a_L] [(a_L, .inr (2, [.null, .null, .int (iI 0)]))] (fun v w => ∃ a_pc a_tn : Nat, v = none ∧ w = [(a_L, .inr (2, [.ref a_pc, .ref a_tn, .int (iI 0)])), (a_pc, aI E 25 (fun _ => 0)), (a_tn, aI E 25 (fun _ => 0))]) := by
  refine g_start (cc := cX2_init) (maxL := 1) (ret := none) (by decide) rfl (Nat.le_of_ble_eq_true rfl) ?_
  intro p_ e_ s_ m_ args_ below_ meth_ c_ A_ C hr hnm
  refine g_aload_n 1 C 0 dX2_init_0 rfl rfl ?_
  refine g_objInit 4 C dX2_init_1 rfl lX2_init_3 (Nat.le_of_ble_eq_true rfl) (Nat.le_of_ble_eq_true rfl) ?_
  refine g_aload_n 5 C 0 dX2_init_4 rfl rfl ?_
  refine g_bipush 7 C dX2_init_5 rfl (by decide) ?_
  refine g_newI 9 C 25 lX2_init_arrI dX2_init_7 rfl (by decide) (Nat.le_of_ble_eq_true rfl) (Nat.le_of_ble_eq_true rfl) ?_
  intro a_pc
  refine g_w (ws' := [(_, .inr (2, [_, _, _])), (_, aI _ _ _)]) [0] rfl rfl ?_
  refine g_putF (ws' := [(_, .inr (2, [_, _, _])), (_, aI _ _ _)]) 12 C 0 0 2 tyX2 tyX2_ok nmX2 iX2_init_X2 lX2_init_9 hnm rfl dX2_init_9 rfl rfl rfl (by decide) rfl rfl rfl (Nat.le_of_ble_eq_true rfl) rfl ?_
  refine g_aload_n 13 C 0 dX2_init_12 rfl rfl ?_
  refine g_bipush 15 C dX2_init_13 rfl (by decide) ?_
  refine g_newI 17 C 25 lX2_init_arrI dX2_init_15 rfl (by decide) (Nat.le_of_ble_eq_true rfl) (Nat.le_of_ble_eq_true rfl) ?_
  intro a_tn
  refine g_w (ws' := [(_, .inr (2, [_, _, _])), (_, aI _ _ _), (_, aI _ _ _)]) [0] rfl rfl ?_
  refine g_putF (ws' := [(_, .inr (2, [_, _, _])), (_, aI _ _ _), (_, aI _ _ _)]) 20 C 0 1 2 tyX2 tyX2_ok nmX2 iX2_init_X2 lX2_init_15 hnm rfl dX2_init_17 rfl rfl rfl (by decide) rfl rfl rfl (Nat.le_of_ble_eq_true rfl) rfl ?_
  exact g_vret C hr dX2_init_20 ⟨_, _, rfl, rfl⟩
theorem lX4_init_arrI : Cond.arrayClass .int ∈ wsX4_init := by decide +kernel
theorem lX4_init_9 : Cond.fieldLink RX4 9 (TX4 0).1 (TX4 0).2.1 (TX4 0).2.2.1 ∈ wsX4_init := by decide +kernel
theorem lX4_init_3 : ∀ w ∈ ([Cond.methodLink RX4 3 Lib.objectInit, Cond.instanceMethod Lib.objectInit, Cond.code Lib.objectInit ⟨#[0xb1]⟩ 1 none] : List Cond), w ∈ wsX4_init := by decide +kernel
theorem iX4_init_X4 : ∀ w ∈ u_ws RX4 TX4 4, w ∈ wsX4_init := by decide +kernel
set_option maxHeartbeats 4000000 in
set_option maxRecDepth 100000 in
theorem k_X4_init (E : gE) (l : Launch) {a_S : Nat}   : gMet E l yX4_init wsX4_init { frames := 1, cells := 1, slots := 50, locals := 20 } 1 50 [.ref a_S] [(a_S, .inr (4, [.null, .int (iI 0), .int (iI 0), .int (iI 0)]))] (fun v w => ∃ a_ce : Nat, v = none ∧ w = [(a_S, .inr (4, [.ref a_ce, .int (iI 0), .int (iI 0), .int (iI 0)])), (a_ce, aI E 50 (fun _ => 0))]) := by
  refine g_start (cc := cX4_init) (maxL := 1) (ret := none) (by decide) rfl (Nat.le_of_ble_eq_true rfl) ?_
  intro p_ e_ s_ m_ args_ below_ meth_ c_ A_ C hr hnm
  refine g_aload_n 1 C 0 dX4_init_0 rfl rfl ?_
  refine g_objInit 4 C dX4_init_1 rfl lX4_init_3 (Nat.le_of_ble_eq_true rfl) (Nat.le_of_ble_eq_true rfl) ?_
  refine g_aload_n 5 C 0 dX4_init_4 rfl rfl ?_
  refine g_bipush 7 C dX4_init_5 rfl (by decide) ?_
  refine g_newI 9 C 50 lX4_init_arrI dX4_init_7 rfl (by decide) (Nat.le_of_ble_eq_true rfl) (Nat.le_of_ble_eq_true rfl) ?_
  intro a_ce
  refine g_w (ws' := [(_, .inr (4, [_, _, _, _])), (_, aI _ _ _)]) [0] rfl rfl ?_
  refine g_putF (ws' := [(_, .inr (4, [_, _, _, _])), (_, aI _ _ _)]) 12 C 0 0 4 tyX4 tyX4_ok nmX4 iX4_init_X4 lX4_init_9 hnm rfl dX4_init_9 rfl rfl rfl (by decide) rfl rfl rfl (Nat.le_of_ble_eq_true rfl) rfl ?_
  exact g_vret C hr dX4_init_12 ⟨_, rfl, rfl⟩
theorem lX3_init_arrI : Cond.arrayClass .int ∈ wsX3_init := by decide +kernel
theorem lX3_init_arrZ : Cond.arrayClass .boolean ∈ wsX3_init := by decide +kernel
theorem lX3_init_15 : Cond.fieldLink RX3 15 (TX3 3).1 (TX3 3).2.1 (TX3 3).2.2.1 ∈ wsX3_init := by decide +kernel
theorem lX3_init_18 : Cond.fieldLink RX3 18 (TX3 4).1 (TX3 4).2.1 (TX3 4).2.2.1 ∈ wsX3_init := by decide +kernel
theorem lX3_init_21 : Cond.fieldLink RX3 21 (TX3 5).1 (TX3 5).2.1 (TX3 5).2.2.1 ∈ wsX3_init := by decide +kernel
theorem lX3_init_25 : Cond.fieldLink RX3 25 (TX3 6).1 (TX3 6).2.1 (TX3 6).2.2.1 ∈ wsX3_init := by decide +kernel
theorem lX3_init_28 : Cond.fieldLink RX3 28 (TX3 7).1 (TX3 7).2.1 (TX3 7).2.2.1 ∈ wsX3_init := by decide +kernel
theorem lX3_init_31 : Cond.fieldLink RX3 31 (TX3 0).1 (TX3 0).2.1 (TX3 0).2.2.1 ∈ wsX3_init := by decide +kernel
theorem lX3_init_35 : Cond.fieldLink RX3 35 (TX3 1).1 (TX3 1).2.1 (TX3 1).2.2.1 ∈ wsX3_init := by decide +kernel
theorem lX3_init_9 : Cond.fieldLink RX3 9 (TX3 2).1 (TX3 2).2.1 (TX3 2).2.2.1 ∈ wsX3_init := by decide +kernel
theorem lX3_init_3 : ∀ w ∈ ([Cond.methodLink RX3 3 Lib.objectInit, Cond.instanceMethod Lib.objectInit, Cond.code Lib.objectInit ⟨#[0xb1]⟩ 1 none] : List Cond), w ∈ wsX3_init := by decide +kernel
theorem iX3_init_X3 : ∀ w ∈ u_ws RX3 TX3 13, w ∈ wsX3_init := by decide +kernel
set_option maxHeartbeats 4000000 in
set_option maxRecDepth 100000 in
theorem k_X3_init (E : gE) (l : Launch) {a_L a_P a_R : Nat}   : gMet E l yX3_init wsX3_init { frames := 1, cells := 6, slots := 975, locals := 20 } 6 975 [.ref a_R, .ref a_P, .ref a_L] [(a_R, .inr (3, [.null, .null, .null, .null, .null, .null, .null, .null, .int (iI 0), .int (iI 0), .int (iI 0), .int (iI 0), .int (iI 0)]))] (fun v w => ∃ a_sh a_fi a_wa a_us a_ly a_jl : Nat, v = none ∧ w = [(a_R, .inr (3, [.ref a_P, .ref a_L, .ref a_sh, .ref a_fi, .ref a_wa, .ref a_us, .ref a_ly, .ref a_jl, .int (iI 0), .int (iI 0), .int (iI 0), .int (iI 0), .int (iI 0)])), (a_sh, aI E 400 (fun _ => 0)), (a_fi, aI E 400 (fun _ => 0)), (a_wa, aI E 100 (fun _ => 0)), (a_us, aZ E 25 (fun _ => 0)), (a_ly, aI E 25 (fun _ => 0)), (a_jl, aI E 25 (fun _ => 0))]) := by
  refine g_start (cc := cX3_init) (maxL := 3) (ret := none) (by decide) rfl (Nat.le_of_ble_eq_true rfl) ?_
  intro p_ e_ s_ m_ args_ below_ meth_ c_ A_ C hr hnm
  refine g_aload_n 1 C 0 dX3_init_0 rfl rfl ?_
  refine g_objInit 4 C dX3_init_1 rfl lX3_init_3 (Nat.le_of_ble_eq_true rfl) (Nat.le_of_ble_eq_true rfl) ?_
  refine g_aload_n 5 C 0 dX3_init_4 rfl rfl ?_
  refine g_sipush 8 C dX3_init_5 rfl (by decide) ?_
  refine g_newI 10 C 400 lX3_init_arrI dX3_init_8 rfl (by decide) (Nat.le_of_ble_eq_true rfl) (Nat.le_of_ble_eq_true rfl) ?_
  intro a_sh
  refine g_w (ws' := [(_, .inr (3, [_, _, _, _, _, _, _, _, _, _, _, _, _])), (_, aI _ _ _)]) [0, 1, 2] rfl rfl ?_
  refine g_putF (ws' := [(_, .inr (3, [_, _, _, _, _, _, _, _, _, _, _, _, _])), (_, aI _ _ _)]) 13 C 0 2 3 tyX3 tyX3_ok nmX3 iX3_init_X3 lX3_init_9 hnm rfl dX3_init_10 rfl rfl rfl (by decide) rfl rfl rfl (Nat.le_of_ble_eq_true rfl) rfl ?_
  refine g_aload_n 14 C 0 dX3_init_13 rfl rfl ?_
  refine g_sipush 17 C dX3_init_14 rfl (by decide) ?_
  refine g_newI 19 C 400 lX3_init_arrI dX3_init_17 rfl (by decide) (Nat.le_of_ble_eq_true rfl) (Nat.le_of_ble_eq_true rfl) ?_
  intro a_fi
  refine g_w (ws' := [(_, .inr (3, [_, _, _, _, _, _, _, _, _, _, _, _, _])), (_, aI _ _ _), (_, aI _ _ _)]) [0, 1, 2] rfl rfl ?_
  refine g_putF (ws' := [(_, .inr (3, [_, _, _, _, _, _, _, _, _, _, _, _, _])), (_, aI _ _ _), (_, aI _ _ _)]) 22 C 0 3 3 tyX3 tyX3_ok nmX3 iX3_init_X3 lX3_init_15 hnm rfl dX3_init_19 rfl rfl rfl (by decide) rfl rfl rfl (Nat.le_of_ble_eq_true rfl) rfl ?_
  refine g_aload_n 23 C 0 dX3_init_22 rfl rfl ?_
  refine g_bipush 25 C dX3_init_23 rfl (by decide) ?_
  refine g_newI 27 C 100 lX3_init_arrI dX3_init_25 rfl (by decide) (Nat.le_of_ble_eq_true rfl) (Nat.le_of_ble_eq_true rfl) ?_
  intro a_wa
  refine g_w (ws' := [(_, .inr (3, [_, _, _, _, _, _, _, _, _, _, _, _, _])), (_, aI _ _ _), (_, aI _ _ _), (_, aI _ _ _)]) [0, 1, 2] rfl rfl ?_
  refine g_putF (ws' := [(_, .inr (3, [_, _, _, _, _, _, _, _, _, _, _, _, _])), (_, aI _ _ _), (_, aI _ _ _), (_, aI _ _ _)]) 30 C 0 4 3 tyX3 tyX3_ok nmX3 iX3_init_X3 lX3_init_18 hnm rfl dX3_init_27 rfl rfl rfl (by decide) rfl rfl rfl (Nat.le_of_ble_eq_true rfl) rfl ?_
  refine g_aload_n 31 C 0 dX3_init_30 rfl rfl ?_
  refine g_bipush 33 C dX3_init_31 rfl (by decide) ?_
  refine g_newZ 35 C 25 lX3_init_arrZ dX3_init_33 rfl (by decide) (Nat.le_of_ble_eq_true rfl) (Nat.le_of_ble_eq_true rfl) ?_
  intro a_us
  refine g_w (ws' := [(_, .inr (3, [_, _, _, _, _, _, _, _, _, _, _, _, _])), (_, aI _ _ _), (_, aI _ _ _), (_, aI _ _ _), (_, aZ _ _ _)]) [0, 1, 2] rfl rfl ?_
  refine g_putF (ws' := [(_, .inr (3, [_, _, _, _, _, _, _, _, _, _, _, _, _])), (_, aI _ _ _), (_, aI _ _ _), (_, aI _ _ _), (_, aZ _ _ _)]) 38 C 0 5 3 tyX3 tyX3_ok nmX3 iX3_init_X3 lX3_init_21 hnm rfl dX3_init_35 rfl rfl rfl (by decide) rfl rfl rfl (Nat.le_of_ble_eq_true rfl) rfl ?_
  refine g_aload_n 39 C 0 dX3_init_38 rfl rfl ?_
  refine g_bipush 41 C dX3_init_39 rfl (by decide) ?_
  refine g_newI 43 C 25 lX3_init_arrI dX3_init_41 rfl (by decide) (Nat.le_of_ble_eq_true rfl) (Nat.le_of_ble_eq_true rfl) ?_
  intro a_ly
  refine g_w (ws' := [(_, .inr (3, [_, _, _, _, _, _, _, _, _, _, _, _, _])), (_, aI _ _ _), (_, aI _ _ _), (_, aI _ _ _), (_, aZ _ _ _), (_, aI _ _ _)]) [0, 1, 2] rfl rfl ?_
  refine g_putF (ws' := [(_, .inr (3, [_, _, _, _, _, _, _, _, _, _, _, _, _])), (_, aI _ _ _), (_, aI _ _ _), (_, aI _ _ _), (_, aZ _ _ _), (_, aI _ _ _)]) 46 C 0 6 3 tyX3 tyX3_ok nmX3 iX3_init_X3 lX3_init_25 hnm rfl dX3_init_43 rfl rfl rfl (by decide) rfl rfl rfl (Nat.le_of_ble_eq_true rfl) rfl ?_
  refine g_aload_n 47 C 0 dX3_init_46 rfl rfl ?_
  refine g_bipush 49 C dX3_init_47 rfl (by decide) ?_
  refine g_newI 51 C 25 lX3_init_arrI dX3_init_49 rfl (by decide) (Nat.le_of_ble_eq_true rfl) (Nat.le_of_ble_eq_true rfl) ?_
  intro a_jl
  refine g_w (ws' := [(_, .inr (3, [_, _, _, _, _, _, _, _, _, _, _, _, _])), (_, aI _ _ _), (_, aI _ _ _), (_, aI _ _ _), (_, aZ _ _ _), (_, aI _ _ _), (_, aI _ _ _)]) [0, 1, 2] rfl rfl ?_
  refine g_putF (ws' := [(_, .inr (3, [_, _, _, _, _, _, _, _, _, _, _, _, _])), (_, aI _ _ _), (_, aI _ _ _), (_, aI _ _ _), (_, aZ _ _ _), (_, aI _ _ _), (_, aI _ _ _)]) 54 C 0 7 3 tyX3 tyX3_ok nmX3 iX3_init_X3 lX3_init_28 hnm rfl dX3_init_51 rfl rfl rfl (by decide) rfl rfl rfl (Nat.le_of_ble_eq_true rfl) rfl ?_
  refine g_aload_n 55 C 0 dX3_init_54 rfl rfl ?_
  refine g_aload_n 56 C 1 dX3_init_55 rfl rfl ?_
  refine g_putF (ws' := [(_, .inr (3, [_, _, _, _, _, _, _, _, _, _, _, _, _])), (_, aI _ _ _), (_, aI _ _ _), (_, aI _ _ _), (_, aZ _ _ _), (_, aI _ _ _), (_, aI _ _ _)]) 59 C 0 0 3 tyX3 tyX3_ok nmX3 iX3_init_X3 lX3_init_31 hnm rfl dX3_init_56 rfl rfl rfl (by decide) rfl rfl rfl (Nat.le_of_ble_eq_true rfl) rfl ?_
  refine g_aload_n 60 C 0 dX3_init_59 rfl rfl ?_
  refine g_aload_n 61 C 2 dX3_init_60 rfl rfl ?_
  refine g_putF (ws' := [(_, .inr (3, [_, _, _, _, _, _, _, _, _, _, _, _, _])), (_, aI _ _ _), (_, aI _ _ _), (_, aI _ _ _), (_, aZ _ _ _), (_, aI _ _ _), (_, aI _ _ _)]) 64 C 0 1 3 tyX3 tyX3_ok nmX3 iX3_init_X3 lX3_init_35 hnm rfl dX3_init_61 rfl rfl rfl (by decide) rfl rfl rfl (Nat.le_of_ble_eq_true rfl) rfl ?_
  exact g_vret C hr dX3_init_64 ⟨_, _, _, _, _, _, rfl, rfl⟩
end
section
theorem lX1_init_arrI : Cond.arrayClass .int ∈ wsX1_init := by decide +kernel
theorem lX1_init_15 : Cond.fieldLink RX1 15 (TX1 1).1 (TX1 1).2.1 (TX1 1).2.2.1 ∈ wsX1_init := by decide +kernel
theorem lX1_init_9 : Cond.fieldLink RX1 9 (TX1 0).1 (TX1 0).2.1 (TX1 0).2.2.1 ∈ wsX1_init := by decide +kernel
theorem lX1_init_3 : ∀ w ∈ ([Cond.methodLink RX1 3 Lib.objectInit, Cond.instanceMethod Lib.objectInit, Cond.code Lib.objectInit ⟨#[0xb1]⟩ 1 none] : List Cond), w ∈ wsX1_init := by decide +kernel
theorem iX1_init_X1 : ∀ w ∈ u_ws RX1 TX1 4, w ∈ wsX1_init := by decide +kernel
set_option maxHeartbeats 4000000 in
set_option maxRecDepth 100000 in
theorem k_X1_init (E : gE) (l : Launch) {a_P : Nat}   : gMet E l yX1_init wsX1_init { frames := 3, cells := 2, slots := 300, locals := 73 } 2 300 [.ref a_P] [(a_P, .inr (1, [.null, .null, .int (iI 0), .int (iI 0)]))] (fun v w => ∃ (a_hs a_se : Nat) (f : Int → Int), (v = none ∧ ∀ p e : Int, 0 ≤ p ∧ p < 1 * 1 → 0 ≤ e ∧ e < 4 → f (p * 4 + e) = sdI 1 1 p e) ∧ w = [(a_P, .inr (1, [.ref a_hs, .ref a_se, .int (iI 1), .int (iI 1)])), (a_hs, aI E 200 (zrI (fun _ => 0) 200)), (a_se, aI E 100 f)]) := by
  refine g_start (cc := cX1_init) (maxL := 1) (ret := none) (by decide) rfl (Nat.le_of_ble_eq_true rfl) ?_
  intro p_ e_ s_ m_ args_ below_ meth_ c_ A_ C hr hnm
  refine g_aload_n 1 C 0 dX1_init_0 rfl rfl ?_
  refine g_objInit 4 C dX1_init_1 rfl lX1_init_3 (Nat.le_of_ble_eq_true rfl) (Nat.le_of_ble_eq_true rfl) ?_
  refine g_aload_n 5 C 0 dX1_init_4 rfl rfl ?_
  refine g_sipush 8 C dX1_init_5 rfl (by decide) ?_
  refine g_newI 10 C 200 lX1_init_arrI dX1_init_8 rfl (by decide) (Nat.le_of_ble_eq_true rfl) (Nat.le_of_ble_eq_true rfl) ?_
  intro a_hs
  refine g_w (ws' := [(_, .inr (1, [_, _, _, _])), (_, aI _ _ _)]) [0] rfl rfl ?_
  refine g_putF (ws' := [(_, .inr (1, [_, _, _, _])), (_, aI _ _ _)]) 13 C 0 0 1 tyX1 tyX1_ok nmX1 iX1_init_X1 lX1_init_9 hnm rfl dX1_init_10 rfl rfl rfl (by decide) rfl rfl rfl (Nat.le_of_ble_eq_true rfl) rfl ?_
  refine g_aload_n 14 C 0 dX1_init_13 rfl rfl ?_
  refine g_bipush 16 C dX1_init_14 rfl (by decide) ?_
  refine g_newI 18 C 100 lX1_init_arrI dX1_init_16 rfl (by decide) (Nat.le_of_ble_eq_true rfl) (Nat.le_of_ble_eq_true rfl) ?_
  intro a_se
  refine g_w (ws' := [(_, .inr (1, [_, _, _, _])), (_, aI _ _ _), (_, aI _ _ _)]) [0] rfl rfl ?_
  refine g_putF (ws' := [(_, .inr (1, [_, _, _, _])), (_, aI _ _ _), (_, aI _ _ _)]) 21 C 0 1 1 tyX1 tyX1_ok nmX1 iX1_init_X1 lX1_init_15 hnm rfl dX1_init_18 rfl rfl rfl (by decide) rfl rfl rfl (Nat.le_of_ble_eq_true rfl) rfl ?_
  refine g_aload_n 22 C 0 dX1_init_21 rfl rfl ?_
  refine g_iconst 23 C dX1_init_22 rfl ?_
  refine g_iconst 24 C dX1_init_23 rfl ?_
  refine g_callV 27 C [0, 1, 2] dX1_init_24 rfl (k_X1_cutAnew E l  (by first | assumption | omega)) (cwV 2 C.2.2.2.2.1 gX1_init_X1_cutAnew rfl rfl rfl cdX1_cutAnew ⟨Nat.le_of_ble_eq_true rfl, Nat.le_of_ble_eq_true rfl⟩) rfl rfl rfl rfl (Nat.le_of_ble_eq_true rfl) 0 1 rfl rfl rfl ⟨Nat.le_of_ble_eq_true rfl, Nat.le_of_ble_eq_true rfl⟩ (fun v w q => by obtain ⟨f, -, rfl⟩ := q; rfl) ?_
  rintro _ _ ⟨f, ⟨rfl, hSE⟩, rfl⟩
  refine g_w (ws' := [(_, .inr (1, [_, _, _, _])), (_, aI _ _ _), (_, aI _ _ _)]) [0] rfl rfl ?_
  exact g_vret C hr dX1_init_27 ⟨_, _, _, ⟨rfl, hSE⟩, rfl⟩
end
section
/-- the links to the private constructors of nested classes -/
def gNw (U : State) : Prop := va_Nw (.methodLinkNest RX5 20 yX2_init RX5) U ∧ va_Nw (.methodLinkNest RX5 36 yX0_init RX5) U ∧ va_Nw (.methodLinkNest RX5 47 yX4_init RX5) U
theorem gNw.warm {s U : State} (hW : s.WarmedH U.vm) (h : gNw s) : gNw U := ⟨va_Nw.warmM hW h.1, va_Nw.warmM hW h.2.1, va_Nw.warmM hW h.2.2⟩
def gMetN (E : gE) (l : Launch) (y : MethodName) (ws : List Cond) (rm : Room) (mc ms : Nat) (as : List Value) (wIn : va_W) (post : Option Value → va_W → Prop) : Prop := ∀ sz : Nat, Met l y ws rm (va_Pc as (fun U => U.heap.size = sz ∧ va_P E.1 vwCl wIn U.heap ∧ gK E U ∧ va_D (fun _ => True) wIn ∧ gNw U)) (gPost E (va_A wIn sz) post) mc ms (va_A wIn sz)
section GLN
variable {p : Program} {l : Launch} {e : Env} {R : Room} {s : State} {m : MethodId} {args : Array Value} {below : List Frame} {meth : Method} {c : Code} {cells slots : Nat} {Q : State → Prop} {E : gE} {A : Nat → Prop} {nL : Nat} {ws : va_W} {lv : List (Nat × Value)} {pc : Nat} {st : List Value} {cc : ByteArray} {own : String} {Ts : List Cond}
theorem g_startN {y : MethodName} {wsy ws' : List Cond} {rm : Room} {mc ms maxL : Nat} {ret : Option FieldType} {as : List Value} {wIn : va_W} {post : Option Value → va_W → Prop} (hy : plainName y.cls = true) (hw : wsy = Cond.code y cc maxL ret :: ws') (hn : (lg_sl as).length ≤ maxL)
    (body : ∀ (p : Program) (e : Env) (s : State) (m : MethodId) (args : Array Value) (below : List Frame) (meth : Method) (c : Code) (A : Nat → Prop), gC p s m args meth c cc maxL y.cls wsy E A → gNw s → meth.sig.returnType = ret → meth.name = y.name →
      gJ p l e rm s m args below meth c 0 0 (MQ below (gPost E A post) args s mc ms A) E A maxL wIn (lv_args 0 as) 0 []) : gMetN E l y wsy rm mc ms as wIn post := by
  intro sz
  refine Met.ofW (cc := cc) (maxL := maxL) (ret := ret) hy hw ?_
  intro p e s m args below meth c s₁ B hml hv
  obtain ⟨rfl, hsz, hP, hK, hD0, hN⟩ := hv
  subst hsz
  have hD := hD0.self (sz := s.heap.size)
  rw [lg_entry_eq]
  exact body p e s m _ below meth c (va_A wIn s.heap.size) ⟨B.exec, B.bytes, hml, findClass_of_methodNamed B.named, atoms_spec (ws := wsy) B.pre, hK, fun q h => Or.inr h, B.notSynchronized⟩ hN B.returns (name_of_methodNamed B.named B.method).1 s.heap [] _ hP hD va_S.rf (lv_entry as hn)
theorem g_runIn {k mc ms maxL index : Nat} {host : String} {y : MethodName} {bytes : ByteArray} {wsy : List Cond} {rm : Room} {as rest : List Value} {b : Nat} {wc : va_W} {post : Option Value → va_W → Prop} (C : gC p s m args meth c cc nL own Ts E A) (hM : gMet E l y wsy rm mc ms (.ref b :: as) wc post) (cw : va_CN R s args own index y host bytes maxL none wsy rm mc ms k ∧ y.name = "<init>" ∧ (Cond.instanceMethod y).before args s = true) (cu : List Nat) (hcut : cu.map (fun i => ws[i]?) = wc.map some) (hnd : va_nd cu = true) (hst : as.reverse ++ .ref b :: rest = st) (hlen : as.length = k) (hcat : (rest.map fun v => v.category).sum ≤ 8) (hdg : decode cc pc = .ok (.invokespecial index, 3)) (hf : cells + mc ≤ R.cells ∧ slots + ms ≤ R.slots) :
    ∀ (H : Heap) (locs : List Loc) (ls : Array Slot), va_P E.1 vwCl ws H → va_D A ws → lv_has ls nL lv → va_Run p l e R s m args below meth c H locs cells slots mc ms (F0 m pc ls st) rest (gPost E (va_A wc H.size) post (.ref b :: as).toArray) (va_A wc H.size) :=
  fun H locs ls hP hD hl => va_runIN ⟨C.1, C.2.1, C.2.2.1, C.2.2.2.1, C.2.2.2.2.1⟩ (hM H.size) cw ⟨g_blind, fun U hU hW => ⟨rfl, by rw [hU], by rw [hU]; exact g_subP hcut hP, gK.moved hW.alike C.2.2.2.2.2.1, g_preD (H := H) hD hcut hnd⟩⟩ rfl hlen hl.1 hst.symm (lv_room hcat) hdg hf
theorem g_callIn (n' : Nat) {k mc ms maxL index : Nat} {host : String} {y : MethodName} {bytes : ByteArray} {wsy : List Cond} {rm : Room} {as rest : List Value} {b : Nat} {wc : va_W} {post : Option Value → va_W → Prop} (C : gC p s m args meth c cc nL own Ts E A) (cu re : List Nat) (hdg : decode cc pc = .ok (.invokespecial index, 3)) (hp : pc + 3 = n') (hM : gMet E l y wsy rm mc ms (.ref b :: as) wc post) (cw : va_CN R s args own index y host bytes maxL none wsy rm mc ms k ∧ y.name = "<init>" ∧ (Cond.instanceMethod y).before args s = true) (hst : as.reverse ++ .ref b :: rest = st) (hcut : cu.map (fun i => ws[i]?) = wc.map some) (hnd : va_nd cu = true) {wr : va_W} (hre : re.map (fun i => ws[i]?) = wr.map some) (hnr : va_nd re = true) (hdis : ∀ i ∈ re, i ∉ cu) (hlen : as.length = k) (hcat : (rest.map fun v => v.category).sum ≤ 8) (hf : cells + mc ≤ R.cells ∧ slots + ms ≤ R.slots)
    (kk : ∀ v w, post v w → gJ p l e R s m args below meth c (cells + mc) (slots + ms) Q E A nL (wr ++ w) lv n' (v.toList ++ rest)) : gJ p l e R s m args below meth c cells slots Q E A nL ws lv pc st :=
  g_backN n' cu re C hp hcut hre hnr hdis (g_runIn C hM cw cu hcut hnd hst hlen hcat hdg hf) kk
theorem gNw.same {u U : State} (h : u.vm = U.vm) (q : gNw u) : gNw U := ⟨va_Nw.same rfl h q.1, va_Nw.same rfl h q.2.1, va_Nw.same rfl h q.2.2⟩
theorem g_blindN {as : List Value} {sz : Nat} {wc : va_W} : FrameBlind (va_Pc as (fun U => U.heap.size = sz ∧ va_P E.1 vwCl wc U.heap ∧ gK E U ∧ va_D (fun _ => True) wc ∧ gNw U)) := fun a U g mk q => by obtain ⟨q0, q1, qP, qK, qD, qN⟩ := q; exact ⟨q0, q1, qP, gK.moved (u := U) (U := U.calling g mk a) (Vm.Alike.refl U.vm) qK, qD, gNw.same (u := U) (U := U.calling g mk a) rfl qN⟩
theorem g_runIq {k mc ms maxL index : Nat} {y : MethodName} {bytes : ByteArray} {wsy : List Cond} {rm : Room} {as rest : List Value} {b : Nat} {wc : va_W} {post : Option Value → va_W → Prop} (C : gC p s m args meth c cc nL own Ts E A) (hN : gNw s) (hM : gMetN E l y wsy rm mc ms (.ref b :: as) wc post) (cw : CallB R s args own index y bytes maxL none wsy rm mc ms k ∧ y.name = "<init>" ∧ (Cond.instanceMethod y).before args s = true) (cu : List Nat) (hcut : cu.map (fun i => ws[i]?) = wc.map some) (hnd : va_nd cu = true) (hst : as.reverse ++ .ref b :: rest = st) (hlen : as.length = k) (hcat : (rest.map fun v => v.category).sum ≤ 8) (hdg : decode cc pc = .ok (.invokespecial index, 3)) (hf : cells + mc ≤ R.cells ∧ slots + ms ≤ R.slots) :
    ∀ (H : Heap) (locs : List Loc) (ls : Array Slot), va_P E.1 vwCl ws H → va_D A ws → lv_has ls nL lv → va_Run p l e R s m args below meth c H locs cells slots mc ms (F0 m pc ls st) rest (gPost E (va_A wc H.size) post (.ref b :: as).toArray) (va_A wc H.size) :=
  fun H locs ls hP hD hl => va_runI ⟨C.1, C.2.1, C.2.2.1, C.2.2.2.1, C.2.2.2.2.1⟩ (hM H.size) cw ⟨g_blindN, fun U hU hW => ⟨rfl, by rw [hU], by rw [hU]; exact g_subP hcut hP, gK.moved hW.alike C.2.2.2.2.2.1, g_preD (H := H) hD hcut hnd, hN.warm hW⟩⟩ rfl hlen hl.1 hst.symm (lv_room hcat) hdg hf
theorem g_callIq (n' : Nat) {k mc ms maxL index : Nat} {y : MethodName} {bytes : ByteArray} {wsy : List Cond} {rm : Room} {as rest : List Value} {b : Nat} {wc : va_W} {post : Option Value → va_W → Prop} (C : gC p s m args meth c cc nL own Ts E A) (hN : gNw s) (cu re : List Nat) (hdg : decode cc pc = .ok (.invokespecial index, 3)) (hp : pc + 3 = n') (hM : gMetN E l y wsy rm mc ms (.ref b :: as) wc post) (cw : CallB R s args own index y bytes maxL none wsy rm mc ms k ∧ y.name = "<init>" ∧ (Cond.instanceMethod y).before args s = true) (hst : as.reverse ++ .ref b :: rest = st) (hcut : cu.map (fun i => ws[i]?) = wc.map some) (hnd : va_nd cu = true) {wr : va_W} (hre : re.map (fun i => ws[i]?) = wr.map some) (hnr : va_nd re = true) (hdis : ∀ i ∈ re, i ∉ cu) (hlen : as.length = k) (hcat : (rest.map fun v => v.category).sum ≤ 8) (hf : cells + mc ≤ R.cells ∧ slots + ms ≤ R.slots)
    (kk : ∀ v w, post v w → gJ p l e R s m args below meth c (cells + mc) (slots + ms) Q E A nL (wr ++ w) lv n' (v.toList ++ rest)) : gJ p l e R s m args below meth c cells slots Q E A nL ws lv pc st :=
  g_backN n' cu re C hp hcut hre hnr hdis (g_runIq C hN hM cw cu hcut hnd hst hlen hcat hdg hf) kk
end GLN
end
section
theorem cdX0_init : yX0_init.cls ≠ "java/lang/invoke/MethodHandle" ∧ yX0_init.cls ≠ "java/lang/invoke/VarHandle" ∧ (parseMethodDescriptor yX0_init.desc).map (fun d => d.parameters.length) = some 0 := by decide +kernel
theorem cdX1_init : yX1_init.cls ≠ "java/lang/invoke/MethodHandle" ∧ yX1_init.cls ≠ "java/lang/invoke/VarHandle" ∧ (parseMethodDescriptor yX1_init.desc).map (fun d => d.parameters.length) = some 0 := by decide +kernel
theorem cdX2_init : yX2_init.cls ≠ "java/lang/invoke/MethodHandle" ∧ yX2_init.cls ≠ "java/lang/invoke/VarHandle" ∧ (parseMethodDescriptor yX2_init.desc).map (fun d => d.parameters.length) = some 0 := by decide +kernel
theorem cdX3_init : yX3_init.cls ≠ "java/lang/invoke/MethodHandle" ∧ yX3_init.cls ≠ "java/lang/invoke/VarHandle" ∧ (parseMethodDescriptor yX3_init.desc).map (fun d => d.parameters.length) = some 2 := by decide +kernel
theorem cdX4_init : yX4_init.cls ≠ "java/lang/invoke/MethodHandle" ∧ yX4_init.cls ≠ "java/lang/invoke/VarHandle" ∧ (parseMethodDescriptor yX4_init.desc).map (fun d => d.parameters.length) = some 0 := by decide +kernel
theorem lcX5_init_41 : Cond.classLink RX5 41 RX4 ∈ wsX5_init := by decide +kernel
theorem lX5_init_12 : Cond.fieldLink RX5 12 (TX5 0).1 (TX5 0).2.1 (TX5 0).2.2.1 ∈ wsX5_init := by decide +kernel
theorem lX5_init_21 : Cond.fieldLink RX5 21 (TX5 1).1 (TX5 1).2.1 (TX5 1).2.2.1 ∈ wsX5_init := by decide +kernel
theorem lX5_init_30 : Cond.fieldLink RX5 30 (TX5 2).1 (TX5 2).2.1 (TX5 2).2.2.1 ∈ wsX5_init := by decide +kernel
theorem lX5_init_37 : Cond.fieldLink RX5 37 (TX5 3).1 (TX5 3).2.1 (TX5 3).2.2.1 ∈ wsX5_init := by decide +kernel
theorem lX5_init_43 : Cond.fieldLink RX5 43 (TX5 4).1 (TX5 4).2.1 (TX5 4).2.2.1 ∈ wsX5_init := by decide +kernel
theorem lX5_init_20 : Cond.initialized yX2_init.cls ∈ wsX5_init ∧ Cond.instanceMethod yX2_init ∈ wsX5_init := by decide +kernel
theorem lX5_init_36 : Cond.initialized yX0_init.cls ∈ wsX5_init ∧ Cond.instanceMethod yX0_init ∈ wsX5_init := by decide +kernel
theorem lX5_init_47 : Cond.initialized yX4_init.cls ∈ wsX5_init ∧ Cond.instanceMethod yX4_init ∈ wsX5_init := by decide +kernel
theorem lX5_init_11 : Cond.initialized yX1_init.cls ∈ wsX5_init ∧ Cond.methodLink RX5 11 yX1_init ∈ wsX5_init ∧ Cond.instanceMethod yX1_init ∈ wsX5_init := by decide +kernel
theorem lX5_init_27 : Cond.initialized yX3_init.cls ∈ wsX5_init ∧ Cond.methodLink RX5 27 yX3_init ∈ wsX5_init ∧ Cond.instanceMethod yX3_init ∈ wsX5_init := by decide +kernel
theorem lX5_init_18 : ∀ w ∈ ([Cond.classLink RX5 18 RX2, Cond.instantiable RX2 3, Cond.initialized RX2] : List Cond), w ∈ wsX5_init := by decide +kernel
theorem lX5_init_25 : ∀ w ∈ ([Cond.classLink RX5 25 RX3, Cond.instantiable RX3 13, Cond.initialized RX3] : List Cond), w ∈ wsX5_init := by decide +kernel
theorem lX5_init_34 : ∀ w ∈ ([Cond.classLink RX5 34 RX0, Cond.instantiable RX0 1, Cond.initialized RX0] : List Cond), w ∈ wsX5_init := by decide +kernel
theorem lX5_init_41 : ∀ w ∈ ([Cond.classLink RX5 41 RX4, Cond.instantiable RX4 4, Cond.initialized RX4] : List Cond), w ∈ wsX5_init := by decide +kernel
theorem lX5_init_9 : ∀ w ∈ ([Cond.classLink RX5 9 RX1, Cond.instantiable RX1 4, Cond.initialized RX1] : List Cond), w ∈ wsX5_init := by decide +kernel
theorem lX5_init_3 : ∀ w ∈ ([Cond.methodLink RX5 3 Lib.objectInit, Cond.instanceMethod Lib.objectInit, Cond.code Lib.objectInit ⟨#[0xb1]⟩ 1 none] : List Cond), w ∈ wsX5_init := by decide +kernel
theorem iX5_init_X0 : ∀ w ∈ u_ws RX0 TX0 1, w ∈ wsX5_init := by decide +kernel
theorem iX5_init_X1 : ∀ w ∈ u_ws RX1 TX1 4, w ∈ wsX5_init := by decide +kernel
theorem iX5_init_X2 : ∀ w ∈ u_ws RX2 TX2 3, w ∈ wsX5_init := by decide +kernel
theorem iX5_init_X3 : ∀ w ∈ u_ws RX3 TX3 13, w ∈ wsX5_init := by decide +kernel
theorem iX5_init_X4 : ∀ w ∈ u_ws RX4 TX4 4, w ∈ wsX5_init := by decide +kernel
theorem iX5_init_X5 : ∀ w ∈ u_ws RX5 TX5 7, w ∈ wsX5_init := by decide +kernel
set_option maxHeartbeats 4000000 in
set_option maxRecDepth 100000 in
theorem k_X5_init (E : gE) (l : Launch) {a_X : Nat}   : gMetN E l yX5_init wsX5_init { frames := 4, cells := 23, slots := 1566, locals := 93 } 23 1566 [.ref a_X] [(a_X, .inr (5, [.null, .null, .null, .null, .null, .int (iI 0), .int (iI 0)]))] (fun v w => ∃ (a_P a_hs a_se a_L a_pc a_tn a_R a_sh a_fi a_wa a_us a_ly a_jl a_D a_Q a_S0 a_ce0 a_S1 a_ce1 a_S2 a_ce2 a_S3 a_ce3 : Nat) (f : Int → Int), (v = none ∧ ∀ p e : Int, 0 ≤ p ∧ p < 1 * 1 → 0 ≤ e ∧ e < 4 → f (p * 4 + e) = sdI 1 1 p e) ∧ w = [(a_X, .inr (5, [.ref a_P, .ref a_L, .ref a_R, .ref a_D, .ref a_Q, .int (iI 0), .int (iI 0)])), (a_P, .inr (1, [.ref a_hs, .ref a_se, .int (iI 1), .int (iI 1)])), (a_hs, aI E 200 (zrI (fun _ => 0) 200)), (a_se, aI E 100 f), (a_L, .inr (2, [.ref a_pc, .ref a_tn, .int (iI 0)])), (a_pc, aI E 25 (fun _ => 0)), (a_tn, aI E 25 (fun _ => 0)), (a_R, .inr (3, [.ref a_P, .ref a_L, .ref a_sh, .ref a_fi, .ref a_wa, .ref a_us, .ref a_ly, .ref a_jl, .int (iI 0), .int (iI 0), .int (iI 0), .int (iI 0), .int (iI 0)])), (a_sh, aI E 400 (fun _ => 0)), (a_fi, aI E 400 (fun _ => 0)), (a_wa, aI E 100 (fun _ => 0)), (a_us, aZ E 25 (fun _ => 0)), (a_ly, aI E 25 (fun _ => 0)), (a_jl, aI E 25 (fun _ => 0)), (a_D, .inr (0, [.long 0])), (a_Q, aQ E 4 (uQ (uQ (uQ (uQ (fun _ => none) 0 (some a_S0)) 1 (some a_S1)) 2 (some a_S2)) 3 (some a_S3))), (a_S0, .inr (4, [.ref a_ce0, .int (iI 0), .int (iI 0), .int (iI 0)])), (a_ce0, aI E 50 (fun _ => 0)), (a_S1, .inr (4, [.ref a_ce1, .int (iI 0), .int (iI 0), .int (iI 0)])), (a_ce1, aI E 50 (fun _ => 0)), (a_S2, .inr (4, [.ref a_ce2, .int (iI 0), .int (iI 0), .int (iI 0)])), (a_ce2, aI E 50 (fun _ => 0)), (a_S3, .inr (4, [.ref a_ce3, .int (iI 0), .int (iI 0), .int (iI 0)])), (a_ce3, aI E 50 (fun _ => 0))]) := by
  refine g_startN (cc := cX5_init) (maxL := 2) (ret := none) (by decide) rfl (Nat.le_of_ble_eq_true rfl) ?_
  intro p_ e_ s_ m_ args_ below_ meth_ c_ A_ C NW hr hnm
  refine g_aload_n 1 C 0 dX5_init_0 rfl rfl ?_
  refine g_objInit 4 C dX5_init_1 rfl lX5_init_3 (Nat.le_of_ble_eq_true rfl) (Nat.le_of_ble_eq_true rfl) ?_
  refine g_aload_n 5 C 0 dX5_init_4 rfl rfl ?_
  refine g_new 8 C 1 [.null, .null, .int (iI 0), .int (iI 0)] tyX1 tyX1_ok iX5_init_X1 lX5_init_9 dX5_init_5 rfl rfl (fun j hj => by rcases (show j = 0 ∨ j = 1 ∨ j = 2 ∨ j = 3 by omega) with rfl | rfl | rfl | rfl <;> rfl) (Nat.le_of_ble_eq_true rfl) (Nat.le_of_ble_eq_true rfl) ?_
  intro a_P
  refine g_w (ws' := [(_, .inr (5, [_, _, _, _, _, _, _])), (_, .inr (1, [_, _, _, _]))]) [0] rfl rfl ?_
  refine g_dup 9 C dX5_init_8 rfl rfl ?_
  have q9 := lX5_init_11
  refine g_callIN (wr := [(_, .inr (5, [_, _, _, _, _, _, _]))]) 12 C [1] [0] dX5_init_9 rfl (k_X1_init E l ) (cwI 0 C.2.2.2.2.1 gX5_init_X1_init rfl rfl rfl (C.2.2.2.2.1 _ q9.1) (C.2.2.2.2.1 _ q9.2.1) (C.2.2.2.2.1 _ q9.2.2) rfl cdX1_init ⟨Nat.le_of_ble_eq_true rfl, Nat.le_of_ble_eq_true rfl⟩) rfl rfl rfl rfl rfl (by decide) rfl (Nat.le_of_ble_eq_true rfl) ⟨Nat.le_of_ble_eq_true rfl, Nat.le_of_ble_eq_true rfl⟩ ?_
  rintro _ _ ⟨a_hs, a_se, f_9, ⟨rfl, hse_9⟩, rfl⟩
  refine g_w (ws' := [(_, .inr (5, [_, _, _, _, _, _, _])), (_, .inr (1, [_, _, _, _])), (_, aI _ _ _), (_, aI _ _ _)]) [0] rfl rfl ?_
  refine g_putF (ws' := [(_, .inr (5, [_, _, _, _, _, _, _])), (_, .inr (1, [_, _, _, _])), (_, aI _ _ _), (_, aI _ _ _)]) 15 C 0 0 5 tyX5 tyX5_ok nmX5 iX5_init_X5 lX5_init_12 hnm rfl dX5_init_12 rfl rfl rfl (by decide) rfl rfl rfl (Nat.le_of_ble_eq_true rfl) rfl ?_
  refine g_aload_n 16 C 0 dX5_init_15 rfl rfl ?_
  refine g_new 19 C 2 [.null, .null, .int (iI 0)] tyX2 tyX2_ok iX5_init_X2 lX5_init_18 dX5_init_16 rfl rfl (fun j hj => by rcases (show j = 0 ∨ j = 1 ∨ j = 2 by omega) with rfl | rfl | rfl <;> rfl) (Nat.le_of_ble_eq_true rfl) (Nat.le_of_ble_eq_true rfl) ?_
  intro a_L
  refine g_w (ws' := [(_, .inr (5, [_, _, _, _, _, _, _])), (_, .inr (1, [_, _, _, _])), (_, aI _ _ _), (_, aI _ _ _), (_, .inr (2, [_, _, _]))]) [0] rfl rfl ?_
  refine g_dup 20 C dX5_init_19 rfl rfl ?_
  refine g_callIn (wr := [(_, .inr (5, [_, _, _, _, _, _, _])), (_, .inr (1, [_, _, _, _])), (_, aI _ _ _), (_, aI _ _ _)]) 23 C [4] [0, 1, 2, 3] dX5_init_20 rfl (k_X2_init E l ) ⟨va_cnB 0 C.2.2.2.2.1 gX5_init_X2_init_n20 rfl rfl rfl NW.1 (C.2.2.2.2.1 _ lX5_init_20.1) cdX2_init ⟨Nat.le_of_ble_eq_true rfl, Nat.le_of_ble_eq_true rfl⟩, rfl, C.2.2.2.2.1 _ lX5_init_20.2⟩ rfl rfl rfl rfl rfl (by decide) rfl (Nat.le_of_ble_eq_true rfl) ⟨Nat.le_of_ble_eq_true rfl, Nat.le_of_ble_eq_true rfl⟩ ?_
  rintro _ _ ⟨a_pc, a_tn, rfl, rfl⟩
  refine g_w (ws' := [(_, .inr (5, [_, _, _, _, _, _, _])), (_, .inr (1, [_, _, _, _])), (_, aI _ _ _), (_, aI _ _ _), (_, .inr (2, [_, _, _])), (_, aI _ _ _), (_, aI _ _ _)]) [0] rfl rfl ?_
  refine g_putF (ws' := [(_, .inr (5, [_, _, _, _, _, _, _])), (_, .inr (1, [_, _, _, _])), (_, aI _ _ _), (_, aI _ _ _), (_, .inr (2, [_, _, _])), (_, aI _ _ _), (_, aI _ _ _)]) 26 C 0 1 5 tyX5 tyX5_ok nmX5 iX5_init_X5 lX5_init_21 hnm rfl dX5_init_23 rfl rfl rfl (by decide) rfl rfl rfl (Nat.le_of_ble_eq_true rfl) rfl ?_
  refine g_aload_n 27 C 0 dX5_init_26 rfl rfl ?_
  refine g_new 30 C 3 [.null, .null, .null, .null, .null, .null, .null, .null, .int (iI 0), .int (iI 0), .int (iI 0), .int (iI 0), .int (iI 0)] tyX3 tyX3_ok iX5_init_X3 lX5_init_25 dX5_init_27 rfl rfl (fun j hj => by rcases (show j = 0 ∨ j = 1 ∨ j = 2 ∨ j = 3 ∨ j = 4 ∨ j = 5 ∨ j = 6 ∨ j = 7 ∨ j = 8 ∨ j = 9 ∨ j = 10 ∨ j = 11 ∨ j = 12 by omega) with rfl | rfl | rfl | rfl | rfl | rfl | rfl | rfl | rfl | rfl | rfl | rfl | rfl <;> rfl) (Nat.le_of_ble_eq_true rfl) (Nat.le_of_ble_eq_true rfl) ?_
  intro a_R
  refine g_w (ws' := [(_, .inr (5, [_, _, _, _, _, _, _])), (_, .inr (1, [_, _, _, _])), (_, aI _ _ _), (_, aI _ _ _), (_, .inr (2, [_, _, _])), (_, aI _ _ _), (_, aI _ _ _), (_, .inr (3, [_, _, _, _, _, _, _, _, _, _, _, _, _]))]) [0] rfl rfl ?_
  refine g_dup 31 C dX5_init_30 rfl rfl ?_
  refine g_aload_n 32 C 0 dX5_init_31 rfl rfl ?_
  refine g_get 35 C 0 0 5 iX5_init_X5 lX5_init_12 dX5_init_32 rfl rfl rfl (by decide) rfl ?_
  refine g_aload_n 36 C 0 dX5_init_35 rfl rfl ?_
  refine g_get 39 C 0 1 5 iX5_init_X5 lX5_init_21 dX5_init_36 rfl rfl rfl (by decide) rfl ?_
  have q39 := lX5_init_27
  refine g_callIN (wr := [(_, .inr (5, [_, _, _, _, _, _, _])), (_, .inr (1, [_, _, _, _])), (_, aI _ _ _), (_, aI _ _ _), (_, .inr (2, [_, _, _])), (_, aI _ _ _), (_, aI _ _ _)]) 42 C [7] [0, 1, 2, 3, 4, 5, 6] dX5_init_39 rfl (k_X3_init E l ) (cwI 2 C.2.2.2.2.1 gX5_init_X3_init rfl rfl rfl (C.2.2.2.2.1 _ q39.1) (C.2.2.2.2.1 _ q39.2.1) (C.2.2.2.2.1 _ q39.2.2) rfl cdX3_init ⟨Nat.le_of_ble_eq_true rfl, Nat.le_of_ble_eq_true rfl⟩) rfl rfl rfl rfl rfl (by decide) rfl (Nat.le_of_ble_eq_true rfl) ⟨Nat.le_of_ble_eq_true rfl, Nat.le_of_ble_eq_true rfl⟩ ?_
  rintro _ _ ⟨a_sh, a_fi, a_wa, a_us, a_ly, a_jl, rfl, rfl⟩
  refine g_w (ws' := [(_, .inr (5, [_, _, _, _, _, _, _])), (_, .inr (1, [_, _, _, _])), (_, aI _ _ _), (_, aI _ _ _), (_, .inr (2, [_, _, _])), (_, aI _ _ _), (_, aI _ _ _), (_, .inr (3, [_, _, _, _, _, _, _, _, _, _, _, _, _])), (_, aI _ _ _), (_, aI _ _ _), (_, aI _ _ _), (_, aZ _ _ _), (_, aI _ _ _), (_, aI _ _ _)]) [0] rfl rfl ?_
  refine g_putF (ws' := [(_, .inr (5, [_, _, _, _, _, _, _])), (_, .inr (1, [_, _, _, _])), (_, aI _ _ _), (_, aI _ _ _), (_, .inr (2, [_, _, _])), (_, aI _ _ _), (_, aI _ _ _), (_, .inr (3, [_, _, _, _, _, _, _, _, _, _, _, _, _])), (_, aI _ _ _), (_, aI _ _ _), (_, aI _ _ _), (_, aZ _ _ _), (_, aI _ _ _), (_, aI _ _ _)]) 45 C 0 2 5 tyX5 tyX5_ok nmX5 iX5_init_X5 lX5_init_30 hnm rfl dX5_init_42 rfl rfl rfl (by decide) rfl rfl rfl (Nat.le_of_ble_eq_true rfl) rfl ?_
  refine g_aload_n 46 C 0 dX5_init_45 rfl rfl ?_
  refine g_new 49 C 0 [.long 0] tyX0 tyX0_ok iX5_init_X0 lX5_init_34 dX5_init_46 rfl rfl (fun j hj => by rcases (show j = 0 by omega) with rfl <;> rfl) (Nat.le_of_ble_eq_true rfl) (Nat.le_of_ble_eq_true rfl) ?_
  intro a_D
  refine g_w (ws' := [(_, .inr (5, [_, _, _, _, _, _, _])), (_, .inr (1, [_, _, _, _])), (_, aI _ _ _), (_, aI _ _ _), (_, .inr (2, [_, _, _])), (_, aI _ _ _), (_, aI _ _ _), (_, .inr (3, [_, _, _, _, _, _, _, _, _, _, _, _, _])), (_, aI _ _ _), (_, aI _ _ _), (_, aI _ _ _), (_, aZ _ _ _), (_, aI _ _ _), (_, aI _ _ _), (_, .inr (0, [_]))]) [0] rfl rfl ?_
  refine g_dup 50 C dX5_init_49 rfl rfl ?_
  refine g_callIn (wr := [(_, .inr (5, [_, _, _, _, _, _, _])), (_, .inr (1, [_, _, _, _])), (_, aI _ _ _), (_, aI _ _ _), (_, .inr (2, [_, _, _])), (_, aI _ _ _), (_, aI _ _ _), (_, .inr (3, [_, _, _, _, _, _, _, _, _, _, _, _, _])), (_, aI _ _ _), (_, aI _ _ _), (_, aI _ _ _), (_, aZ _ _ _), (_, aI _ _ _), (_, aI _ _ _)]) 53 C [14] [0, 1, 2, 3, 4, 5, 6, 7, 8, 9, 10, 11, 12, 13] dX5_init_50 rfl (k_X0_init E l ) ⟨va_cnB 0 C.2.2.2.2.1 gX5_init_X0_init_n36 rfl rfl rfl NW.2.1 (C.2.2.2.2.1 _ lX5_init_36.1) cdX0_init ⟨Nat.le_of_ble_eq_true rfl, Nat.le_of_ble_eq_true rfl⟩, rfl, C.2.2.2.2.1 _ lX5_init_36.2⟩ rfl rfl rfl rfl rfl (by decide) rfl (Nat.le_of_ble_eq_true rfl) ⟨Nat.le_of_ble_eq_true rfl, Nat.le_of_ble_eq_true rfl⟩ ?_
  rintro _ _ ⟨rfl, rfl⟩
  refine g_w (ws' := [(_, .inr (5, [_, _, _, _, _, _, _])), (_, .inr (1, [_, _, _, _])), (_, aI _ _ _), (_, aI _ _ _), (_, .inr (2, [_, _, _])), (_, aI _ _ _), (_, aI _ _ _), (_, .inr (3, [_, _, _, _, _, _, _, _, _, _, _, _, _])), (_, aI _ _ _), (_, aI _ _ _), (_, aI _ _ _), (_, aZ _ _ _), (_, aI _ _ _), (_, aI _ _ _), (_, .inr (0, [_]))]) [0] rfl rfl ?_
  refine g_putF (ws' := [(_, .inr (5, [_, _, _, _, _, _, _])), (_, .inr (1, [_, _, _, _])), (_, aI _ _ _), (_, aI _ _ _), (_, .inr (2, [_, _, _])), (_, aI _ _ _), (_, aI _ _ _), (_, .inr (3, [_, _, _, _, _, _, _, _, _, _, _, _, _])), (_, aI _ _ _), (_, aI _ _ _), (_, aI _ _ _), (_, aZ _ _ _), (_, aI _ _ _), (_, aI _ _ _), (_, .inr (0, [_]))]) 56 C 0 3 5 tyX5 tyX5_ok nmX5 iX5_init_X5 lX5_init_37 hnm rfl dX5_init_53 rfl rfl rfl (by decide) rfl rfl rfl (Nat.le_of_ble_eq_true rfl) rfl ?_
  refine g_aload_n 57 C 0 dX5_init_56 rfl rfl ?_
  refine g_iconst 58 C dX5_init_57 rfl ?_
  refine g_newQ 61 C 4 lcX5_init_41 dX5_init_58 rfl (by decide) (Nat.le_of_ble_eq_true rfl) (Nat.le_of_ble_eq_true rfl) ?_
  intro a_Q
  refine g_w (ws' := [(_, .inr (5, [_, _, _, _, _, _, _])), (_, .inr (1, [_, _, _, _])), (_, aI _ _ _), (_, aI _ _ _), (_, .inr (2, [_, _, _])), (_, aI _ _ _), (_, aI _ _ _), (_, .inr (3, [_, _, _, _, _, _, _, _, _, _, _, _, _])), (_, aI _ _ _), (_, aI _ _ _), (_, aI _ _ _), (_, aZ _ _ _), (_, aI _ _ _), (_, aI _ _ _), (_, .inr (0, [_])), (_, aQ _ _ _)]) [0] rfl rfl ?_
  refine g_putF (ws' := [(_, .inr (5, [_, _, _, _, _, _, _])), (_, .inr (1, [_, _, _, _])), (_, aI _ _ _), (_, aI _ _ _), (_, .inr (2, [_, _, _])), (_, aI _ _ _), (_, aI _ _ _), (_, .inr (3, [_, _, _, _, _, _, _, _, _, _, _, _, _])), (_, aI _ _ _), (_, aI _ _ _), (_, aI _ _ _), (_, aZ _ _ _), (_, aI _ _ _), (_, aI _ _ _), (_, .inr (0, [_])), (_, aQ _ _ _)]) 64 C 0 4 5 tyX5 tyX5_ok nmX5 iX5_init_X5 lX5_init_43 hnm rfl dX5_init_61 rfl rfl rfl (by decide) rfl rfl rfl (Nat.le_of_ble_eq_true rfl) rfl ?_
  refine g_iconst 65 C dX5_init_64 rfl ?_
  refine g_istore_n (lv' := [(1, _), (0, _)]) 66 C dX5_init_65 rfl rfl (by decide) rfl ?_
  refine g_iload_n 67 C 0 dX5_init_66 rfl rfl ?_
  refine g_aload_n 68 C 1 dX5_init_67 rfl rfl ?_
  refine g_get 71 C 0 4 5 iX5_init_X5 lX5_init_43 dX5_init_68 rfl rfl rfl (by decide) rfl ?_
  refine g_alenQ 72 C 15 dX5_init_71 rfl rfl ?_
  refine g_icmp_ge 94 75 C dX5_init_72 (by decide) rfl (by omega) (fun q => absurd q (by omega)) ?_
  intro _
  refine g_aload_n 76 C 1 dX5_init_75 rfl rfl ?_
  refine g_get 79 C 0 4 5 iX5_init_X5 lX5_init_43 dX5_init_76 rfl rfl rfl (by decide) rfl ?_
  refine g_iload_n 80 C 0 dX5_init_79 rfl rfl ?_
  refine g_new 83 C 4 [.null, .int (iI 0), .int (iI 0), .int (iI 0)] tyX4 tyX4_ok iX5_init_X4 lX5_init_41 dX5_init_80 rfl rfl (fun j hj => by rcases (show j = 0 ∨ j = 1 ∨ j = 2 ∨ j = 3 by omega) with rfl | rfl | rfl | rfl <;> rfl) (Nat.le_of_ble_eq_true rfl) (Nat.le_of_ble_eq_true rfl) ?_
  intro a_S0
  refine g_w (ws' := [(_, .inr (5, [_, _, _, _, _, _, _])), (_, .inr (1, [_, _, _, _])), (_, aI _ _ _), (_, aI _ _ _), (_, .inr (2, [_, _, _])), (_, aI _ _ _), (_, aI _ _ _), (_, .inr (3, [_, _, _, _, _, _, _, _, _, _, _, _, _])), (_, aI _ _ _), (_, aI _ _ _), (_, aI _ _ _), (_, aZ _ _ _), (_, aI _ _ _), (_, aI _ _ _), (_, .inr (0, [_])), (_, aQ _ _ _), (_, .inr (4, [_, _, _, _]))]) [0, 1] rfl rfl ?_
  refine g_dup 84 C dX5_init_83 rfl rfl ?_
  refine g_callIn (wr := [(_, .inr (5, [_, _, _, _, _, _, _])), (_, .inr (1, [_, _, _, _])), (_, aI _ _ _), (_, aI _ _ _), (_, .inr (2, [_, _, _])), (_, aI _ _ _), (_, aI _ _ _), (_, .inr (3, [_, _, _, _, _, _, _, _, _, _, _, _, _])), (_, aI _ _ _), (_, aI _ _ _), (_, aI _ _ _), (_, aZ _ _ _), (_, aI _ _ _), (_, aI _ _ _), (_, .inr (0, [_])), (_, aQ _ _ _)]) 87 C [16] [0, 1, 2, 3, 4, 5, 6, 7, 8, 9, 10, 11, 12, 13, 14, 15] dX5_init_84 rfl (k_X4_init E l ) ⟨va_cnB 0 C.2.2.2.2.1 gX5_init_X4_init_n47 rfl rfl rfl NW.2.2 (C.2.2.2.2.1 _ lX5_init_47.1) cdX4_init ⟨Nat.le_of_ble_eq_true rfl, Nat.le_of_ble_eq_true rfl⟩, rfl, C.2.2.2.2.1 _ lX5_init_47.2⟩ rfl rfl rfl rfl rfl (by decide) rfl (Nat.le_of_ble_eq_true rfl) ⟨Nat.le_of_ble_eq_true rfl, Nat.le_of_ble_eq_true rfl⟩ ?_
  rintro _ _ ⟨a_ce0, rfl, rfl⟩
  refine g_w (ws' := [(_, .inr (5, [_, _, _, _, _, _, _])), (_, .inr (1, [_, _, _, _])), (_, aI _ _ _), (_, aI _ _ _), (_, .inr (2, [_, _, _])), (_, aI _ _ _), (_, aI _ _ _), (_, .inr (3, [_, _, _, _, _, _, _, _, _, _, _, _, _])), (_, aI _ _ _), (_, aI _ _ _), (_, aI _ _ _), (_, aZ _ _ _), (_, aI _ _ _), (_, aI _ _ _), (_, .inr (0, [_])), (_, aQ _ _ _), (_, .inr (4, [_, _, _, _])), (_, aI _ _ _)]) [0, 1] rfl rfl ?_
  refine g_aastore (ws' := [(_, .inr (5, [_, _, _, _, _, _, _])), (_, .inr (1, [_, _, _, _])), (_, aI _ _ _), (_, aI _ _ _), (_, .inr (2, [_, _, _])), (_, aI _ _ _), (_, aI _ _ _), (_, .inr (3, [_, _, _, _, _, _, _, _, _, _, _, _, _])), (_, aI _ _ _), (_, aI _ _ _), (_, aI _ _ _), (_, aZ _ _ _), (_, aI _ _ _), (_, aI _ _ _), (_, .inr (0, [_])), (_, aQ _ _ _), (_, .inr (4, [_, _, _, _])), (_, aI _ _ _)]) 88 C 15 16 dX5_init_87 rfl rfl rfl (by omega) rfl ?_
  refine g_iinc (lv' := [(1, .int (iI 1)), (0, _)]) 91 C 0 dX5_init_88 rfl rfl (by decide) rfl ?_
  refine g_goto 66 C dX5_init_91 (by decide) ?_
  refine g_iload_n 67 C 0 dX5_init_66 rfl rfl ?_
  refine g_aload_n 68 C 1 dX5_init_67 rfl rfl ?_
  refine g_get 71 C 0 4 5 iX5_init_X5 lX5_init_43 dX5_init_68 rfl rfl rfl (by decide) rfl ?_
  refine g_alenQ 72 C 15 dX5_init_71 rfl rfl ?_
  refine g_icmp_ge 94 75 C dX5_init_72 (by decide) rfl (by omega) (fun q => absurd q (by omega)) ?_
  intro _
  refine g_aload_n 76 C 1 dX5_init_75 rfl rfl ?_
  refine g_get 79 C 0 4 5 iX5_init_X5 lX5_init_43 dX5_init_76 rfl rfl rfl (by decide) rfl ?_
  refine g_iload_n 80 C 0 dX5_init_79 rfl rfl ?_
  refine g_new 83 C 4 [.null, .int (iI 0), .int (iI 0), .int (iI 0)] tyX4 tyX4_ok iX5_init_X4 lX5_init_41 dX5_init_80 rfl rfl (fun j hj => by rcases (show j = 0 ∨ j = 1 ∨ j = 2 ∨ j = 3 by omega) with rfl | rfl | rfl | rfl <;> rfl) (Nat.le_of_ble_eq_true rfl) (Nat.le_of_ble_eq_true rfl) ?_
  intro a_S1
  refine g_w (ws' := [(_, .inr (5, [_, _, _, _, _, _, _])), (_, .inr (1, [_, _, _, _])), (_, aI _ _ _), (_, aI _ _ _), (_, .inr (2, [_, _, _])), (_, aI _ _ _), (_, aI _ _ _), (_, .inr (3, [_, _, _, _, _, _, _, _, _, _, _, _, _])), (_, aI _ _ _), (_, aI _ _ _), (_, aI _ _ _), (_, aZ _ _ _), (_, aI _ _ _), (_, aI _ _ _), (_, .inr (0, [_])), (_, aQ _ _ _), (_, .inr (4, [_, _, _, _])), (_, aI _ _ _), (_, .inr (4, [_, _, _, _]))]) [0, 1] rfl rfl ?_
  refine g_dup 84 C dX5_init_83 rfl rfl ?_
  refine g_callIn (wr := [(_, .inr (5, [_, _, _, _, _, _, _])), (_, .inr (1, [_, _, _, _])), (_, aI _ _ _), (_, aI _ _ _), (_, .inr (2, [_, _, _])), (_, aI _ _ _), (_, aI _ _ _), (_, .inr (3, [_, _, _, _, _, _, _, _, _, _, _, _, _])), (_, aI _ _ _), (_, aI _ _ _), (_, aI _ _ _), (_, aZ _ _ _), (_, aI _ _ _), (_, aI _ _ _), (_, .inr (0, [_])), (_, aQ _ _ _), (_, .inr (4, [_, _, _, _])), (_, aI _ _ _)]) 87 C [18] [0, 1, 2, 3, 4, 5, 6, 7, 8, 9, 10, 11, 12, 13, 14, 15, 16, 17] dX5_init_84 rfl (k_X4_init E l ) ⟨va_cnB 0 C.2.2.2.2.1 gX5_init_X4_init_n47 rfl rfl rfl NW.2.2 (C.2.2.2.2.1 _ lX5_init_47.1) cdX4_init ⟨Nat.le_of_ble_eq_true rfl, Nat.le_of_ble_eq_true rfl⟩, rfl, C.2.2.2.2.1 _ lX5_init_47.2⟩ rfl rfl rfl rfl rfl (by decide) rfl (Nat.le_of_ble_eq_true rfl) ⟨Nat.le_of_ble_eq_true rfl, Nat.le_of_ble_eq_true rfl⟩ ?_
  rintro _ _ ⟨a_ce1, rfl, rfl⟩
  refine g_w (ws' := [(_, .inr (5, [_, _, _, _, _, _, _])), (_, .inr (1, [_, _, _, _])), (_, aI _ _ _), (_, aI _ _ _), (_, .inr (2, [_, _, _])), (_, aI _ _ _), (_, aI _ _ _), (_, .inr (3, [_, _, _, _, _, _, _, _, _, _, _, _, _])), (_, aI _ _ _), (_, aI _ _ _), (_, aI _ _ _), (_, aZ _ _ _), (_, aI _ _ _), (_, aI _ _ _), (_, .inr (0, [_])), (_, aQ _ _ _), (_, .inr (4, [_, _, _, _])), (_, aI _ _ _), (_, .inr (4, [_, _, _, _])), (_, aI _ _ _)]) [0, 1] rfl rfl ?_
  refine g_aastore (ws' := [(_, .inr (5, [_, _, _, _, _, _, _])), (_, .inr (1, [_, _, _, _])), (_, aI _ _ _), (_, aI _ _ _), (_, .inr (2, [_, _, _])), (_, aI _ _ _), (_, aI _ _ _), (_, .inr (3, [_, _, _, _, _, _, _, _, _, _, _, _, _])), (_, aI _ _ _), (_, aI _ _ _), (_, aI _ _ _), (_, aZ _ _ _), (_, aI _ _ _), (_, aI _ _ _), (_, .inr (0, [_])), (_, aQ _ _ _), (_, .inr (4, [_, _, _, _])), (_, aI _ _ _), (_, .inr (4, [_, _, _, _])), (_, aI _ _ _)]) 88 C 15 18 dX5_init_87 rfl rfl rfl (by omega) rfl ?_
  refine g_iinc (lv' := [(1, .int (iI 2)), (0, _)]) 91 C 0 dX5_init_88 rfl rfl (by decide) rfl ?_
  refine g_goto 66 C dX5_init_91 (by decide) ?_
  refine g_iload_n 67 C 0 dX5_init_66 rfl rfl ?_
  refine g_aload_n 68 C 1 dX5_init_67 rfl rfl ?_
  refine g_get 71 C 0 4 5 iX5_init_X5 lX5_init_43 dX5_init_68 rfl rfl rfl (by decide) rfl ?_
  refine g_alenQ 72 C 15 dX5_init_71 rfl rfl ?_
  refine g_icmp_ge 94 75 C dX5_init_72 (by decide) rfl (by omega) (fun q => absurd q (by omega)) ?_
  intro _
  refine g_aload_n 76 C 1 dX5_init_75 rfl rfl ?_
  refine g_get 79 C 0 4 5 iX5_init_X5 lX5_init_43 dX5_init_76 rfl rfl rfl (by decide) rfl ?_
  refine g_iload_n 80 C 0 dX5_init_79 rfl rfl ?_
  refine g_new 83 C 4 [.null, .int (iI 0), .int (iI 0), .int (iI 0)] tyX4 tyX4_ok iX5_init_X4 lX5_init_41 dX5_init_80 rfl rfl (fun j hj => by rcases (show j = 0 ∨ j = 1 ∨ j = 2 ∨ j = 3 by omega) with rfl | rfl | rfl | rfl <;> rfl) (Nat.le_of_ble_eq_true rfl) (Nat.le_of_ble_eq_true rfl) ?_
  intro a_S2
  refine g_w (ws' := [(_, .inr (5, [_, _, _, _, _, _, _])), (_, .inr (1, [_, _, _, _])), (_, aI _ _ _), (_, aI _ _ _), (_, .inr (2, [_, _, _])), (_, aI _ _ _), (_, aI _ _ _), (_, .inr (3, [_, _, _, _, _, _, _, _, _, _, _, _, _])), (_, aI _ _ _), (_, aI _ _ _), (_, aI _ _ _), (_, aZ _ _ _), (_, aI _ _ _), (_, aI _ _ _), (_, .inr (0, [_])), (_, aQ _ _ _), (_, .inr (4, [_, _, _, _])), (_, aI _ _ _), (_, .inr (4, [_, _, _, _])), (_, aI _ _ _), (_, .inr (4, [_, _, _, _]))]) [0, 1] rfl rfl ?_
  refine g_dup 84 C dX5_init_83 rfl rfl ?_
  refine g_callIn (wr := [(_, .inr (5, [_, _, _, _, _, _, _])), (_, .inr (1, [_, _, _, _])), (_, aI _ _ _), (_, aI _ _ _), (_, .inr (2, [_, _, _])), (_, aI _ _ _), (_, aI _ _ _), (_, .inr (3, [_, _, _, _, _, _, _, _, _, _, _, _, _])), (_, aI _ _ _), (_, aI _ _ _), (_, aI _ _ _), (_, aZ _ _ _), (_, aI _ _ _), (_, aI _ _ _), (_, .inr (0, [_])), (_, aQ _ _ _), (_, .inr (4, [_, _, _, _])), (_, aI _ _ _), (_, .inr (4, [_, _, _, _])), (_, aI _ _ _)]) 87 C [20] [0, 1, 2, 3, 4, 5, 6, 7, 8, 9, 10, 11, 12, 13, 14, 15, 16, 17, 18, 19] dX5_init_84 rfl (k_X4_init E l ) ⟨va_cnB 0 C.2.2.2.2.1 gX5_init_X4_init_n47 rfl rfl rfl NW.2.2 (C.2.2.2.2.1 _ lX5_init_47.1) cdX4_init ⟨Nat.le_of_ble_eq_true rfl, Nat.le_of_ble_eq_true rfl⟩, rfl, C.2.2.2.2.1 _ lX5_init_47.2⟩ rfl rfl rfl rfl rfl (by decide) rfl (Nat.le_of_ble_eq_true rfl) ⟨Nat.le_of_ble_eq_true rfl, Nat.le_of_ble_eq_true rfl⟩ ?_
  rintro _ _ ⟨a_ce2, rfl, rfl⟩
  refine g_w (ws' := [(_, .inr (5, [_, _, _, _, _, _, _])), (_, .inr (1, [_, _, _, _])), (_, aI _ _ _), (_, aI _ _ _), (_, .inr (2, [_, _, _])), (_, aI _ _ _), (_, aI _ _ _), (_, .inr (3, [_, _, _, _, _, _, _, _, _, _, _, _, _])), (_, aI _ _ _), (_, aI _ _ _), (_, aI _ _ _), (_, aZ _ _ _), (_, aI _ _ _), (_, aI _ _ _), (_, .inr (0, [_])), (_, aQ _ _ _), (_, .inr (4, [_, _, _, _])), (_, aI _ _ _), (_, .inr (4, [_, _, _, _])), (_, aI _ _ _), (_, .inr (4, [_, _, _, _])), (_, aI _ _ _)]) [0, 1] rfl rfl ?_
  refine g_aastore (ws' := [(_, .inr (5, [_, _, _, _, _, _, _])), (_, .inr (1, [_, _, _, _])), (_, aI _ _ _), (_, aI _ _ _), (_, .inr (2, [_, _, _])), (_, aI _ _ _), (_, aI _ _ _), (_, .inr (3, [_, _, _, _, _, _, _, _, _, _, _, _, _])), (_, aI _ _ _), (_, aI _ _ _), (_, aI _ _ _), (_, aZ _ _ _), (_, aI _ _ _), (_, aI _ _ _), (_, .inr (0, [_])), (_, aQ _ _ _), (_, .inr (4, [_, _, _, _])), (_, aI _ _ _), (_, .inr (4, [_, _, _, _])), (_, aI _ _ _), (_, .inr (4, [_, _, _, _])), (_, aI _ _ _)]) 88 C 15 20 dX5_init_87 rfl rfl rfl (by omega) rfl ?_
  refine g_iinc (lv' := [(1, .int (iI 3)), (0, _)]) 91 C 0 dX5_init_88 rfl rfl (by decide) rfl ?_
  refine g_goto 66 C dX5_init_91 (by decide) ?_
  refine g_iload_n 67 C 0 dX5_init_66 rfl rfl ?_
  refine g_aload_n 68 C 1 dX5_init_67 rfl rfl ?_
  refine g_get 71 C 0 4 5 iX5_init_X5 lX5_init_43 dX5_init_68 rfl rfl rfl (by decide) rfl ?_
  refine g_alenQ 72 C 15 dX5_init_71 rfl rfl ?_
  refine g_icmp_ge 94 75 C dX5_init_72 (by decide) rfl (by omega) (fun q => absurd q (by omega)) ?_
  intro _
  refine g_aload_n 76 C 1 dX5_init_75 rfl rfl ?_
  refine g_get 79 C 0 4 5 iX5_init_X5 lX5_init_43 dX5_init_76 rfl rfl rfl (by decide) rfl ?_
  refine g_iload_n 80 C 0 dX5_init_79 rfl rfl ?_
  refine g_new 83 C 4 [.null, .int (iI 0), .int (iI 0), .int (iI 0)] tyX4 tyX4_ok iX5_init_X4 lX5_init_41 dX5_init_80 rfl rfl (fun j hj => by rcases (show j = 0 ∨ j = 1 ∨ j = 2 ∨ j = 3 by omega) with rfl | rfl | rfl | rfl <;> rfl) (Nat.le_of_ble_eq_true rfl) (Nat.le_of_ble_eq_true rfl) ?_
  intro a_S3
  refine g_w (ws' := [(_, .inr (5, [_, _, _, _, _, _, _])), (_, .inr (1, [_, _, _, _])), (_, aI _ _ _), (_, aI _ _ _), (_, .inr (2, [_, _, _])), (_, aI _ _ _), (_, aI _ _ _), (_, .inr (3, [_, _, _, _, _, _, _, _, _, _, _, _, _])), (_, aI _ _ _), (_, aI _ _ _), (_, aI _ _ _), (_, aZ _ _ _), (_, aI _ _ _), (_, aI _ _ _), (_, .inr (0, [_])), (_, aQ _ _ _), (_, .inr (4, [_, _, _, _])), (_, aI _ _ _), (_, .inr (4, [_, _, _, _])), (_, aI _ _ _), (_, .inr (4, [_, _, _, _])), (_, aI _ _ _), (_, .inr (4, [_, _, _, _]))]) [0, 1] rfl rfl ?_
  refine g_dup 84 C dX5_init_83 rfl rfl ?_
  refine g_callIn (wr := [(_, .inr (5, [_, _, _, _, _, _, _])), (_, .inr (1, [_, _, _, _])), (_, aI _ _ _), (_, aI _ _ _), (_, .inr (2, [_, _, _])), (_, aI _ _ _), (_, aI _ _ _), (_, .inr (3, [_, _, _, _, _, _, _, _, _, _, _, _, _])), (_, aI _ _ _), (_, aI _ _ _), (_, aI _ _ _), (_, aZ _ _ _), (_, aI _ _ _), (_, aI _ _ _), (_, .inr (0, [_])), (_, aQ _ _ _), (_, .inr (4, [_, _, _, _])), (_, aI _ _ _), (_, .inr (4, [_, _, _, _])), (_, aI _ _ _), (_, .inr (4, [_, _, _, _])), (_, aI _ _ _)]) 87 C [22] [0, 1, 2, 3, 4, 5, 6, 7, 8, 9, 10, 11, 12, 13, 14, 15, 16, 17, 18, 19, 20, 21] dX5_init_84 rfl (k_X4_init E l ) ⟨va_cnB 0 C.2.2.2.2.1 gX5_init_X4_init_n47 rfl rfl rfl NW.2.2 (C.2.2.2.2.1 _ lX5_init_47.1) cdX4_init ⟨Nat.le_of_ble_eq_true rfl, Nat.le_of_ble_eq_true rfl⟩, rfl, C.2.2.2.2.1 _ lX5_init_47.2⟩ rfl rfl rfl rfl rfl (by decide) rfl (Nat.le_of_ble_eq_true rfl) ⟨Nat.le_of_ble_eq_true rfl, Nat.le_of_ble_eq_true rfl⟩ ?_
  rintro _ _ ⟨a_ce3, rfl, rfl⟩
  refine g_w (ws' := [(_, .inr (5, [_, _, _, _, _, _, _])), (_, .inr (1, [_, _, _, _])), (_, aI _ _ _), (_, aI _ _ _), (_, .inr (2, [_, _, _])), (_, aI _ _ _), (_, aI _ _ _), (_, .inr (3, [_, _, _, _, _, _, _, _, _, _, _, _, _])), (_, aI _ _ _), (_, aI _ _ _), (_, aI _ _ _), (_, aZ _ _ _), (_, aI _ _ _), (_, aI _ _ _), (_, .inr (0, [_])), (_, aQ _ _ _), (_, .inr (4, [_, _, _, _])), (_, aI _ _ _), (_, .inr (4, [_, _, _, _])), (_, aI _ _ _), (_, .inr (4, [_, _, _, _])), (_, aI _ _ _), (_, .inr (4, [_, _, _, _])), (_, aI _ _ _)]) [0, 1] rfl rfl ?_
  refine g_aastore (ws' := [(_, .inr (5, [_, _, _, _, _, _, _])), (_, .inr (1, [_, _, _, _])), (_, aI _ _ _), (_, aI _ _ _), (_, .inr (2, [_, _, _])), (_, aI _ _ _), (_, aI _ _ _), (_, .inr (3, [_, _, _, _, _, _, _, _, _, _, _, _, _])), (_, aI _ _ _), (_, aI _ _ _), (_, aI _ _ _), (_, aZ _ _ _), (_, aI _ _ _), (_, aI _ _ _), (_, .inr (0, [_])), (_, aQ _ _ _), (_, .inr (4, [_, _, _, _])), (_, aI _ _ _), (_, .inr (4, [_, _, _, _])), (_, aI _ _ _), (_, .inr (4, [_, _, _, _])), (_, aI _ _ _), (_, .inr (4, [_, _, _, _])), (_, aI _ _ _)]) 88 C 15 22 dX5_init_87 rfl rfl rfl (by omega) rfl ?_
  refine g_iinc (lv' := [(1, .int (iI 4)), (0, _)]) 91 C 0 dX5_init_88 rfl rfl (by decide) rfl ?_
  refine g_goto 66 C dX5_init_91 (by decide) ?_
  refine g_iload_n 67 C 0 dX5_init_66 rfl rfl ?_
  refine g_aload_n 68 C 1 dX5_init_67 rfl rfl ?_
  refine g_get 71 C 0 4 5 iX5_init_X5 lX5_init_43 dX5_init_68 rfl rfl rfl (by decide) rfl ?_
  refine g_alenQ 72 C 15 dX5_init_71 rfl rfl ?_
  refine g_icmp_ge 94 75 C dX5_init_72 (by decide) rfl (by omega) ?_ (fun q => absurd q (by omega))
  intro _
  exact g_vret C hr dX5_init_94 ⟨_, _, _, _, _, _, _, _, _, _, _, _, _, _, _, _, _, _, _, _, _, _, _, _, ⟨rfl, hse_9⟩, rfl⟩
end
section
theorem nar_c {P : Prop} : narrow .boolean (.int (iI (cI P 1 0))) = .int (iI (cI P 1 0)) := by
  by_cases h : P
  · rw [cI_t h]; rfl
  · rw [cI_f h]; rfl
theorem uI_self (f : Int → Int) (z : Int) : uI f z (f z) = f := by
  funext j
  unfold uI
  by_cases e : j = z
  · rw [if_pos e, e]
  · rw [if_neg e]
def msI (n k : Int) (qa qf us q u : Int → Int) : Prop := (∀ j : Int, 0 ≤ j ∧ j ≤ k → q j = qa j * 4 + qf j ∧ (0 ≤ qa j ∧ qa j ≤ n) ∧ (-1 ≤ qf j ∧ qf j ≤ 3) ∧ (j < k → 0 ≤ qf j ∧ qa j < n) ∧ (qf j = -1 → qa j = 0)) ∧ ∀ j : Int, 0 ≤ j ∧ j < n → u j = us j ∧ (us j = 0 ∨ us j = 1)
section MS
variable {n k a r : Int} {qa qf us q u : Int → Int}
theorem ms_0 {i : Int} (hi : 25 ≤ i) (hn : 0 ≤ n ∧ n ≤ 25) : msI n 0 (uI qa 0 0) (uI qf 0 (-1)) (zrI us i) (fun _ => -1) (fun _ => 0) := by
  refine ⟨fun j hj => ?_, fun j hj => ?_⟩
  · have e : j = 0 := by omega
    rw [e, uI_eq, uI_eq]; dsimp only; omega
  · have e : zrI us i j = 0 := if_pos (by omega)
    rw [e]; exact ⟨rfl, Or.inl rfl⟩
theorem ms_b0 (hk : k = 0) (h : msI n k qa qf us q u) {qa2 qf2 q2 : Int → Int} : msI n (k + -1) qa2 qf2 us q2 u := ⟨fun j hj => by omega, h.2⟩
theorem ms_bk (hk : 0 < k) (hn : 0 ≤ n ∧ n ≤ 25) (h : msI n k qa qf us q u) {x : Int} : msI n (k + -1) (uI qa k a) (uI qf k r) (uI us (uI qa k a (k + -1)) 0) (uI q k x) (uI u (q (k - 1) / 4) 0) := by
  have h1 := h.1 (k + -1) (by omega)
  rw [show k - 1 = k + -1 by omega, uI_ne (f := qa) (by omega), show q (k + -1) / 4 = qa (k + -1) by omega]
  refine ⟨fun j hj => ?_, fun j hj => ?_⟩
  · have h2 := h.1 j (by omega)
    rw [uI_ne (by omega), uI_ne (by omega), uI_ne (by omega)]
    exact ⟨h2.1, h2.2.1, h2.2.2.1, fun z => h2.2.2.2.1 (by omega), h2.2.2.2.2⟩
  · by_cases z : j = qa (k + -1)
    · rw [z, uI_eq, uI_eq]; exact ⟨rfl, Or.inl rfl⟩
    · rw [uI_ne z, uI_ne z]; exact h.2 j hj
theorem ms_st (ha : 0 ≤ a ∧ a < n) (hr : 0 ≤ r ∧ r < 4) (h : msI n k qa qf us q u) : msI n k (uI qa k a) (uI qf k r) us (uI q k (a * 4 + r)) u := by
  refine ⟨fun j hj => ?_, h.2⟩
  by_cases z : j = k
  · rw [z, uI_eq, uI_eq, uI_eq]; omega
  · rw [uI_ne z, uI_ne z, uI_ne z]; exact h.1 j hj
theorem ms_dn (ha : 0 ≤ a ∧ a < n) (hr : 0 ≤ r ∧ r < 4) (h : msI n k qa qf us q u) : msI n (k + 1) (uI (uI qa k a) (k + 1) 0) (uI (uI qf k r) (k + 1) (-1)) (uI us (uI qa k a k) 1) (uI (uI q k (a * 4 + r)) (k + 1) (-1)) (uI u a 1) := by
  rw [uI_eq]
  refine ⟨fun j hj => ?_, fun j hj => ?_⟩
  · by_cases z : j = k + 1
    · rw [z, uI_eq, uI_eq, uI_eq]; omega
    · rw [uI_ne z, uI_ne z, uI_ne z]
      by_cases y : j = k
      · rw [y, uI_eq, uI_eq, uI_eq]; omega
      · rw [uI_ne y, uI_ne y, uI_ne y]
        have h2 := h.1 j (by omega)
        exact ⟨h2.1, h2.2.1, h2.2.2.1, fun _ => h2.2.2.2.1 (by omega), h2.2.2.2.2⟩
  · by_cases z : j = a
    · rw [z, uI_eq, uI_eq]; exact ⟨rfl, Or.inr rfl⟩
    · rw [uI_ne z, uI_ne z]; exact h.2 j hj
theorem ms_q (ha : 0 ≤ a ∧ a < n) (hr : 0 ≤ r ∧ r < 4) (h : msI n k qa qf us q u) : ∀ j : Int, 0 ≤ j ∧ j ≤ k → (uI qa k a j = uI q k (a * 4 + r) j / 4 ∧ uI qf k r j = uI q k (a * 4 + r) j % 4) ∧ 0 ≤ uI q k (a * 4 + r) j ∧ uI q k (a * 4 + r) j < n * 4 := by
  intro j hj
  by_cases z : j = k
  · rw [z, uI_eq, uI_eq, uI_eq]; omega
  · rw [uI_ne z, uI_ne z, uI_ne z]
    have h2 := h.1 j hj
    have h3 := h2.2.2.2.1 (by omega)
    omega
end MS
theorem fin_e (F : (Int → Int) → Int → Prop) (n N fo : Int) {s fin t : gS} {m0 m : Nat} (hfin : itS F n N fo m0 s = fin) (hneg : fin.1 < 0) (hm : itS F n N fo m s = t) (ht : t.1 < 0) : t = fin := by
  rw [← hm, ← hfin]
  exact it_fin (by rw [hm]; exact ht) (by rw [hfin]; exact hneg)
section GL
variable {p : Program} {l : Launch} {e : Env} {R : Room} {s : State} {m : MethodId} {args : Array Value} {below : List Frame} {meth : Method} {c : Code} {cells slots : Nat} {Q : State → Prop} {E : gE} {A : Nat → Prop} {nL : Nat} {ws : va_W} {lv : List (Nat × Value)} {pc : Nat} {st : List Value}
theorem g_bsplit {P : Prop} {inst : Decidable P} (kt : P → gJ p l e R s m args below meth c cells slots Q E A nL ws lv pc (.int (iI 1) :: st)) (kf : ¬ P → gJ p l e R s m args below meth c cells slots Q E A nL ws lv pc (.int (iI 0) :: st)) : gJ p l e R s m args below meth c cells slots Q E A nL ws lv pc (.int (iI (@ite Int P inst 1 0)) :: st) := by
  by_cases h : P
  · rw [if_pos h]; exact kt h
  · rw [if_neg h]; exact kf h
end GL
end
section
theorem dL_cell_0 : decode cL_cell 0 = .ok (.iload_n 1, 1) := by decide +kernel
theorem dL_cell_1 : decode cL_cell 1 = .ok (.aload_n 0, 1) := by decide +kernel
theorem dL_cell_2 : decode cL_cell 2 = .ok (.arraylength, 1) := by decide +kernel
theorem dL_cell_3 : decode cL_cell 3 = .ok (.if_icmp .ge 9, 3) := by decide +kernel
theorem dL_cell_6 : decode cL_cell 6 = .ok (.aload_n 0, 1) := by decide +kernel
theorem dL_cell_7 : decode cL_cell 7 = .ok (.iload_n 1, 1) := by decide +kernel
theorem dL_cell_8 : decode cL_cell 8 = .ok (.iaload, 1) := by decide +kernel
theorem dL_cell_9 : decode cL_cell 9 = .ok (.goto 11, 3) := by decide +kernel
theorem dL_cell_12 : decode cL_cell 12 = .ok (.ldc 7, 2) := by decide +kernel
theorem dL_cell_14 : decode cL_cell 14 = .ok (.iload_n 1, 1) := by decide +kernel
theorem dL_cell_15 : decode cL_cell 15 = .ok (.imul, 1) := by decide +kernel
theorem dL_cell_16 : decode cL_cell 16 = .ok (.sipush 977, 3) := by decide +kernel
theorem dL_cell_19 : decode cL_cell 19 = .ok (.iadd, 1) := by decide +kernel
theorem dL_cell_20 : decode cL_cell 20 = .ok (.ireturn, 1) := by decide +kernel
theorem dL_low_0 : decode cL_low 0 = .ok (.iload_n 0, 1) := by decide +kernel
theorem dL_low_1 : decode cL_low 1 = .ok (.ldc 8, 2) := by decide +kernel
theorem dL_low_3 : decode cL_low 3 = .ok (.iand, 1) := by decide +kernel
theorem dL_low_4 : decode cL_low 4 = .ok (.iload_n 1, 1) := by decide +kernel
theorem dL_low_5 : decode cL_low 5 = .ok (.irem, 1) := by decide +kernel
theorem dL_low_6 : decode cL_low 6 = .ok (.ireturn, 1) := by decide +kernel
set_option maxRecDepth 20000 in
theorem ggL_fits_X5_heaped : GoodIn wsL_fits wsX5_heaped := goodIn_r _ [5, 6, 7, 8, 9, 10, 11, 12, 13, 14, 15, 16, 17, 18, 19, 20, 21, 22, 23, 75, 76, 77, 78, 79, 80, 81, 82, 83, 84] (by decide +kernel) (by decide +kernel)
set_option maxRecDepth 20000 in
theorem gL_fits_X5_heaped : GoodIn wsL_fits (wsV RL 9 RX5 yX5_heaped wsX5_heaped) := goodIn_app (goodIn_of _ (by decide +kernel)) ggL_fits_X5_heaped
set_option maxRecDepth 20000 in
theorem ggL_fits_X5_sideOf : GoodIn wsL_fits wsX5_sideOf := goodIn_r _ [27, 28, 29, 30, 31, 32, 33, 34, 35, 36, 37, 38, 39, 40, 41, 42, 43, 44, 45, 46, 47, 48, 75, 76, 77, 78, 79, 80, 81, 85, 86, 87, 88] (by decide +kernel) (by decide +kernel)
set_option maxRecDepth 20000 in
theorem gL_fits_X5_sideOf : GoodIn wsL_fits (wsV RL 15 RX5 yX5_sideOf wsX5_sideOf) := goodIn_app (goodIn_of _ (by decide +kernel)) ggL_fits_X5_sideOf
set_option maxRecDepth 20000 in
theorem ggL_fits_X5_far : GoodIn wsL_fits wsX5_far := goodIn_r _ [52, 28, 29, 30, 31, 32, 33, 34, 35, 36, 37, 38, 39, 40, 41, 42, 43, 53, 54, 55, 56, 57, 45, 46, 47, 48, 58, 59, 60, 61, 62, 63, 64, 65, 66, 67, 68, 69, 70, 71, 72, 73, 74, 75, 76, 77, 78, 79, 80, 81, 85, 86, 87, 88] (by decide +kernel) (by decide +kernel)
set_option maxRecDepth 20000 in
theorem gL_fits_X5_far : GoodIn wsL_fits (wsV RL 18 RX5 yX5_far wsX5_far) := goodIn_app (goodIn_of _ (by decide +kernel)) ggL_fits_X5_far
theorem dL_fits_0 : decode cL_fits 0 = .ok (.iload_n 3, 1) := by decide +kernel
theorem dL_fits_1 : decode cL_fits 1 = .ok (.iload_n 1, 1) := by decide +kernel
theorem dL_fits_2 : decode cL_fits 2 = .ok (.irem, 1) := by decide +kernel
theorem dL_fits_3 : decode cL_fits 3 = .ok (.istore 8, 2) := by decide +kernel
theorem dL_fits_5 : decode cL_fits 5 = .ok (.iload_n 3, 1) := by decide +kernel
theorem dL_fits_6 : decode cL_fits 6 = .ok (.iload_n 1, 1) := by decide +kernel
theorem dL_fits_7 : decode cL_fits 7 = .ok (.idiv, 1) := by decide +kernel
theorem dL_fits_8 : decode cL_fits 8 = .ok (.istore 9, 2) := by decide +kernel
theorem dL_fits_10 : decode cL_fits 10 = .ok (.aload_n 0, 1) := by decide +kernel
theorem dL_fits_11 : decode cL_fits 11 = .ok (.iload 4, 2) := by decide +kernel
theorem dL_fits_13 : decode cL_fits 13 = .ok (.iconst 0, 1) := by decide +kernel
theorem dL_fits_14 : decode cL_fits 14 = .ok (.invokevirtual 9, 3) := by decide +kernel
theorem dL_fits_17 : decode cL_fits 17 = .ok (.istore 10, 2) := by decide +kernel
theorem dL_fits_19 : decode cL_fits 19 = .ok (.aload_n 0, 1) := by decide +kernel
theorem dL_fits_20 : decode cL_fits 20 = .ok (.iload 4, 2) := by decide +kernel
theorem dL_fits_22 : decode cL_fits 22 = .ok (.iconst 1, 1) := by decide +kernel
theorem dL_fits_23 : decode cL_fits 23 = .ok (.invokevirtual 9, 3) := by decide +kernel
theorem dL_fits_26 : decode cL_fits 26 = .ok (.iload 5, 2) := by decide +kernel
theorem dL_fits_28 : decode cL_fits 28 = .ok (.iadd, 1) := by decide +kernel
theorem dL_fits_29 : decode cL_fits 29 = .ok (.istore 11, 2) := by decide +kernel
theorem dL_fits_31 : decode cL_fits 31 = .ok (.iconst 0, 1) := by decide +kernel
theorem dL_fits_32 : decode cL_fits 32 = .ok (.istore 12, 2) := by decide +kernel
theorem dL_fits_34 : decode cL_fits 34 = .ok (.iload 12, 2) := by decide +kernel
theorem dL_fits_36 : decode cL_fits 36 = .ok (.iconst 4, 1) := by decide +kernel
theorem dL_fits_37 : decode cL_fits 37 = .ok (.if_icmp .ge 114, 3) := by decide +kernel
theorem dL_fits_40 : decode cL_fits 40 = .ok (.iload 12, 2) := by decide +kernel
theorem dL_fits_42 : decode cL_fits 42 = .ok (.ifCond .ne 16, 3) := by decide +kernel
theorem dL_fits_45 : decode cL_fits 45 = .ok (.iload 9, 2) := by decide +kernel
theorem dL_fits_47 : decode cL_fits 47 = .ok (.ifCond .ne 7, 3) := by decide +kernel
theorem dL_fits_50 : decode cL_fits 50 = .ok (.iconst 1, 1) := by decide +kernel
theorem dL_fits_51 : decode cL_fits 51 = .ok (.goto 61, 3) := by decide +kernel
theorem dL_fits_54 : decode cL_fits 54 = .ok (.iconst 0, 1) := by decide +kernel
theorem dL_fits_55 : decode cL_fits 55 = .ok (.goto 57, 3) := by decide +kernel
theorem dL_fits_58 : decode cL_fits 58 = .ok (.iload 12, 2) := by decide +kernel
theorem dL_fits_60 : decode cL_fits 60 = .ok (.iconst 1, 1) := by decide +kernel
theorem dL_fits_61 : decode cL_fits 61 = .ok (.if_icmp .ne 19, 3) := by decide +kernel
theorem dL_fits_64 : decode cL_fits 64 = .ok (.iload 8, 2) := by decide +kernel
theorem dL_fits_66 : decode cL_fits 66 = .ok (.iload_n 1, 1) := by decide +kernel
theorem dL_fits_67 : decode cL_fits 67 = .ok (.iconst 1, 1) := by decide +kernel
theorem dL_fits_68 : decode cL_fits 68 = .ok (.isub, 1) := by decide +kernel
theorem dL_fits_69 : decode cL_fits 69 = .ok (.if_icmp .ne 7, 3) := by decide +kernel
theorem dL_fits_72 : decode cL_fits 72 = .ok (.iconst 1, 1) := by decide +kernel
theorem dL_fits_73 : decode cL_fits 73 = .ok (.goto 39, 3) := by decide +kernel
theorem dL_fits_76 : decode cL_fits 76 = .ok (.iconst 0, 1) := by decide +kernel
theorem dL_fits_77 : decode cL_fits 77 = .ok (.goto 35, 3) := by decide +kernel
theorem dL_fits_80 : decode cL_fits 80 = .ok (.iload 12, 2) := by decide +kernel
theorem dL_fits_82 : decode cL_fits 82 = .ok (.iconst 2, 1) := by decide +kernel
theorem dL_fits_83 : decode cL_fits 83 = .ok (.if_icmp .ne 19, 3) := by decide +kernel
theorem dL_fits_86 : decode cL_fits 86 = .ok (.iload 9, 2) := by decide +kernel
theorem dL_fits_88 : decode cL_fits 88 = .ok (.iload_n 2, 1) := by decide +kernel
theorem dL_fits_89 : decode cL_fits 89 = .ok (.iconst 1, 1) := by decide +kernel
theorem dL_fits_90 : decode cL_fits 90 = .ok (.isub, 1) := by decide +kernel
theorem dL_fits_91 : decode cL_fits 91 = .ok (.if_icmp .ne 7, 3) := by decide +kernel
theorem dL_fits_94 : decode cL_fits 94 = .ok (.iconst 1, 1) := by decide +kernel
theorem dL_fits_95 : decode cL_fits 95 = .ok (.goto 17, 3) := by decide +kernel
theorem dL_fits_98 : decode cL_fits 98 = .ok (.iconst 0, 1) := by decide +kernel
theorem dL_fits_99 : decode cL_fits 99 = .ok (.goto 13, 3) := by decide +kernel
theorem dL_fits_102 : decode cL_fits 102 = .ok (.iload 8, 2) := by decide +kernel
theorem dL_fits_104 : decode cL_fits 104 = .ok (.ifCond .ne 7, 3) := by decide +kernel
theorem dL_fits_107 : decode cL_fits 107 = .ok (.iconst 1, 1) := by decide +kernel
theorem dL_fits_108 : decode cL_fits 108 = .ok (.goto 4, 3) := by decide +kernel
theorem dL_fits_111 : decode cL_fits 111 = .ok (.iconst 0, 1) := by decide +kernel
theorem dL_fits_112 : decode cL_fits 112 = .ok (.istore 13, 2) := by decide +kernel
theorem dL_fits_114 : decode cL_fits 114 = .ok (.aload_n 0, 1) := by decide +kernel
theorem dL_fits_115 : decode cL_fits 115 = .ok (.iload 10, 2) := by decide +kernel
theorem dL_fits_117 : decode cL_fits 117 = .ok (.iload 12, 2) := by decide +kernel
theorem dL_fits_119 : decode cL_fits 119 = .ok (.bipush 8, 2) := by decide +kernel
theorem dL_fits_121 : decode cL_fits 121 = .ok (.iadd, 1) := by decide +kernel
theorem dL_fits_122 : decode cL_fits 122 = .ok (.iload 11, 2) := by decide +kernel
theorem dL_fits_124 : decode cL_fits 124 = .ok (.isub, 1) := by decide +kernel
theorem dL_fits_125 : decode cL_fits 125 = .ok (.iconst 4, 1) := by decide +kernel
theorem dL_fits_126 : decode cL_fits 126 = .ok (.irem, 1) := by decide +kernel
theorem dL_fits_127 : decode cL_fits 127 = .ok (.invokevirtual 15, 3) := by decide +kernel
theorem dL_fits_130 : decode cL_fits 130 = .ok (.ifCond .ge 7, 3) := by decide +kernel
theorem dL_fits_133 : decode cL_fits 133 = .ok (.iconst 1, 1) := by decide +kernel
theorem dL_fits_134 : decode cL_fits 134 = .ok (.goto 4, 3) := by decide +kernel
theorem dL_fits_137 : decode cL_fits 137 = .ok (.iconst 0, 1) := by decide +kernel
theorem dL_fits_138 : decode cL_fits 138 = .ok (.iload 13, 2) := by decide +kernel
theorem dL_fits_140 : decode cL_fits 140 = .ok (.if_icmp .eq 5, 3) := by decide +kernel
theorem dL_fits_143 : decode cL_fits 143 = .ok (.iconst 0, 1) := by decide +kernel
theorem dL_fits_144 : decode cL_fits 144 = .ok (.ireturn, 1) := by decide +kernel
theorem dL_fits_145 : decode cL_fits 145 = .ok (.iinc 12 1, 3) := by decide +kernel
theorem dL_fits_148 : decode cL_fits 148 = .ok (.goto (-114), 3) := by decide +kernel
theorem dL_fits_151 : decode cL_fits 151 = .ok (.iconst 1, 1) := by decide +kernel
theorem dL_fits_152 : decode cL_fits 152 = .ok (.istore 12, 2) := by decide +kernel
theorem dL_fits_154 : decode cL_fits 154 = .ok (.iload 9, 2) := by decide +kernel
theorem dL_fits_156 : decode cL_fits 156 = .ok (.ifCond .le 62, 3) := by decide +kernel
theorem dL_fits_159 : decode cL_fits 159 = .ok (.iload_n 3, 1) := by decide +kernel
theorem dL_fits_160 : decode cL_fits 160 = .ok (.iload_n 1, 1) := by decide +kernel
theorem dL_fits_161 : decode cL_fits 161 = .ok (.isub, 1) := by decide +kernel
theorem dL_fits_162 : decode cL_fits 162 = .ok (.istore 13, 2) := by decide +kernel
theorem dL_fits_164 : decode cL_fits 164 = .ok (.aload_n 0, 1) := by decide +kernel
theorem dL_fits_165 : decode cL_fits 165 = .ok (.iload 10, 2) := by decide +kernel
theorem dL_fits_167 : decode cL_fits 167 = .ok (.bipush 8, 2) := by decide +kernel
theorem dL_fits_169 : decode cL_fits 169 = .ok (.iload 11, 2) := by decide +kernel
theorem dL_fits_171 : decode cL_fits 171 = .ok (.isub, 1) := by decide +kernel
theorem dL_fits_172 : decode cL_fits 172 = .ok (.iconst 4, 1) := by decide +kernel
theorem dL_fits_173 : decode cL_fits 173 = .ok (.irem, 1) := by decide +kernel
theorem dL_fits_174 : decode cL_fits 174 = .ok (.aload_n 0, 1) := by decide +kernel
theorem dL_fits_175 : decode cL_fits 175 = .ok (.aload 6, 2) := by decide +kernel
theorem dL_fits_177 : decode cL_fits 177 = .ok (.iload 13, 2) := by decide +kernel
theorem dL_fits_179 : decode cL_fits 179 = .ok (.iaload, 1) := by decide +kernel
theorem dL_fits_180 : decode cL_fits 180 = .ok (.iconst 0, 1) := by decide +kernel
theorem dL_fits_181 : decode cL_fits 181 = .ok (.invokevirtual 9, 3) := by decide +kernel
theorem dL_fits_184 : decode cL_fits 184 = .ok (.bipush 10, 2) := by decide +kernel
theorem dL_fits_186 : decode cL_fits 186 = .ok (.aload_n 0, 1) := by decide +kernel
theorem dL_fits_187 : decode cL_fits 187 = .ok (.aload 6, 2) := by decide +kernel
theorem dL_fits_189 : decode cL_fits 189 = .ok (.iload 13, 2) := by decide +kernel
theorem dL_fits_191 : decode cL_fits 191 = .ok (.iaload, 1) := by decide +kernel
theorem dL_fits_192 : decode cL_fits 192 = .ok (.iconst 1, 1) := by decide +kernel
theorem dL_fits_193 : decode cL_fits 193 = .ok (.invokevirtual 9, 3) := by decide +kernel
theorem dL_fits_196 : decode cL_fits 196 = .ok (.isub, 1) := by decide +kernel
theorem dL_fits_197 : decode cL_fits 197 = .ok (.aload 7, 2) := by decide +kernel
theorem dL_fits_199 : decode cL_fits 199 = .ok (.iload 13, 2) := by decide +kernel
theorem dL_fits_201 : decode cL_fits 201 = .ok (.iaload, 1) := by decide +kernel
theorem dL_fits_202 : decode cL_fits 202 = .ok (.isub, 1) := by decide +kernel
theorem dL_fits_203 : decode cL_fits 203 = .ok (.iconst 4, 1) := by decide +kernel
theorem dL_fits_204 : decode cL_fits 204 = .ok (.irem, 1) := by decide +kernel
theorem dL_fits_205 : decode cL_fits 205 = .ok (.invokevirtual 18, 3) := by decide +kernel
theorem dL_fits_208 : decode cL_fits 208 = .ok (.ifCond .ne 7, 3) := by decide +kernel
theorem dL_fits_211 : decode cL_fits 211 = .ok (.iconst 1, 1) := by decide +kernel
theorem dL_fits_212 : decode cL_fits 212 = .ok (.goto 4, 3) := by decide +kernel
theorem dL_fits_215 : decode cL_fits 215 = .ok (.iconst 0, 1) := by decide +kernel
theorem dL_fits_216 : decode cL_fits 216 = .ok (.istore 12, 2) := by decide +kernel
theorem dL_fits_218 : decode cL_fits 218 = .ok (.iload 8, 2) := by decide +kernel
theorem dL_fits_220 : decode cL_fits 220 = .ok (.ifCond .le 67, 3) := by decide +kernel
theorem dL_fits_223 : decode cL_fits 223 = .ok (.iload 12, 2) := by decide +kernel
theorem dL_fits_225 : decode cL_fits 225 = .ok (.ifCond .eq 62, 3) := by decide +kernel
theorem dL_fits_228 : decode cL_fits 228 = .ok (.iload_n 3, 1) := by decide +kernel
theorem dL_fits_229 : decode cL_fits 229 = .ok (.iconst 1, 1) := by decide +kernel
theorem dL_fits_230 : decode cL_fits 230 = .ok (.isub, 1) := by decide +kernel
theorem dL_fits_231 : decode cL_fits 231 = .ok (.istore 13, 2) := by decide +kernel
theorem dL_fits_233 : decode cL_fits 233 = .ok (.aload_n 0, 1) := by decide +kernel
theorem dL_fits_234 : decode cL_fits 234 = .ok (.iload 10, 2) := by decide +kernel
theorem dL_fits_236 : decode cL_fits 236 = .ok (.bipush 11, 2) := by decide +kernel
theorem dL_fits_238 : decode cL_fits 238 = .ok (.iload 11, 2) := by decide +kernel
theorem dL_fits_240 : decode cL_fits 240 = .ok (.isub, 1) := by decide +kernel
theorem dL_fits_241 : decode cL_fits 241 = .ok (.iconst 4, 1) := by decide +kernel
theorem dL_fits_242 : decode cL_fits 242 = .ok (.irem, 1) := by decide +kernel
theorem dL_fits_243 : decode cL_fits 243 = .ok (.aload_n 0, 1) := by decide +kernel
theorem dL_fits_244 : decode cL_fits 244 = .ok (.aload 6, 2) := by decide +kernel
theorem dL_fits_246 : decode cL_fits 246 = .ok (.iload 13, 2) := by decide +kernel
theorem dL_fits_248 : decode cL_fits 248 = .ok (.iaload, 1) := by decide +kernel
theorem dL_fits_249 : decode cL_fits 249 = .ok (.iconst 0, 1) := by decide +kernel
theorem dL_fits_250 : decode cL_fits 250 = .ok (.invokevirtual 9, 3) := by decide +kernel
theorem dL_fits_253 : decode cL_fits 253 = .ok (.bipush 9, 2) := by decide +kernel
theorem dL_fits_255 : decode cL_fits 255 = .ok (.aload_n 0, 1) := by decide +kernel
theorem dL_fits_256 : decode cL_fits 256 = .ok (.aload 6, 2) := by decide +kernel
theorem dL_fits_258 : decode cL_fits 258 = .ok (.iload 13, 2) := by decide +kernel
theorem dL_fits_260 : decode cL_fits 260 = .ok (.iaload, 1) := by decide +kernel
theorem dL_fits_261 : decode cL_fits 261 = .ok (.iconst 1, 1) := by decide +kernel
theorem dL_fits_262 : decode cL_fits 262 = .ok (.invokevirtual 9, 3) := by decide +kernel
theorem dL_fits_265 : decode cL_fits 265 = .ok (.isub, 1) := by decide +kernel
theorem dL_fits_266 : decode cL_fits 266 = .ok (.aload 7, 2) := by decide +kernel
theorem dL_fits_268 : decode cL_fits 268 = .ok (.iload 13, 2) := by decide +kernel
theorem dL_fits_270 : decode cL_fits 270 = .ok (.iaload, 1) := by decide +kernel
theorem dL_fits_271 : decode cL_fits 271 = .ok (.isub, 1) := by decide +kernel
theorem dL_fits_272 : decode cL_fits 272 = .ok (.iconst 4, 1) := by decide +kernel
theorem dL_fits_273 : decode cL_fits 273 = .ok (.irem, 1) := by decide +kernel
theorem dL_fits_274 : decode cL_fits 274 = .ok (.invokevirtual 18, 3) := by decide +kernel
theorem dL_fits_277 : decode cL_fits 277 = .ok (.ifCond .ne 7, 3) := by decide +kernel
theorem dL_fits_280 : decode cL_fits 280 = .ok (.iconst 1, 1) := by decide +kernel
theorem dL_fits_281 : decode cL_fits 281 = .ok (.goto 4, 3) := by decide +kernel
theorem dL_fits_284 : decode cL_fits 284 = .ok (.iconst 0, 1) := by decide +kernel
theorem dL_fits_285 : decode cL_fits 285 = .ok (.istore 12, 2) := by decide +kernel
theorem dL_fits_287 : decode cL_fits 287 = .ok (.iload 12, 2) := by decide +kernel
theorem dL_fits_289 : decode cL_fits 289 = .ok (.ireturn, 1) := by decide +kernel
end
section
set_option maxRecDepth 20000 in
theorem ggL_law_X5_init : GoodIn wsL_law wsX5_init := goodIn_r _ [9, 10, 11, 12, 13, 14, 15, 16, 17, 18, 19, 20, 21, 22, 23, 24, 25, 26, 27, 28, 29, 30, 31, 32, 33, 34, 35, 36, 5, 37, 38, 39, 40, 41, 42, 43, 44, 45, 46, 47, 48, 49, 50, 51, 52, 53, 54, 55, 56, 57, 58, 59, 60, 61, 62, 63, 64, 65, 66, 67, 68, 69, 70, 71, 72, 73, 74, 75, 76, 77, 379, 380, 381, 382, 372, 373, 374, 375, 376, 377, 378, 383, 384, 385, 386, 387, 388, 389, 390, 391, 392, 393, 394, 395, 396, 397, 398, 399, 400, 401, 402, 403] (by decide +kernel) (by decide +kernel)
set_option maxRecDepth 20000 in
theorem gL_law_X5_init : GoodIn wsL_law (wsX5_init) := ggL_law_X5_init
set_option maxRecDepth 20000 in
theorem ggL_law_L_cell : GoodIn wsL_law wsL_cell := goodIn_r _ [81, 82] (by decide +kernel) (by decide +kernel)
set_option maxRecDepth 20000 in
theorem gL_law_L_cell : GoodIn wsL_law (va_wsS RL 23 yL_cell wsL_cell) := goodIn_app (goodIn_of _ (by decide +kernel)) ggL_law_L_cell
set_option maxRecDepth 20000 in
theorem ggL_law_L_low : GoodIn wsL_law wsL_low := goodIn_r _ [85, 86] (by decide +kernel) (by decide +kernel)
set_option maxRecDepth 20000 in
theorem gL_law_L_low : GoodIn wsL_law (va_wsS RL 29 yL_low wsL_low) := goodIn_app (goodIn_of _ (by decide +kernel)) ggL_law_L_low
set_option maxRecDepth 20000 in
theorem ggL_law_X5_picture : GoodIn wsL_law wsX5_picture := goodIn_r _ [90, 16, 20, 24, 91, 40, 41, 15, 42, 43, 44, 37, 45, 46, 47, 48, 49, 50, 51, 52, 38, 92, 93, 94, 19, 95, 96, 97, 98, 99, 23, 100, 101, 102, 103, 104, 105, 372, 373, 374, 375, 376, 377, 378, 379, 380, 381, 382, 383, 384, 385, 386, 387, 388, 389, 390, 391, 392, 393, 394, 395, 396, 397, 398] (by decide +kernel) (by decide +kernel)
set_option maxRecDepth 20000 in
theorem gL_law_X5_picture : GoodIn wsL_law (wsV RL 32 RX5 yX5_picture wsX5_picture) := goodIn_app (goodIn_of _ (by decide +kernel)) ggL_law_X5_picture
set_option maxRecDepth 20000 in
theorem ggL_law_X5_make : GoodIn wsL_law wsX5_make := goodIn_r _ [109, 28, 16, 24, 110, 111, 112, 27, 113, 114, 102, 103, 104, 15, 105, 43, 44, 115, 116, 117, 118, 119, 120, 121, 122, 123, 124, 125, 126, 37, 97, 98, 99, 23, 100, 101, 372, 373, 374, 375, 376, 377, 378, 399, 379, 380, 381, 382, 386, 387, 388, 389, 390, 391, 392, 393, 394, 395, 396, 397, 398] (by decide +kernel) (by decide +kernel)
set_option maxRecDepth 20000 in
theorem gL_law_X5_make : GoodIn wsL_law (wsV RL 37 RX5 yX5_make wsX5_make) := goodIn_app (goodIn_of _ (by decide +kernel)) ggL_law_X5_make
set_option maxRecDepth 20000 in
theorem ggL_law_X5_bend : GoodIn wsL_law wsX5_bend := goodIn_r _ [130, 16, 131, 24, 132, 133, 134, 15, 135, 136, 103, 104, 105, 43, 44, 137, 138, 2, 139, 140, 141, 142, 143, 144, 145, 146, 37, 123, 124, 125, 126, 97, 98, 99, 23, 100, 101, 372, 373, 374, 375, 376, 377, 378, 379, 380, 381, 382, 386, 387, 388, 389, 390, 391, 392, 393, 394, 395, 396, 397, 398] (by decide +kernel) (by decide +kernel)
set_option maxRecDepth 20000 in
theorem gL_law_X5_bend : GoodIn wsL_law (wsV RL 41 RX5 yX5_bend wsX5_bend) := goodIn_app (goodIn_of _ (by decide +kernel)) ggL_law_X5_bend
set_option maxRecDepth 20000 in
theorem ggL_law_X5_heap : GoodIn wsL_law wsX5_heap := goodIn_r _ [150, 20, 16, 28, 24, 92, 93, 94, 19, 95, 96, 151, 152, 153, 15, 154, 43, 44, 155, 156, 157, 158, 56, 57, 159, 160, 161, 162, 110, 111, 112, 27, 113, 114, 163, 164, 165, 166, 115, 116, 117, 118, 119, 120, 121, 122, 167, 168, 169, 170, 171, 172, 173, 174, 175, 176, 177, 178, 97, 98, 99, 23, 100, 101, 372, 373, 374, 375, 376, 377, 378, 383, 384, 385, 379, 380, 381, 382, 399, 386, 387, 388, 389, 390, 391, 392, 393, 394, 395, 396, 397, 398] (by decide +kernel) (by decide +kernel)
set_option maxRecDepth 20000 in
theorem gL_law_X5_heap : GoodIn wsL_law (wsV RL 47 RX5 yX5_heap wsX5_heap) := goodIn_app (goodIn_of _ (by decide +kernel)) ggL_law_X5_heap
set_option maxRecDepth 20000 in
theorem ggL_law_X5_lay : GoodIn wsL_law wsX5_lay := goodIn_r _ [182, 16, 20, 24, 183, 184, 185, 15, 186, 187, 152, 153, 154, 43, 44, 188, 160, 161, 19, 162, 96, 155, 156, 157, 158, 56, 57, 159, 97, 98, 99, 23, 100, 101, 163, 164, 165, 166, 372, 373, 374, 375, 376, 377, 378, 379, 380, 381, 382, 383, 384, 385, 386, 387, 388, 389, 390, 391, 392, 393, 394, 395, 396, 397, 398] (by decide +kernel) (by decide +kernel)
set_option maxRecDepth 20000 in
theorem gL_law_X5_lay : GoodIn wsL_law (wsV RL 50 RX5 yX5_lay wsX5_lay) := goodIn_app (goodIn_of _ (by decide +kernel)) ggL_law_X5_lay
set_option maxRecDepth 20000 in
theorem ggL_law_X5_heaped : GoodIn wsL_law wsX5_heaped := goodIn_r _ [192, 20, 193, 172, 173, 19, 174, 96, 194, 195, 196, 197, 56, 171, 198, 199, 200, 201, 57, 372, 373, 374, 375, 376, 377, 378, 383, 384, 385] (by decide +kernel) (by decide +kernel)
set_option maxRecDepth 20000 in
theorem gL_law_X5_heaped : GoodIn wsL_law (wsV RL 9 RX5 yX5_heaped wsX5_heaped) := goodIn_app (goodIn_of _ (by decide +kernel)) ggL_law_X5_heaped
set_option maxRecDepth 20000 in
theorem ggL_law_X5_sideOf : GoodIn wsL_law wsX5_sideOf := goodIn_r _ [205, 16, 206, 207, 208, 15, 209, 210, 184, 185, 186, 187, 152, 153, 154, 43, 44, 211, 212, 213, 214, 38, 372, 373, 374, 375, 376, 377, 378, 379, 380, 381, 382] (by decide +kernel) (by decide +kernel)
set_option maxRecDepth 20000 in
theorem gL_law_X5_sideOf : GoodIn wsL_law (wsV RL 15 RX5 yX5_sideOf wsX5_sideOf) := goodIn_app (goodIn_of _ (by decide +kernel)) ggL_law_X5_sideOf
set_option maxRecDepth 20000 in
theorem ggL_law_X5_known : GoodIn wsL_law wsX5_known := goodIn_r _ [218, 16, 20, 183, 184, 185, 15, 186, 187, 152, 153, 154, 43, 44, 219, 220, 221, 19, 222, 96, 56, 223, 224, 225, 226, 227, 212, 213, 214, 38, 228, 229, 230, 231, 372, 373, 374, 375, 376, 377, 378, 379, 380, 381, 382, 383, 384, 385] (by decide +kernel) (by decide +kernel)
set_option maxRecDepth 20000 in
theorem gL_law_X5_known : GoodIn wsL_law (wsV RL 53 RX5 yX5_known wsX5_known) := goodIn_app (goodIn_of _ (by decide +kernel)) ggL_law_X5_known
set_option maxRecDepth 20000 in
theorem ggL_law_X5_missed : GoodIn wsL_law wsX5_missed := goodIn_r _ [235, 236, 237, 2, 238, 239, 240, 241, 242, 16, 151, 152, 153, 15, 154, 43, 44, 243, 244, 245, 246, 20, 219, 220, 221, 19, 222, 96, 56, 372, 373, 374, 375, 376, 377, 378, 379, 380, 381, 382, 383, 384, 385] (by decide +kernel) (by decide +kernel)
set_option maxRecDepth 20000 in
theorem gL_law_X5_missed : GoodIn wsL_law (wsV RL 57 RX5 yX5_missed wsX5_missed) := goodIn_app (goodIn_of _ (by decide +kernel)) ggL_law_X5_missed
set_option maxRecDepth 20000 in
theorem ggL_law_X5_missing : GoodIn wsL_law wsX5_missing := goodIn_r _ [250, 236, 237, 2, 238, 251, 252, 253, 254, 16, 151, 152, 153, 15, 154, 43, 44, 243, 244, 245, 246, 20, 219, 220, 221, 19, 222, 96, 56, 372, 373, 374, 375, 376, 377, 378, 379, 380, 381, 382, 383, 384, 385] (by decide +kernel) (by decide +kernel)
set_option maxRecDepth 20000 in
theorem gL_law_X5_missing : GoodIn wsL_law (wsV RL 60 RX5 yX5_missing wsX5_missing) := goodIn_app (goodIn_of _ (by decide +kernel)) ggL_law_X5_missing
set_option maxRecDepth 20000 in
theorem ggL_law_L_fits : GoodIn wsL_law wsL_fits := goodIn_r _ [257, 189, 190, 191, 2, 192, 20, 193, 172, 173, 19, 174, 96, 194, 195, 196, 197, 56, 171, 198, 199, 200, 201, 57, 202, 203, 204, 205, 16, 206, 207, 208, 15, 209, 210, 184, 185, 186, 187, 152, 153, 154, 43, 44, 211, 212, 213, 214, 38, 258, 259, 260, 261, 223, 224, 225, 226, 227, 262, 263, 264, 265, 266, 267, 268, 269, 270, 271, 272, 273, 274, 144, 145, 146, 37, 372, 373, 374, 375, 376, 377, 378, 383, 384, 385, 379, 380, 381, 382] (by decide +kernel) (by decide +kernel)
set_option maxRecDepth 20000 in
theorem gL_law_L_fits : GoodIn wsL_law (va_wsS RL 64 yL_fits wsL_fits) := goodIn_app (goodIn_of _ (by decide +kernel)) ggL_law_L_fits
set_option maxRecDepth 20000 in
theorem ggL_law_X5_ways : GoodIn wsL_law wsX5_ways := goodIn_r _ [278, 24, 279, 280, 281, 23, 282, 283, 284, 285, 286, 287, 288, 66, 70, 289, 290, 291, 164, 165, 19, 166, 96, 292, 293, 294, 295, 69, 62, 63, 296, 195, 196, 197, 56, 171, 172, 173, 174, 297, 224, 225, 15, 226, 227, 212, 213, 214, 38, 298, 299, 300, 301, 302, 271, 272, 273, 274, 144, 145, 146, 37, 303, 304, 305, 306, 307, 199, 200, 201, 57, 308, 309, 310, 311, 312, 313, 314, 315, 316, 268, 317, 318, 67, 319, 152, 153, 154, 43, 44, 320, 321, 322, 323, 64, 324, 229, 230, 231, 325, 326, 327, 328, 329, 330, 331, 372, 373, 374, 375, 376, 377, 378, 386, 387, 388, 389, 390, 391, 392, 393, 394, 395, 396, 397, 398, 383, 384, 385, 379, 380, 381, 382] (by decide +kernel) (by decide +kernel)
set_option maxRecDepth 20000 in
theorem gL_law_X5_ways : GoodIn wsL_law (wsV RL 68 RX5 yX5_ways wsX5_ways) := goodIn_app (goodIn_of _ (by decide +kernel)) ggL_law_X5_ways
set_option maxRecDepth 20000 in
theorem ggL_law_X5_trials : GoodIn wsL_law wsX5_trials := goodIn_r _ [335, 24, 336, 337, 338, 23, 339, 290, 372, 373, 374, 375, 376, 377, 378, 386, 387, 388, 389, 390, 391, 392, 393, 394, 395, 396, 397, 398] (by decide +kernel) (by decide +kernel)
set_option maxRecDepth 20000 in
theorem gL_law_X5_trials : GoodIn wsL_law (wsV RL 72 RX5 yX5_trials wsX5_trials) := goodIn_app (goodIn_of _ (by decide +kernel)) ggL_law_X5_trials
set_option maxRecDepth 20000 in
theorem ggL_law_X5_join : GoodIn wsL_law wsX5_join := goodIn_r _ [343, 24, 344, 345, 346, 23, 347, 283, 284, 101, 69, 68, 67, 285, 286, 287, 288, 66, 70, 289, 290, 291, 164, 165, 19, 166, 96, 292, 293, 294, 295, 62, 63, 296, 195, 196, 197, 56, 171, 172, 173, 174, 297, 224, 225, 15, 226, 227, 212, 213, 214, 38, 298, 299, 300, 301, 302, 271, 272, 273, 274, 144, 145, 146, 37, 303, 304, 305, 306, 307, 199, 200, 201, 57, 308, 309, 310, 311, 312, 313, 314, 315, 316, 268, 317, 318, 319, 152, 153, 154, 43, 44, 320, 321, 322, 323, 64, 324, 229, 230, 231, 325, 326, 327, 328, 329, 330, 331, 372, 373, 374, 375, 376, 377, 378, 386, 387, 388, 389, 390, 391, 392, 393, 394, 395, 396, 397, 398, 383, 384, 385, 379, 380, 381, 382] (by decide +kernel) (by decide +kernel)
set_option maxRecDepth 20000 in
theorem gL_law_X5_join : GoodIn wsL_law (wsV RL 75 RX5 yX5_join wsX5_join) := goodIn_app (goodIn_of _ (by decide +kernel)) ggL_law_X5_join
set_option maxRecDepth 20000 in
theorem ggL_law_X5_joined : GoodIn wsL_law wsX5_joined := goodIn_r _ [351, 24, 16, 352, 353, 354, 23, 355, 101, 183, 184, 185, 15, 186, 187, 152, 153, 154, 43, 44, 356, 357, 358, 359, 68, 325, 326, 327, 360, 361, 362, 363, 372, 373, 374, 375, 376, 377, 378, 386, 387, 388, 389, 390, 391, 392, 393, 394, 395, 396, 397, 398, 379, 380, 381, 382] (by decide +kernel) (by decide +kernel)
set_option maxRecDepth 20000 in
theorem gL_law_X5_joined : GoodIn wsL_law (wsV RL 78 RX5 yX5_joined wsX5_joined) := goodIn_app (goodIn_of _ (by decide +kernel)) ggL_law_X5_joined
set_option maxRecDepth 20000 in
theorem ggL_law_X5_take : GoodIn wsL_law wsX5_take := goodIn_r _ [367, 20, 24, 193, 172, 173, 19, 174, 96, 194, 195, 196, 197, 56, 171, 368, 369, 370, 371, 57, 97, 98, 99, 23, 100, 101, 372, 373, 374, 375, 376, 377, 378, 383, 384, 385, 386, 387, 388, 389, 390, 391, 392, 393, 394, 395, 396, 397, 398] (by decide +kernel) (by decide +kernel)
set_option maxRecDepth 20000 in
theorem gL_law_X5_take : GoodIn wsL_law (wsV RL 81 RX5 yX5_take wsX5_take) := goodIn_app (goodIn_of _ (by decide +kernel)) ggL_law_X5_take
theorem dL_law_0 : decode cL_law 0 = .ok (.new 10, 3) := by decide +kernel
theorem dL_law_3 : decode cL_law 3 = .ok (.dup, 1) := by decide +kernel
theorem dL_law_4 : decode cL_law 4 = .ok (.invokespecial 22, 3) := by decide +kernel
theorem dL_law_7 : decode cL_law 7 = .ok (.astore_n 1, 1) := by decide +kernel
theorem dL_law_8 : decode cL_law 8 = .ok (.iconst 1, 1) := by decide +kernel
theorem dL_law_9 : decode cL_law 9 = .ok (.aload_n 0, 1) := by decide +kernel
theorem dL_law_10 : decode cL_law 10 = .ok (.iconst 0, 1) := by decide +kernel
theorem dL_law_11 : decode cL_law 11 = .ok (.invokestatic 23, 3) := by decide +kernel
theorem dL_law_14 : decode cL_law 14 = .ok (.iconst 3, 1) := by decide +kernel
theorem dL_law_15 : decode cL_law 15 = .ok (.invokestatic 29, 3) := by decide +kernel
theorem dL_law_18 : decode cL_law 18 = .ok (.iadd, 1) := by decide +kernel
theorem dL_law_19 : decode cL_law 19 = .ok (.istore_n 2, 1) := by decide +kernel
theorem dL_law_20 : decode cL_law 20 = .ok (.iconst 1, 1) := by decide +kernel
theorem dL_law_21 : decode cL_law 21 = .ok (.aload_n 0, 1) := by decide +kernel
theorem dL_law_22 : decode cL_law 22 = .ok (.iconst 1, 1) := by decide +kernel
theorem dL_law_23 : decode cL_law 23 = .ok (.invokestatic 23, 3) := by decide +kernel
theorem dL_law_26 : decode cL_law 26 = .ok (.iload_n 2, 1) := by decide +kernel
theorem dL_law_27 : decode cL_law 27 = .ok (.iconst 3, 1) := by decide +kernel
theorem dL_law_28 : decode cL_law 28 = .ok (.if_icmp .ne 7, 3) := by decide +kernel
theorem dL_law_31 : decode cL_law 31 = .ok (.iconst 2, 1) := by decide +kernel
theorem dL_law_32 : decode cL_law 32 = .ok (.goto 4, 3) := by decide +kernel
theorem dL_law_35 : decode cL_law 35 = .ok (.iconst 3, 1) := by decide +kernel
theorem dL_law_36 : decode cL_law 36 = .ok (.invokestatic 29, 3) := by decide +kernel
theorem dL_law_39 : decode cL_law 39 = .ok (.iadd, 1) := by decide +kernel
theorem dL_law_40 : decode cL_law 40 = .ok (.istore_n 3, 1) := by decide +kernel
theorem dL_law_41 : decode cL_law 41 = .ok (.iload_n 2, 1) := by decide +kernel
theorem dL_law_42 : decode cL_law 42 = .ok (.iload_n 3, 1) := by decide +kernel
theorem dL_law_43 : decode cL_law 43 = .ok (.imul, 1) := by decide +kernel
theorem dL_law_44 : decode cL_law 44 = .ok (.istore 4, 2) := by decide +kernel
theorem dL_law_46 : decode cL_law 46 = .ok (.aload_n 1, 1) := by decide +kernel
theorem dL_law_47 : decode cL_law 47 = .ok (.iload_n 2, 1) := by decide +kernel
theorem dL_law_48 : decode cL_law 48 = .ok (.iload_n 3, 1) := by decide +kernel
theorem dL_law_49 : decode cL_law 49 = .ok (.invokevirtual 32, 3) := by decide +kernel
theorem dL_law_52 : decode cL_law 52 = .ok (.istore 5, 2) := by decide +kernel
theorem dL_law_54 : decode cL_law 54 = .ok (.iload 5, 2) := by decide +kernel
theorem dL_law_56 : decode cL_law 56 = .ok (.iload_n 2, 1) := by decide +kernel
theorem dL_law_57 : decode cL_law 57 = .ok (.iconst 1, 1) := by decide +kernel
theorem dL_law_58 : decode cL_law 58 = .ok (.isub, 1) := by decide +kernel
theorem dL_law_59 : decode cL_law 59 = .ok (.iload_n 3, 1) := by decide +kernel
theorem dL_law_60 : decode cL_law 60 = .ok (.imul, 1) := by decide +kernel
theorem dL_law_61 : decode cL_law 61 = .ok (.iload_n 2, 1) := by decide +kernel
theorem dL_law_62 : decode cL_law 62 = .ok (.iload_n 3, 1) := by decide +kernel
theorem dL_law_63 : decode cL_law 63 = .ok (.iconst 1, 1) := by decide +kernel
theorem dL_law_64 : decode cL_law 64 = .ok (.isub, 1) := by decide +kernel
theorem dL_law_65 : decode cL_law 65 = .ok (.imul, 1) := by decide +kernel
theorem dL_law_66 : decode cL_law 66 = .ok (.iadd, 1) := by decide +kernel
theorem dL_law_67 : decode cL_law 67 = .ok (.if_icmp .eq 5, 3) := by decide +kernel
theorem dL_law_70 : decode cL_law 70 = .ok (.iconst 0, 1) := by decide +kernel
theorem dL_law_71 : decode cL_law 71 = .ok (.ireturn, 1) := by decide +kernel
theorem dL_law_72 : decode cL_law 72 = .ok (.aload_n 0, 1) := by decide +kernel
theorem dL_law_73 : decode cL_law 73 = .ok (.iconst 2, 1) := by decide +kernel
theorem dL_law_74 : decode cL_law 74 = .ok (.invokestatic 23, 3) := by decide +kernel
theorem dL_law_77 : decode cL_law 77 = .ok (.iconst 1, 1) := by decide +kernel
theorem dL_law_78 : decode cL_law 78 = .ok (.iand, 1) := by decide +kernel
theorem dL_law_79 : decode cL_law 79 = .ok (.ifCond .ne 30, 3) := by decide +kernel
theorem dL_law_82 : decode cL_law 82 = .ok (.aload_n 1, 1) := by decide +kernel
theorem dL_law_83 : decode cL_law 83 = .ok (.aload_n 0, 1) := by decide +kernel
theorem dL_law_84 : decode cL_law 84 = .ok (.iconst 3, 1) := by decide +kernel
theorem dL_law_85 : decode cL_law 85 = .ok (.invokestatic 23, 3) := by decide +kernel
theorem dL_law_88 : decode cL_law 88 = .ok (.i2l, 1) := by decide +kernel
theorem dL_law_89 : decode cL_law 89 = .ok (.ldc2_w 35, 3) := by decide +kernel
theorem dL_law_92 : decode cL_law 92 = .ok (.lmul, 1) := by decide +kernel
theorem dL_law_93 : decode cL_law 93 = .ok (.aload_n 0, 1) := by decide +kernel
theorem dL_law_94 : decode cL_law 94 = .ok (.iconst 4, 1) := by decide +kernel
theorem dL_law_95 : decode cL_law 95 = .ok (.invokestatic 23, 3) := by decide +kernel
theorem dL_law_98 : decode cL_law 98 = .ok (.i2l, 1) := by decide +kernel
theorem dL_law_99 : decode cL_law 99 = .ok (.ladd, 1) := by decide +kernel
theorem dL_law_100 : decode cL_law 100 = .ok (.invokevirtual 37, 3) := by decide +kernel
theorem dL_law_103 : decode cL_law 103 = .ok (.iconst 1, 1) := by decide +kernel
theorem dL_law_104 : decode cL_law 104 = .ok (.if_icmp .eq 51, 3) := by decide +kernel
theorem dL_law_107 : decode cL_law 107 = .ok (.iconst 0, 1) := by decide +kernel
theorem dL_law_108 : decode cL_law 108 = .ok (.ireturn, 1) := by decide +kernel
theorem dL_law_109 : decode cL_law 109 = .ok (.iconst 0, 1) := by decide +kernel
theorem dL_law_110 : decode cL_law 110 = .ok (.istore 6, 2) := by decide +kernel
theorem dL_law_112 : decode cL_law 112 = .ok (.iload 6, 2) := by decide +kernel
theorem dL_law_114 : decode cL_law 114 = .ok (.iload 5, 2) := by decide +kernel
theorem dL_law_116 : decode cL_law 116 = .ok (.if_icmp .ge 39, 3) := by decide +kernel
theorem dL_law_119 : decode cL_law 119 = .ok (.aload_n 1, 1) := by decide +kernel
theorem dL_law_120 : decode cL_law 120 = .ok (.iload 6, 2) := by decide +kernel
theorem dL_law_122 : decode cL_law 122 = .ok (.iconst 2, 1) := by decide +kernel
theorem dL_law_123 : decode cL_law 123 = .ok (.aload_n 0, 1) := by decide +kernel
theorem dL_law_124 : decode cL_law 124 = .ok (.iconst 3, 1) := by decide +kernel
theorem dL_law_125 : decode cL_law 125 = .ok (.invokestatic 23, 3) := by decide +kernel
theorem dL_law_128 : decode cL_law 128 = .ok (.iconst 2, 1) := by decide +kernel
theorem dL_law_129 : decode cL_law 129 = .ok (.iload 6, 2) := by decide +kernel
theorem dL_law_131 : decode cL_law 131 = .ok (.imul, 1) := by decide +kernel
theorem dL_law_132 : decode cL_law 132 = .ok (.ishr, 1) := by decide +kernel
theorem dL_law_133 : decode cL_law 133 = .ok (.iconst 3, 1) := by decide +kernel
theorem dL_law_134 : decode cL_law 134 = .ok (.invokestatic 29, 3) := by decide +kernel
theorem dL_law_137 : decode cL_law 137 = .ok (.iconst 1, 1) := by decide +kernel
theorem dL_law_138 : decode cL_law 138 = .ok (.isub, 1) := by decide +kernel
theorem dL_law_139 : decode cL_law 139 = .ok (.invokevirtual 41, 3) := by decide +kernel
theorem dL_law_142 : decode cL_law 142 = .ok (.lconst 0, 1) := by decide +kernel
theorem dL_law_143 : decode cL_law 143 = .ok (.lcmp, 1) := by decide +kernel
theorem dL_law_144 : decode cL_law 144 = .ok (.ifCond .eq 5, 3) := by decide +kernel
theorem dL_law_147 : decode cL_law 147 = .ok (.iconst 0, 1) := by decide +kernel
theorem dL_law_148 : decode cL_law 148 = .ok (.ireturn, 1) := by decide +kernel
theorem dL_law_149 : decode cL_law 149 = .ok (.iinc 6 1, 3) := by decide +kernel
theorem dL_law_152 : decode cL_law 152 = .ok (.goto (-40), 3) := by decide +kernel
theorem dL_law_155 : decode cL_law 155 = .ok (.aload_n 0, 1) := by decide +kernel
theorem dL_law_156 : decode cL_law 156 = .ok (.iconst 5, 1) := by decide +kernel
theorem dL_law_157 : decode cL_law 157 = .ok (.invokestatic 23, 3) := by decide +kernel
theorem dL_law_160 : decode cL_law 160 = .ok (.iconst 1, 1) := by decide +kernel
theorem dL_law_161 : decode cL_law 161 = .ok (.iand, 1) := by decide +kernel
theorem dL_law_162 : decode cL_law 162 = .ok (.ifCond .ne 7, 3) := by decide +kernel
theorem dL_law_165 : decode cL_law 165 = .ok (.iconst 1, 1) := by decide +kernel
theorem dL_law_166 : decode cL_law 166 = .ok (.goto 4, 3) := by decide +kernel
theorem dL_law_169 : decode cL_law 169 = .ok (.iconst 0, 1) := by decide +kernel
theorem dL_law_170 : decode cL_law 170 = .ok (.istore 6, 2) := by decide +kernel
theorem dL_law_172 : decode cL_law 172 = .ok (.iload 4, 2) := by decide +kernel
theorem dL_law_174 : decode cL_law 174 = .ok (.istore 7, 2) := by decide +kernel
theorem dL_law_176 : decode cL_law 176 = .ok (.iload 6, 2) := by decide +kernel
theorem dL_law_178 : decode cL_law 178 = .ok (.ifCond .eq 25, 3) := by decide +kernel
theorem dL_law_181 : decode cL_law 181 = .ok (.aload_n 1, 1) := by decide +kernel
theorem dL_law_182 : decode cL_law 182 = .ok (.aload_n 0, 1) := by decide +kernel
theorem dL_law_183 : decode cL_law 183 = .ok (.bipush 6, 2) := by decide +kernel
theorem dL_law_185 : decode cL_law 185 = .ok (.invokestatic 23, 3) := by decide +kernel
theorem dL_law_188 : decode cL_law 188 = .ok (.i2l, 1) := by decide +kernel
theorem dL_law_189 : decode cL_law 189 = .ok (.ldc2_w 45, 3) := by decide +kernel
theorem dL_law_192 : decode cL_law 192 = .ok (.lmul, 1) := by decide +kernel
theorem dL_law_193 : decode cL_law 193 = .ok (.invokevirtual 47, 3) := by decide +kernel
theorem dL_law_196 : decode cL_law 196 = .ok (.iload 4, 2) := by decide +kernel
theorem dL_law_198 : decode cL_law 198 = .ok (.if_icmp .eq 78, 3) := by decide +kernel
theorem dL_law_201 : decode cL_law 201 = .ok (.iconst 0, 1) := by decide +kernel
theorem dL_law_202 : decode cL_law 202 = .ok (.ireturn, 1) := by decide +kernel
theorem dL_law_203 : decode cL_law 203 = .ok (.iconst 1, 1) := by decide +kernel
theorem dL_law_204 : decode cL_law 204 = .ok (.aload_n 0, 1) := by decide +kernel
theorem dL_law_205 : decode cL_law 205 = .ok (.bipush 6, 2) := by decide +kernel
theorem dL_law_207 : decode cL_law 207 = .ok (.invokestatic 23, 3) := by decide +kernel
theorem dL_law_210 : decode cL_law 210 = .ok (.bipush 6, 2) := by decide +kernel
theorem dL_law_212 : decode cL_law 212 = .ok (.invokestatic 29, 3) := by decide +kernel
theorem dL_law_215 : decode cL_law 215 = .ok (.iadd, 1) := by decide +kernel
theorem dL_law_216 : decode cL_law 216 = .ok (.istore 7, 2) := by decide +kernel
theorem dL_law_218 : decode cL_law 218 = .ok (.iconst 0, 1) := by decide +kernel
theorem dL_law_219 : decode cL_law 219 = .ok (.istore 8, 2) := by decide +kernel
theorem dL_law_221 : decode cL_law 221 = .ok (.iload 8, 2) := by decide +kernel
theorem dL_law_223 : decode cL_law 223 = .ok (.iload 7, 2) := by decide +kernel
theorem dL_law_225 : decode cL_law 225 = .ok (.if_icmp .ge 51, 3) := by decide +kernel
theorem dL_law_228 : decode cL_law 228 = .ok (.aload_n 1, 1) := by decide +kernel
theorem dL_law_229 : decode cL_law 229 = .ok (.aload_n 0, 1) := by decide +kernel
theorem dL_law_230 : decode cL_law 230 = .ok (.bipush 7, 2) := by decide +kernel
theorem dL_law_232 : decode cL_law 232 = .ok (.iload 8, 2) := by decide +kernel
theorem dL_law_234 : decode cL_law 234 = .ok (.iadd, 1) := by decide +kernel
theorem dL_law_235 : decode cL_law 235 = .ok (.invokestatic 23, 3) := by decide +kernel
theorem dL_law_238 : decode cL_law 238 = .ok (.iload 4, 2) := by decide +kernel
theorem dL_law_240 : decode cL_law 240 = .ok (.invokestatic 29, 3) := by decide +kernel
theorem dL_law_243 : decode cL_law 243 = .ok (.aload_n 0, 1) := by decide +kernel
theorem dL_law_244 : decode cL_law 244 = .ok (.bipush 7, 2) := by decide +kernel
theorem dL_law_246 : decode cL_law 246 = .ok (.iload 8, 2) := by decide +kernel
theorem dL_law_248 : decode cL_law 248 = .ok (.iadd, 1) := by decide +kernel
theorem dL_law_249 : decode cL_law 249 = .ok (.invokestatic 23, 3) := by decide +kernel
theorem dL_law_252 : decode cL_law 252 = .ok (.iconst 5, 1) := by decide +kernel
theorem dL_law_253 : decode cL_law 253 = .ok (.ishr, 1) := by decide +kernel
theorem dL_law_254 : decode cL_law 254 = .ok (.iconst 4, 1) := by decide +kernel
theorem dL_law_255 : decode cL_law 255 = .ok (.invokestatic 29, 3) := by decide +kernel
theorem dL_law_258 : decode cL_law 258 = .ok (.invokevirtual 50, 3) := by decide +kernel
theorem dL_law_261 : decode cL_law 261 = .ok (.iload 8, 2) := by decide +kernel
theorem dL_law_263 : decode cL_law 263 = .ok (.iconst 1, 1) := by decide +kernel
end
section
theorem dL_law_264 : decode cL_law 264 = .ok (.iadd, 1) := by decide +kernel
theorem dL_law_265 : decode cL_law 265 = .ok (.if_icmp .eq 5, 3) := by decide +kernel
theorem dL_law_268 : decode cL_law 268 = .ok (.iconst 0, 1) := by decide +kernel
theorem dL_law_269 : decode cL_law 269 = .ok (.ireturn, 1) := by decide +kernel
theorem dL_law_270 : decode cL_law 270 = .ok (.iinc 8 1, 3) := by decide +kernel
theorem dL_law_273 : decode cL_law 273 = .ok (.goto (-52), 3) := by decide +kernel
theorem dL_law_276 : decode cL_law 276 = .ok (.bipush 9, 2) := by decide +kernel
theorem dL_law_278 : decode cL_law 278 = .ok (.newarray .int, 2) := by decide +kernel
theorem dL_law_280 : decode cL_law 280 = .ok (.astore 8, 2) := by decide +kernel
theorem dL_law_282 : decode cL_law 282 = .ok (.iconst 0, 1) := by decide +kernel
theorem dL_law_283 : decode cL_law 283 = .ok (.istore 9, 2) := by decide +kernel
theorem dL_law_285 : decode cL_law 285 = .ok (.iload 9, 2) := by decide +kernel
theorem dL_law_287 : decode cL_law 287 = .ok (.iload 7, 2) := by decide +kernel
theorem dL_law_289 : decode cL_law 289 = .ok (.if_icmp .ge 23, 3) := by decide +kernel
theorem dL_law_292 : decode cL_law 292 = .ok (.aload 8, 2) := by decide +kernel
theorem dL_law_294 : decode cL_law 294 = .ok (.aload_n 1, 1) := by decide +kernel
theorem dL_law_295 : decode cL_law 295 = .ok (.iload 9, 2) := by decide +kernel
theorem dL_law_297 : decode cL_law 297 = .ok (.iconst 0, 1) := by decide +kernel
theorem dL_law_298 : decode cL_law 298 = .ok (.invokevirtual 9, 3) := by decide +kernel
theorem dL_law_301 : decode cL_law 301 = .ok (.dup2, 1) := by decide +kernel
theorem dL_law_302 : decode cL_law 302 = .ok (.iaload, 1) := by decide +kernel
theorem dL_law_303 : decode cL_law 303 = .ok (.iconst 1, 1) := by decide +kernel
theorem dL_law_304 : decode cL_law 304 = .ok (.iadd, 1) := by decide +kernel
theorem dL_law_305 : decode cL_law 305 = .ok (.iastore, 1) := by decide +kernel
theorem dL_law_306 : decode cL_law 306 = .ok (.iinc 9 1, 3) := by decide +kernel
theorem dL_law_309 : decode cL_law 309 = .ok (.goto (-24), 3) := by decide +kernel
theorem dL_law_312 : decode cL_law 312 = .ok (.iconst 0, 1) := by decide +kernel
theorem dL_law_313 : decode cL_law 313 = .ok (.istore 9, 2) := by decide +kernel
theorem dL_law_315 : decode cL_law 315 = .ok (.iconst 0, 1) := by decide +kernel
theorem dL_law_316 : decode cL_law 316 = .ok (.istore 10, 2) := by decide +kernel
theorem dL_law_318 : decode cL_law 318 = .ok (.iconst 0, 1) := by decide +kernel
theorem dL_law_319 : decode cL_law 319 = .ok (.istore 11, 2) := by decide +kernel
theorem dL_law_321 : decode cL_law 321 = .ok (.iload 11, 2) := by decide +kernel
theorem dL_law_323 : decode cL_law 323 = .ok (.iload 4, 2) := by decide +kernel
theorem dL_law_325 : decode cL_law 325 = .ok (.if_icmp .ge 216, 3) := by decide +kernel
theorem dL_law_328 : decode cL_law 328 = .ok (.iconst 0, 1) := by decide +kernel
theorem dL_law_329 : decode cL_law 329 = .ok (.istore 12, 2) := by decide +kernel
theorem dL_law_331 : decode cL_law 331 = .ok (.iconst 0, 1) := by decide +kernel
theorem dL_law_332 : decode cL_law 332 = .ok (.istore 13, 2) := by decide +kernel
theorem dL_law_334 : decode cL_law 334 = .ok (.iload 13, 2) := by decide +kernel
theorem dL_law_336 : decode cL_law 336 = .ok (.iconst 4, 1) := by decide +kernel
theorem dL_law_337 : decode cL_law 337 = .ok (.if_icmp .ge 94, 3) := by decide +kernel
theorem dL_law_340 : decode cL_law 340 = .ok (.aload_n 1, 1) := by decide +kernel
theorem dL_law_341 : decode cL_law 341 = .ok (.iload 11, 2) := by decide +kernel
theorem dL_law_343 : decode cL_law 343 = .ok (.iload 13, 2) := by decide +kernel
theorem dL_law_345 : decode cL_law 345 = .ok (.invokevirtual 15, 3) := by decide +kernel
theorem dL_law_348 : decode cL_law 348 = .ok (.ifCond .ge 8, 3) := by decide +kernel
theorem dL_law_351 : decode cL_law 351 = .ok (.iload 11, 2) := by decide +kernel
theorem dL_law_353 : decode cL_law 353 = .ok (.goto 45, 3) := by decide +kernel
theorem dL_law_356 : decode cL_law 356 = .ok (.iload 13, 2) := by decide +kernel
theorem dL_law_358 : decode cL_law 358 = .ok (.ifCond .ne 10, 3) := by decide +kernel
theorem dL_law_361 : decode cL_law 361 = .ok (.iload 11, 2) := by decide +kernel
theorem dL_law_363 : decode cL_law 363 = .ok (.iload_n 2, 1) := by decide +kernel
theorem dL_law_364 : decode cL_law 364 = .ok (.isub, 1) := by decide +kernel
theorem dL_law_365 : decode cL_law 365 = .ok (.goto 33, 3) := by decide +kernel
theorem dL_law_368 : decode cL_law 368 = .ok (.iload 13, 2) := by decide +kernel
theorem dL_law_370 : decode cL_law 370 = .ok (.iconst 1, 1) := by decide +kernel
theorem dL_law_371 : decode cL_law 371 = .ok (.if_icmp .ne 10, 3) := by decide +kernel
theorem dL_law_374 : decode cL_law 374 = .ok (.iload 11, 2) := by decide +kernel
theorem dL_law_376 : decode cL_law 376 = .ok (.iconst 1, 1) := by decide +kernel
theorem dL_law_377 : decode cL_law 377 = .ok (.iadd, 1) := by decide +kernel
theorem dL_law_378 : decode cL_law 378 = .ok (.goto 20, 3) := by decide +kernel
theorem dL_law_381 : decode cL_law 381 = .ok (.iload 13, 2) := by decide +kernel
theorem dL_law_383 : decode cL_law 383 = .ok (.iconst 2, 1) := by decide +kernel
theorem dL_law_384 : decode cL_law 384 = .ok (.if_icmp .ne 10, 3) := by decide +kernel
theorem dL_law_387 : decode cL_law 387 = .ok (.iload 11, 2) := by decide +kernel
theorem dL_law_389 : decode cL_law 389 = .ok (.iload_n 2, 1) := by decide +kernel
theorem dL_law_390 : decode cL_law 390 = .ok (.iadd, 1) := by decide +kernel
theorem dL_law_391 : decode cL_law 391 = .ok (.goto 7, 3) := by decide +kernel
theorem dL_law_394 : decode cL_law 394 = .ok (.iload 11, 2) := by decide +kernel
theorem dL_law_396 : decode cL_law 396 = .ok (.iconst 1, 1) := by decide +kernel
theorem dL_law_397 : decode cL_law 397 = .ok (.isub, 1) := by decide +kernel
theorem dL_law_398 : decode cL_law 398 = .ok (.istore 14, 2) := by decide +kernel
theorem dL_law_400 : decode cL_law 400 = .ok (.iload 12, 2) := by decide +kernel
theorem dL_law_402 : decode cL_law 402 = .ok (.iload 14, 2) := by decide +kernel
theorem dL_law_404 : decode cL_law 404 = .ok (.iload 11, 2) := by decide +kernel
theorem dL_law_406 : decode cL_law 406 = .ok (.if_icmp .eq 15, 3) := by decide +kernel
theorem dL_law_409 : decode cL_law 409 = .ok (.aload 8, 2) := by decide +kernel
theorem dL_law_411 : decode cL_law 411 = .ok (.iload 14, 2) := by decide +kernel
theorem dL_law_413 : decode cL_law 413 = .ok (.iaload, 1) := by decide +kernel
theorem dL_law_414 : decode cL_law 414 = .ok (.ifCond .le 7, 3) := by decide +kernel
theorem dL_law_417 : decode cL_law 417 = .ok (.iconst 5, 1) := by decide +kernel
theorem dL_law_418 : decode cL_law 418 = .ok (.goto 4, 3) := by decide +kernel
theorem dL_law_421 : decode cL_law 421 = .ok (.iconst 0, 1) := by decide +kernel
theorem dL_law_422 : decode cL_law 422 = .ok (.iadd, 1) := by decide +kernel
theorem dL_law_423 : decode cL_law 423 = .ok (.istore 12, 2) := by decide +kernel
theorem dL_law_425 : decode cL_law 425 = .ok (.iinc 13 1, 3) := by decide +kernel
theorem dL_law_428 : decode cL_law 428 = .ok (.goto (-94), 3) := by decide +kernel
theorem dL_law_431 : decode cL_law 431 = .ok (.aload_n 1, 1) := by decide +kernel
theorem dL_law_432 : decode cL_law 432 = .ok (.iload 11, 2) := by decide +kernel
theorem dL_law_434 : decode cL_law 434 = .ok (.invokevirtual 53, 3) := by decide +kernel
theorem dL_law_437 : decode cL_law 437 = .ok (.aload 8, 2) := by decide +kernel
theorem dL_law_439 : decode cL_law 439 = .ok (.iload 11, 2) := by decide +kernel
theorem dL_law_441 : decode cL_law 441 = .ok (.iaload, 1) := by decide +kernel
theorem dL_law_442 : decode cL_law 442 = .ok (.ifCond .ne 8, 3) := by decide +kernel
theorem dL_law_445 : decode cL_law 445 = .ok (.iload 12, 2) := by decide +kernel
theorem dL_law_447 : decode cL_law 447 = .ok (.goto 5, 3) := by decide +kernel
theorem dL_law_450 : decode cL_law 450 = .ok (.bipush (-3), 2) := by decide +kernel
theorem dL_law_452 : decode cL_law 452 = .ok (.if_icmp .ne 44, 3) := by decide +kernel
theorem dL_law_455 : decode cL_law 455 = .ok (.aload 8, 2) := by decide +kernel
theorem dL_law_457 : decode cL_law 457 = .ok (.iload 11, 2) := by decide +kernel
theorem dL_law_459 : decode cL_law 459 = .ok (.iaload, 1) := by decide +kernel
theorem dL_law_460 : decode cL_law 460 = .ok (.ifCond .ne 15, 3) := by decide +kernel
theorem dL_law_463 : decode cL_law 463 = .ok (.aload_n 1, 1) := by decide +kernel
theorem dL_law_464 : decode cL_law 464 = .ok (.iconst 0, 1) := by decide +kernel
theorem dL_law_465 : decode cL_law 465 = .ok (.iload 9, 2) := by decide +kernel
theorem dL_law_467 : decode cL_law 467 = .ok (.invokevirtual 57, 3) := by decide +kernel
theorem dL_law_470 : decode cL_law 470 = .ok (.iload 11, 2) := by decide +kernel
theorem dL_law_472 : decode cL_law 472 = .ok (.if_icmp .ne 24, 3) := by decide +kernel
theorem dL_law_475 : decode cL_law 475 = .ok (.aload 8, 2) := by decide +kernel
theorem dL_law_477 : decode cL_law 477 = .ok (.iload 11, 2) := by decide +kernel
theorem dL_law_479 : decode cL_law 479 = .ok (.iaload, 1) := by decide +kernel
theorem dL_law_480 : decode cL_law 480 = .ok (.iconst 1, 1) := by decide +kernel
theorem dL_law_481 : decode cL_law 481 = .ok (.if_icmp .le 17, 3) := by decide +kernel
theorem dL_law_484 : decode cL_law 484 = .ok (.aload_n 1, 1) := by decide +kernel
theorem dL_law_485 : decode cL_law 485 = .ok (.iconst 1, 1) := by decide +kernel
theorem dL_law_486 : decode cL_law 486 = .ok (.iload 10, 2) := by decide +kernel
theorem dL_law_488 : decode cL_law 488 = .ok (.invokevirtual 57, 3) := by decide +kernel
theorem dL_law_491 : decode cL_law 491 = .ok (.iload 11, 2) := by decide +kernel
theorem dL_law_493 : decode cL_law 493 = .ok (.if_icmp .eq 5, 3) := by decide +kernel
theorem dL_law_496 : decode cL_law 496 = .ok (.iconst 0, 1) := by decide +kernel
theorem dL_law_497 : decode cL_law 497 = .ok (.ireturn, 1) := by decide +kernel
theorem dL_law_498 : decode cL_law 498 = .ok (.iload 9, 2) := by decide +kernel
theorem dL_law_500 : decode cL_law 500 = .ok (.aload 8, 2) := by decide +kernel
theorem dL_law_502 : decode cL_law 502 = .ok (.iload 11, 2) := by decide +kernel
theorem dL_law_504 : decode cL_law 504 = .ok (.iaload, 1) := by decide +kernel
theorem dL_law_505 : decode cL_law 505 = .ok (.ifCond .ne 7, 3) := by decide +kernel
theorem dL_law_508 : decode cL_law 508 = .ok (.iconst 1, 1) := by decide +kernel
theorem dL_law_509 : decode cL_law 509 = .ok (.goto 4, 3) := by decide +kernel
theorem dL_law_512 : decode cL_law 512 = .ok (.iconst 0, 1) := by decide +kernel
theorem dL_law_513 : decode cL_law 513 = .ok (.iadd, 1) := by decide +kernel
theorem dL_law_514 : decode cL_law 514 = .ok (.istore 9, 2) := by decide +kernel
theorem dL_law_516 : decode cL_law 516 = .ok (.iload 10, 2) := by decide +kernel
theorem dL_law_518 : decode cL_law 518 = .ok (.aload 8, 2) := by decide +kernel
theorem dL_law_520 : decode cL_law 520 = .ok (.iload 11, 2) := by decide +kernel
theorem dL_law_522 : decode cL_law 522 = .ok (.iaload, 1) := by decide +kernel
theorem dL_law_523 : decode cL_law 523 = .ok (.iconst 1, 1) := by decide +kernel
theorem dL_law_524 : decode cL_law 524 = .ok (.if_icmp .le 7, 3) := by decide +kernel
theorem dL_law_527 : decode cL_law 527 = .ok (.iconst 1, 1) := by decide +kernel
theorem dL_law_528 : decode cL_law 528 = .ok (.goto 4, 3) := by decide +kernel
theorem dL_law_531 : decode cL_law 531 = .ok (.iconst 0, 1) := by decide +kernel
theorem dL_law_532 : decode cL_law 532 = .ok (.iadd, 1) := by decide +kernel
theorem dL_law_533 : decode cL_law 533 = .ok (.istore 10, 2) := by decide +kernel
theorem dL_law_535 : decode cL_law 535 = .ok (.iinc 11 1, 3) := by decide +kernel
theorem dL_law_538 : decode cL_law 538 = .ok (.goto (-217), 3) := by decide +kernel
theorem dL_law_541 : decode cL_law 541 = .ok (.aload_n 1, 1) := by decide +kernel
theorem dL_law_542 : decode cL_law 542 = .ok (.iconst 0, 1) := by decide +kernel
theorem dL_law_543 : decode cL_law 543 = .ok (.invokevirtual 60, 3) := by decide +kernel
theorem dL_law_546 : decode cL_law 546 = .ok (.iload 9, 2) := by decide +kernel
theorem dL_law_548 : decode cL_law 548 = .ok (.if_icmp .ne 48, 3) := by decide +kernel
theorem dL_law_551 : decode cL_law 551 = .ok (.aload_n 1, 1) := by decide +kernel
theorem dL_law_552 : decode cL_law 552 = .ok (.iconst 1, 1) := by decide +kernel
theorem dL_law_553 : decode cL_law 553 = .ok (.invokevirtual 60, 3) := by decide +kernel
theorem dL_law_556 : decode cL_law 556 = .ok (.iload 10, 2) := by decide +kernel
theorem dL_law_558 : decode cL_law 558 = .ok (.if_icmp .ne 38, 3) := by decide +kernel
theorem dL_law_561 : decode cL_law 561 = .ok (.aload_n 1, 1) := by decide +kernel
theorem dL_law_562 : decode cL_law 562 = .ok (.iconst 0, 1) := by decide +kernel
theorem dL_law_563 : decode cL_law 563 = .ok (.iload 9, 2) := by decide +kernel
theorem dL_law_565 : decode cL_law 565 = .ok (.invokevirtual 57, 3) := by decide +kernel
theorem dL_law_568 : decode cL_law 568 = .ok (.iconst (-1), 1) := by decide +kernel
theorem dL_law_569 : decode cL_law 569 = .ok (.if_icmp .ne 27, 3) := by decide +kernel
theorem dL_law_572 : decode cL_law 572 = .ok (.aload_n 1, 1) := by decide +kernel
theorem dL_law_573 : decode cL_law 573 = .ok (.iconst 1, 1) := by decide +kernel
theorem dL_law_574 : decode cL_law 574 = .ok (.iload 10, 2) := by decide +kernel
theorem dL_law_576 : decode cL_law 576 = .ok (.invokevirtual 57, 3) := by decide +kernel
theorem dL_law_579 : decode cL_law 579 = .ok (.iconst (-1), 1) := by decide +kernel
theorem dL_law_580 : decode cL_law 580 = .ok (.if_icmp .ne 16, 3) := by decide +kernel
theorem dL_law_583 : decode cL_law 583 = .ok (.iload 6, 2) := by decide +kernel
theorem dL_law_585 : decode cL_law 585 = .ok (.ifCond .eq 13, 3) := by decide +kernel
theorem dL_law_588 : decode cL_law 588 = .ok (.iload 9, 2) := by decide +kernel
theorem dL_law_590 : decode cL_law 590 = .ok (.iload 10, 2) := by decide +kernel
theorem dL_law_592 : decode cL_law 592 = .ok (.iadd, 1) := by decide +kernel
theorem dL_law_593 : decode cL_law 593 = .ok (.ifCond .le 5, 3) := by decide +kernel
theorem dL_law_596 : decode cL_law 596 = .ok (.iconst 0, 1) := by decide +kernel
theorem dL_law_597 : decode cL_law 597 = .ok (.ireturn, 1) := by decide +kernel
theorem dL_law_598 : decode cL_law 598 = .ok (.bipush 10, 2) := by decide +kernel
theorem dL_law_600 : decode cL_law 600 = .ok (.newarray .int, 2) := by decide +kernel
theorem dL_law_602 : decode cL_law 602 = .ok (.astore 11, 2) := by decide +kernel
theorem dL_law_604 : decode cL_law 604 = .ok (.bipush 10, 2) := by decide +kernel
theorem dL_law_606 : decode cL_law 606 = .ok (.newarray .int, 2) := by decide +kernel
theorem dL_law_608 : decode cL_law 608 = .ok (.astore 12, 2) := by decide +kernel
theorem dL_law_610 : decode cL_law 610 = .ok (.bipush 20, 2) := by decide +kernel
theorem dL_law_612 : decode cL_law 612 = .ok (.newarray .int, 2) := by decide +kernel
theorem dL_law_614 : decode cL_law 614 = .ok (.astore 13, 2) := by decide +kernel
theorem dL_law_616 : decode cL_law 616 = .ok (.bipush 10, 2) := by decide +kernel
theorem dL_law_618 : decode cL_law 618 = .ok (.newarray .int, 2) := by decide +kernel
theorem dL_law_620 : decode cL_law 620 = .ok (.astore 14, 2) := by decide +kernel
theorem dL_law_622 : decode cL_law 622 = .ok (.iconst 0, 1) := by decide +kernel
theorem dL_law_623 : decode cL_law 623 = .ok (.istore 15, 2) := by decide +kernel
theorem dL_law_625 : decode cL_law 625 = .ok (.iconst 0, 1) := by decide +kernel
theorem dL_law_626 : decode cL_law 626 = .ok (.istore 16, 2) := by decide +kernel
theorem dL_law_628 : decode cL_law 628 = .ok (.iconst 0, 1) := by decide +kernel
theorem dL_law_629 : decode cL_law 629 = .ok (.istore 17, 2) := by decide +kernel
theorem dL_law_631 : decode cL_law 631 = .ok (.iconst 0, 1) := by decide +kernel
theorem dL_law_632 : decode cL_law 632 = .ok (.istore 18, 2) := by decide +kernel
theorem dL_law_634 : decode cL_law 634 = .ok (.aload 12, 2) := by decide +kernel
theorem dL_law_636 : decode cL_law 636 = .ok (.iconst 0, 1) := by decide +kernel
theorem dL_law_637 : decode cL_law 637 = .ok (.iconst (-1), 1) := by decide +kernel
theorem dL_law_638 : decode cL_law 638 = .ok (.iastore, 1) := by decide +kernel
theorem dL_law_639 : decode cL_law 639 = .ok (.iload 18, 2) := by decide +kernel
theorem dL_law_641 : decode cL_law 641 = .ok (.ifCond .lt 262, 3) := by decide +kernel
theorem dL_law_644 : decode cL_law 644 = .ok (.iload 16, 2) := by decide +kernel
theorem dL_law_646 : decode cL_law 646 = .ok (.ldc 63, 2) := by decide +kernel
theorem dL_law_648 : decode cL_law 648 = .ok (.if_icmp .gt 255, 3) := by decide +kernel
theorem dL_law_651 : decode cL_law 651 = .ok (.aload 12, 2) := by decide +kernel
theorem dL_law_653 : decode cL_law 653 = .ok (.iload 18, 2) := by decide +kernel
theorem dL_law_655 : decode cL_law 655 = .ok (.dup2, 1) := by decide +kernel
theorem dL_law_656 : decode cL_law 656 = .ok (.iaload, 1) := by decide +kernel
theorem dL_law_657 : decode cL_law 657 = .ok (.iconst 1, 1) := by decide +kernel
theorem dL_law_658 : decode cL_law 658 = .ok (.iadd, 1) := by decide +kernel
theorem dL_law_659 : decode cL_law 659 = .ok (.iastore, 1) := by decide +kernel
theorem dL_law_660 : decode cL_law 660 = .ok (.aload 11, 2) := by decide +kernel
theorem dL_law_662 : decode cL_law 662 = .ok (.iload 18, 2) := by decide +kernel
theorem dL_law_664 : decode cL_law 664 = .ok (.dup2, 1) := by decide +kernel
theorem dL_law_665 : decode cL_law 665 = .ok (.iaload, 1) := by decide +kernel
theorem dL_law_666 : decode cL_law 666 = .ok (.aload 12, 2) := by decide +kernel
theorem dL_law_668 : decode cL_law 668 = .ok (.iload 18, 2) := by decide +kernel
theorem dL_law_670 : decode cL_law 670 = .ok (.iaload, 1) := by decide +kernel
theorem dL_law_671 : decode cL_law 671 = .ok (.iconst 4, 1) := by decide +kernel
theorem dL_law_672 : decode cL_law 672 = .ok (.if_icmp .ne 7, 3) := by decide +kernel
theorem dL_law_675 : decode cL_law 675 = .ok (.iconst 1, 1) := by decide +kernel
theorem dL_law_676 : decode cL_law 676 = .ok (.goto 4, 3) := by decide +kernel
theorem dL_law_679 : decode cL_law 679 = .ok (.iconst 0, 1) := by decide +kernel
theorem dL_law_680 : decode cL_law 680 = .ok (.iadd, 1) := by decide +kernel
theorem dL_law_681 : decode cL_law 681 = .ok (.iastore, 1) := by decide +kernel
theorem dL_law_682 : decode cL_law 682 = .ok (.aload 12, 2) := by decide +kernel
theorem dL_law_684 : decode cL_law 684 = .ok (.iload 18, 2) := by decide +kernel
theorem dL_law_686 : decode cL_law 686 = .ok (.aload 12, 2) := by decide +kernel
theorem dL_law_688 : decode cL_law 688 = .ok (.iload 18, 2) := by decide +kernel
theorem dL_law_690 : decode cL_law 690 = .ok (.iaload, 1) := by decide +kernel
theorem dL_law_691 : decode cL_law 691 = .ok (.iconst 4, 1) := by decide +kernel
theorem dL_law_692 : decode cL_law 692 = .ok (.if_icmp .ne 7, 3) := by decide +kernel
theorem dL_law_695 : decode cL_law 695 = .ok (.iconst 0, 1) := by decide +kernel
theorem dL_law_696 : decode cL_law 696 = .ok (.goto 8, 3) := by decide +kernel
theorem dL_law_699 : decode cL_law 699 = .ok (.aload 12, 2) := by decide +kernel
end
section
theorem dL_law_701 : decode cL_law 701 = .ok (.iload 18, 2) := by decide +kernel
theorem dL_law_703 : decode cL_law 703 = .ok (.iaload, 1) := by decide +kernel
theorem dL_law_704 : decode cL_law 704 = .ok (.iastore, 1) := by decide +kernel
theorem dL_law_705 : decode cL_law 705 = .ok (.aload 11, 2) := by decide +kernel
theorem dL_law_707 : decode cL_law 707 = .ok (.iload 18, 2) := by decide +kernel
theorem dL_law_709 : decode cL_law 709 = .ok (.iaload, 1) := by decide +kernel
theorem dL_law_710 : decode cL_law 710 = .ok (.iload 7, 2) := by decide +kernel
theorem dL_law_712 : decode cL_law 712 = .ok (.if_icmp .ge 27, 3) := by decide +kernel
theorem dL_law_715 : decode cL_law 715 = .ok (.aload 14, 2) := by decide +kernel
theorem dL_law_717 : decode cL_law 717 = .ok (.aload 11, 2) := by decide +kernel
theorem dL_law_719 : decode cL_law 719 = .ok (.iload 18, 2) := by decide +kernel
theorem dL_law_721 : decode cL_law 721 = .ok (.iaload, 1) := by decide +kernel
theorem dL_law_722 : decode cL_law 722 = .ok (.iaload, 1) := by decide +kernel
theorem dL_law_723 : decode cL_law 723 = .ok (.iconst 1, 1) := by decide +kernel
theorem dL_law_724 : decode cL_law 724 = .ok (.if_icmp .ne 15, 3) := by decide +kernel
theorem dL_law_727 : decode cL_law 727 = .ok (.aload 11, 2) := by decide +kernel
theorem dL_law_729 : decode cL_law 729 = .ok (.iload 18, 2) := by decide +kernel
theorem dL_law_731 : decode cL_law 731 = .ok (.dup2, 1) := by decide +kernel
theorem dL_law_732 : decode cL_law 732 = .ok (.iaload, 1) := by decide +kernel
theorem dL_law_733 : decode cL_law 733 = .ok (.iconst 1, 1) := by decide +kernel
theorem dL_law_734 : decode cL_law 734 = .ok (.iadd, 1) := by decide +kernel
theorem dL_law_735 : decode cL_law 735 = .ok (.iastore, 1) := by decide +kernel
theorem dL_law_736 : decode cL_law 736 = .ok (.goto (-31), 3) := by decide +kernel
theorem dL_law_739 : decode cL_law 739 = .ok (.aload 11, 2) := by decide +kernel
theorem dL_law_741 : decode cL_law 741 = .ok (.iload 18, 2) := by decide +kernel
theorem dL_law_743 : decode cL_law 743 = .ok (.iaload, 1) := by decide +kernel
theorem dL_law_744 : decode cL_law 744 = .ok (.iload 7, 2) := by decide +kernel
theorem dL_law_746 : decode cL_law 746 = .ok (.if_icmp .lt 23, 3) := by decide +kernel
theorem dL_law_749 : decode cL_law 749 = .ok (.iinc 18 (-1), 3) := by decide +kernel
theorem dL_law_752 : decode cL_law 752 = .ok (.iload 18, 2) := by decide +kernel
theorem dL_law_754 : decode cL_law 754 = .ok (.ifCond .lt (-115), 3) := by decide +kernel
theorem dL_law_757 : decode cL_law 757 = .ok (.aload 14, 2) := by decide +kernel
theorem dL_law_759 : decode cL_law 759 = .ok (.aload 11, 2) := by decide +kernel
theorem dL_law_761 : decode cL_law 761 = .ok (.iload 18, 2) := by decide +kernel
theorem dL_law_763 : decode cL_law 763 = .ok (.iaload, 1) := by decide +kernel
theorem dL_law_764 : decode cL_law 764 = .ok (.iconst 0, 1) := by decide +kernel
theorem dL_law_765 : decode cL_law 765 = .ok (.iastore, 1) := by decide +kernel
theorem dL_law_766 : decode cL_law 766 = .ok (.goto (-127), 3) := by decide +kernel
theorem dL_law_769 : decode cL_law 769 = .ok (.iinc 16 1, 3) := by decide +kernel
theorem dL_law_772 : decode cL_law 772 = .ok (.aload_n 1, 1) := by decide +kernel
theorem dL_law_773 : decode cL_law 773 = .ok (.iload_n 2, 1) := by decide +kernel
theorem dL_law_774 : decode cL_law 774 = .ok (.iload_n 3, 1) := by decide +kernel
theorem dL_law_775 : decode cL_law 775 = .ok (.iload 18, 2) := by decide +kernel
theorem dL_law_777 : decode cL_law 777 = .ok (.aload 11, 2) := by decide +kernel
theorem dL_law_779 : decode cL_law 779 = .ok (.iload 18, 2) := by decide +kernel
theorem dL_law_781 : decode cL_law 781 = .ok (.iaload, 1) := by decide +kernel
theorem dL_law_782 : decode cL_law 782 = .ok (.aload 12, 2) := by decide +kernel
theorem dL_law_784 : decode cL_law 784 = .ok (.iload 18, 2) := by decide +kernel
theorem dL_law_786 : decode cL_law 786 = .ok (.iaload, 1) := by decide +kernel
theorem dL_law_787 : decode cL_law 787 = .ok (.aload 11, 2) := by decide +kernel
theorem dL_law_789 : decode cL_law 789 = .ok (.aload 12, 2) := by decide +kernel
theorem dL_law_791 : decode cL_law 791 = .ok (.invokestatic 64, 3) := by decide +kernel
theorem dL_law_794 : decode cL_law 794 = .ok (.ifCond .ne 6, 3) := by decide +kernel
theorem dL_law_797 : decode cL_law 797 = .ok (.goto (-158), 3) := by decide +kernel
theorem dL_law_800 : decode cL_law 800 = .ok (.iload 18, 2) := by decide +kernel
theorem dL_law_802 : decode cL_law 802 = .ok (.iload 4, 2) := by decide +kernel
theorem dL_law_804 : decode cL_law 804 = .ok (.iconst 1, 1) := by decide +kernel
theorem dL_law_805 : decode cL_law 805 = .ok (.isub, 1) := by decide +kernel
theorem dL_law_806 : decode cL_law 806 = .ok (.if_icmp .ne 70, 3) := by decide +kernel
theorem dL_law_809 : decode cL_law 809 = .ok (.iconst 0, 1) := by decide +kernel
theorem dL_law_810 : decode cL_law 810 = .ok (.istore 19, 2) := by decide +kernel
theorem dL_law_812 : decode cL_law 812 = .ok (.iload 19, 2) := by decide +kernel
theorem dL_law_814 : decode cL_law 814 = .ok (.iload 4, 2) := by decide +kernel
theorem dL_law_816 : decode cL_law 816 = .ok (.if_icmp .ge 40, 3) := by decide +kernel
theorem dL_law_819 : decode cL_law 819 = .ok (.iload 15, 2) := by decide +kernel
theorem dL_law_821 : decode cL_law 821 = .ok (.ifCond .ne 35, 3) := by decide +kernel
theorem dL_law_824 : decode cL_law 824 = .ok (.aload 13, 2) := by decide +kernel
theorem dL_law_826 : decode cL_law 826 = .ok (.iconst 2, 1) := by decide +kernel
theorem dL_law_827 : decode cL_law 827 = .ok (.iload 19, 2) := by decide +kernel
theorem dL_law_829 : decode cL_law 829 = .ok (.imul, 1) := by decide +kernel
theorem dL_law_830 : decode cL_law 830 = .ok (.aload 11, 2) := by decide +kernel
theorem dL_law_832 : decode cL_law 832 = .ok (.iload 19, 2) := by decide +kernel
theorem dL_law_834 : decode cL_law 834 = .ok (.iaload, 1) := by decide +kernel
theorem dL_law_835 : decode cL_law 835 = .ok (.iastore, 1) := by decide +kernel
theorem dL_law_836 : decode cL_law 836 = .ok (.aload 13, 2) := by decide +kernel
theorem dL_law_838 : decode cL_law 838 = .ok (.iconst 2, 1) := by decide +kernel
theorem dL_law_839 : decode cL_law 839 = .ok (.iload 19, 2) := by decide +kernel
theorem dL_law_841 : decode cL_law 841 = .ok (.imul, 1) := by decide +kernel
theorem dL_law_842 : decode cL_law 842 = .ok (.iconst 1, 1) := by decide +kernel
theorem dL_law_843 : decode cL_law 843 = .ok (.iadd, 1) := by decide +kernel
theorem dL_law_844 : decode cL_law 844 = .ok (.aload 12, 2) := by decide +kernel
theorem dL_law_846 : decode cL_law 846 = .ok (.iload 19, 2) := by decide +kernel
theorem dL_law_848 : decode cL_law 848 = .ok (.iaload, 1) := by decide +kernel
theorem dL_law_849 : decode cL_law 849 = .ok (.iastore, 1) := by decide +kernel
theorem dL_law_850 : decode cL_law 850 = .ok (.iinc 19 1, 3) := by decide +kernel
theorem dL_law_853 : decode cL_law 853 = .ok (.goto (-41), 3) := by decide +kernel
theorem dL_law_856 : decode cL_law 856 = .ok (.iload 15, 2) := by decide +kernel
theorem dL_law_858 : decode cL_law 858 = .ok (.ifCond .ne 8, 3) := by decide +kernel
theorem dL_law_861 : decode cL_law 861 = .ok (.iload 16, 2) := by decide +kernel
theorem dL_law_863 : decode cL_law 863 = .ok (.goto 5, 3) := by decide +kernel
theorem dL_law_866 : decode cL_law 866 = .ok (.iload 17, 2) := by decide +kernel
theorem dL_law_868 : decode cL_law 868 = .ok (.istore 17, 2) := by decide +kernel
theorem dL_law_870 : decode cL_law 870 = .ok (.iinc 15 1, 3) := by decide +kernel
theorem dL_law_873 : decode cL_law 873 = .ok (.goto (-234), 3) := by decide +kernel
theorem dL_law_876 : decode cL_law 876 = .ok (.aload 14, 2) := by decide +kernel
theorem dL_law_878 : decode cL_law 878 = .ok (.aload 11, 2) := by decide +kernel
theorem dL_law_880 : decode cL_law 880 = .ok (.iload 18, 2) := by decide +kernel
theorem dL_law_882 : decode cL_law 882 = .ok (.iaload, 1) := by decide +kernel
theorem dL_law_883 : decode cL_law 883 = .ok (.iconst 1, 1) := by decide +kernel
theorem dL_law_884 : decode cL_law 884 = .ok (.iastore, 1) := by decide +kernel
theorem dL_law_885 : decode cL_law 885 = .ok (.iinc 18 1, 3) := by decide +kernel
theorem dL_law_888 : decode cL_law 888 = .ok (.aload 11, 2) := by decide +kernel
theorem dL_law_890 : decode cL_law 890 = .ok (.iload 18, 2) := by decide +kernel
theorem dL_law_892 : decode cL_law 892 = .ok (.iconst 0, 1) := by decide +kernel
theorem dL_law_893 : decode cL_law 893 = .ok (.iastore, 1) := by decide +kernel
theorem dL_law_894 : decode cL_law 894 = .ok (.aload 12, 2) := by decide +kernel
theorem dL_law_896 : decode cL_law 896 = .ok (.iload 18, 2) := by decide +kernel
theorem dL_law_898 : decode cL_law 898 = .ok (.iconst (-1), 1) := by decide +kernel
theorem dL_law_899 : decode cL_law 899 = .ok (.iastore, 1) := by decide +kernel
theorem dL_law_900 : decode cL_law 900 = .ok (.goto (-261), 3) := by decide +kernel
theorem dL_law_903 : decode cL_law 903 = .ok (.iload 16, 2) := by decide +kernel
theorem dL_law_905 : decode cL_law 905 = .ok (.ldc 63, 2) := by decide +kernel
theorem dL_law_907 : decode cL_law 907 = .ok (.if_icmp .le 7, 3) := by decide +kernel
theorem dL_law_910 : decode cL_law 910 = .ok (.iconst 1, 1) := by decide +kernel
theorem dL_law_911 : decode cL_law 911 = .ok (.goto 4, 3) := by decide +kernel
theorem dL_law_914 : decode cL_law 914 = .ok (.iconst 0, 1) := by decide +kernel
theorem dL_law_915 : decode cL_law 915 = .ok (.istore 19, 2) := by decide +kernel
theorem dL_law_917 : decode cL_law 917 = .ok (.aload_n 1, 1) := by decide +kernel
theorem dL_law_918 : decode cL_law 918 = .ok (.invokevirtual 68, 3) := by decide +kernel
theorem dL_law_921 : decode cL_law 921 = .ok (.iload 19, 2) := by decide +kernel
theorem dL_law_923 : decode cL_law 923 = .ok (.ifCond .eq 8, 3) := by decide +kernel
theorem dL_law_926 : decode cL_law 926 = .ok (.bipush (-6), 2) := by decide +kernel
theorem dL_law_928 : decode cL_law 928 = .ok (.goto 5, 3) := by decide +kernel
theorem dL_law_931 : decode cL_law 931 = .ok (.iload 15, 2) := by decide +kernel
theorem dL_law_933 : decode cL_law 933 = .ok (.if_icmp .ne 22, 3) := by decide +kernel
theorem dL_law_936 : decode cL_law 936 = .ok (.aload_n 1, 1) := by decide +kernel
theorem dL_law_937 : decode cL_law 937 = .ok (.invokevirtual 72, 3) := by decide +kernel
theorem dL_law_940 : decode cL_law 940 = .ok (.iload 19, 2) := by decide +kernel
theorem dL_law_942 : decode cL_law 942 = .ok (.ifCond .eq 8, 3) := by decide +kernel
theorem dL_law_945 : decode cL_law 945 = .ok (.ldc 63, 2) := by decide +kernel
theorem dL_law_947 : decode cL_law 947 = .ok (.goto 5, 3) := by decide +kernel
theorem dL_law_950 : decode cL_law 950 = .ok (.iload 16, 2) := by decide +kernel
theorem dL_law_952 : decode cL_law 952 = .ok (.if_icmp .eq 5, 3) := by decide +kernel
theorem dL_law_955 : decode cL_law 955 = .ok (.iconst 0, 1) := by decide +kernel
theorem dL_law_956 : decode cL_law 956 = .ok (.ireturn, 1) := by decide +kernel
theorem dL_law_957 : decode cL_law 957 = .ok (.iload 15, 2) := by decide +kernel
theorem dL_law_959 : decode cL_law 959 = .ok (.ifCond .ne 43, 3) := by decide +kernel
theorem dL_law_962 : decode cL_law 962 = .ok (.aload_n 1, 1) := by decide +kernel
theorem dL_law_963 : decode cL_law 963 = .ok (.invokevirtual 75, 3) := by decide +kernel
theorem dL_law_966 : decode cL_law 966 = .ok (.iload 19, 2) := by decide +kernel
theorem dL_law_968 : decode cL_law 968 = .ok (.ifCond .eq 8, 3) := by decide +kernel
theorem dL_law_971 : decode cL_law 971 = .ok (.bipush (-6), 2) := by decide +kernel
theorem dL_law_973 : decode cL_law 973 = .ok (.goto 4, 3) := by decide +kernel
theorem dL_law_976 : decode cL_law 976 = .ok (.iconst 0, 1) := by decide +kernel
theorem dL_law_977 : decode cL_law 977 = .ok (.if_icmp .ne 23, 3) := by decide +kernel
theorem dL_law_980 : decode cL_law 980 = .ok (.aload_n 1, 1) := by decide +kernel
theorem dL_law_981 : decode cL_law 981 = .ok (.iconst 0, 1) := by decide +kernel
theorem dL_law_982 : decode cL_law 982 = .ok (.iconst 0, 1) := by decide +kernel
theorem dL_law_983 : decode cL_law 983 = .ok (.invokevirtual 78, 3) := by decide +kernel
theorem dL_law_986 : decode cL_law 986 = .ok (.bipush (-3), 2) := by decide +kernel
theorem dL_law_988 : decode cL_law 988 = .ok (.if_icmp .ne 12, 3) := by decide +kernel
theorem dL_law_991 : decode cL_law 991 = .ok (.iload 6, 2) := by decide +kernel
theorem dL_law_993 : decode cL_law 993 = .ok (.ifCond .ne 7, 3) := by decide +kernel
theorem dL_law_996 : decode cL_law 996 = .ok (.iconst 1, 1) := by decide +kernel
theorem dL_law_997 : decode cL_law 997 = .ok (.goto 4, 3) := by decide +kernel
theorem dL_law_1000 : decode cL_law 1000 = .ok (.iconst 0, 1) := by decide +kernel
theorem dL_law_1001 : decode cL_law 1001 = .ok (.ireturn, 1) := by decide +kernel
theorem dL_law_1002 : decode cL_law 1002 = .ok (.iload 17, 2) := by decide +kernel
theorem dL_law_1004 : decode cL_law 1004 = .ok (.ldc 63, 2) := by decide +kernel
theorem dL_law_1006 : decode cL_law 1006 = .ok (.if_icmp .le 18, 3) := by decide +kernel
theorem dL_law_1009 : decode cL_law 1009 = .ok (.aload_n 1, 1) := by decide +kernel
theorem dL_law_1010 : decode cL_law 1010 = .ok (.invokevirtual 75, 3) := by decide +kernel
theorem dL_law_1013 : decode cL_law 1013 = .ok (.bipush (-6), 2) := by decide +kernel
theorem dL_law_1015 : decode cL_law 1015 = .ok (.if_icmp .ne 7, 3) := by decide +kernel
theorem dL_law_1018 : decode cL_law 1018 = .ok (.iconst 1, 1) := by decide +kernel
theorem dL_law_1019 : decode cL_law 1019 = .ok (.goto 4, 3) := by decide +kernel
theorem dL_law_1022 : decode cL_law 1022 = .ok (.iconst 0, 1) := by decide +kernel
theorem dL_law_1023 : decode cL_law 1023 = .ok (.ireturn, 1) := by decide +kernel
theorem dL_law_1024 : decode cL_law 1024 = .ok (.aload_n 1, 1) := by decide +kernel
theorem dL_law_1025 : decode cL_law 1025 = .ok (.invokevirtual 75, 3) := by decide +kernel
theorem dL_law_1028 : decode cL_law 1028 = .ok (.iconst 1, 1) := by decide +kernel
theorem dL_law_1029 : decode cL_law 1029 = .ok (.if_icmp .ne 12, 3) := by decide +kernel
theorem dL_law_1032 : decode cL_law 1032 = .ok (.aload_n 1, 1) := by decide +kernel
theorem dL_law_1033 : decode cL_law 1033 = .ok (.invokevirtual 72, 3) := by decide +kernel
theorem dL_law_1036 : decode cL_law 1036 = .ok (.iload 17, 2) := by decide +kernel
theorem dL_law_1038 : decode cL_law 1038 = .ok (.if_icmp .eq 5, 3) := by decide +kernel
theorem dL_law_1041 : decode cL_law 1041 = .ok (.iconst 0, 1) := by decide +kernel
theorem dL_law_1042 : decode cL_law 1042 = .ok (.ireturn, 1) := by decide +kernel
theorem dL_law_1043 : decode cL_law 1043 = .ok (.iconst 0, 1) := by decide +kernel
theorem dL_law_1044 : decode cL_law 1044 = .ok (.istore 20, 2) := by decide +kernel
theorem dL_law_1046 : decode cL_law 1046 = .ok (.iload 20, 2) := by decide +kernel
theorem dL_law_1048 : decode cL_law 1048 = .ok (.iload 4, 2) := by decide +kernel
theorem dL_law_1050 : decode cL_law 1050 = .ok (.if_icmp .ge 47, 3) := by decide +kernel
theorem dL_law_1053 : decode cL_law 1053 = .ok (.aload_n 1, 1) := by decide +kernel
theorem dL_law_1054 : decode cL_law 1054 = .ok (.iload 20, 2) := by decide +kernel
theorem dL_law_1056 : decode cL_law 1056 = .ok (.iconst 0, 1) := by decide +kernel
theorem dL_law_1057 : decode cL_law 1057 = .ok (.invokevirtual 78, 3) := by decide +kernel
theorem dL_law_1060 : decode cL_law 1060 = .ok (.aload 13, 2) := by decide +kernel
theorem dL_law_1062 : decode cL_law 1062 = .ok (.iconst 2, 1) := by decide +kernel
theorem dL_law_1063 : decode cL_law 1063 = .ok (.iload 20, 2) := by decide +kernel
theorem dL_law_1065 : decode cL_law 1065 = .ok (.imul, 1) := by decide +kernel
theorem dL_law_1066 : decode cL_law 1066 = .ok (.iaload, 1) := by decide +kernel
theorem dL_law_1067 : decode cL_law 1067 = .ok (.if_icmp .ne 22, 3) := by decide +kernel
theorem dL_law_1070 : decode cL_law 1070 = .ok (.aload_n 1, 1) := by decide +kernel
theorem dL_law_1071 : decode cL_law 1071 = .ok (.iload 20, 2) := by decide +kernel
theorem dL_law_1073 : decode cL_law 1073 = .ok (.iconst 1, 1) := by decide +kernel
theorem dL_law_1074 : decode cL_law 1074 = .ok (.invokevirtual 78, 3) := by decide +kernel
theorem dL_law_1077 : decode cL_law 1077 = .ok (.aload 13, 2) := by decide +kernel
theorem dL_law_1079 : decode cL_law 1079 = .ok (.iconst 2, 1) := by decide +kernel
theorem dL_law_1080 : decode cL_law 1080 = .ok (.iload 20, 2) := by decide +kernel
theorem dL_law_1082 : decode cL_law 1082 = .ok (.imul, 1) := by decide +kernel
theorem dL_law_1083 : decode cL_law 1083 = .ok (.iconst 1, 1) := by decide +kernel
theorem dL_law_1084 : decode cL_law 1084 = .ok (.iadd, 1) := by decide +kernel
theorem dL_law_1085 : decode cL_law 1085 = .ok (.iaload, 1) := by decide +kernel
theorem dL_law_1086 : decode cL_law 1086 = .ok (.if_icmp .eq 5, 3) := by decide +kernel
theorem dL_law_1089 : decode cL_law 1089 = .ok (.iconst 0, 1) := by decide +kernel
theorem dL_law_1090 : decode cL_law 1090 = .ok (.ireturn, 1) := by decide +kernel
theorem dL_law_1091 : decode cL_law 1091 = .ok (.iinc 20 1, 3) := by decide +kernel
theorem dL_law_1094 : decode cL_law 1094 = .ok (.goto (-48), 3) := by decide +kernel
theorem dL_law_1097 : decode cL_law 1097 = .ok (.aload_n 1, 1) := by decide +kernel
theorem dL_law_1098 : decode cL_law 1098 = .ok (.iload 4, 2) := by decide +kernel
theorem dL_law_1100 : decode cL_law 1100 = .ok (.iconst 0, 1) := by decide +kernel
theorem dL_law_1101 : decode cL_law 1101 = .ok (.invokevirtual 78, 3) := by decide +kernel
theorem dL_law_1104 : decode cL_law 1104 = .ok (.iconst (-1), 1) := by decide +kernel
theorem dL_law_1105 : decode cL_law 1105 = .ok (.if_icmp .ne 33, 3) := by decide +kernel
theorem dL_law_1108 : decode cL_law 1108 = .ok (.aload_n 1, 1) := by decide +kernel
theorem dL_law_1109 : decode cL_law 1109 = .ok (.iconst 0, 1) := by decide +kernel
theorem dL_law_1110 : decode cL_law 1110 = .ok (.iconst 2, 1) := by decide +kernel
theorem dL_law_1111 : decode cL_law 1111 = .ok (.invokevirtual 78, 3) := by decide +kernel
theorem dL_law_1114 : decode cL_law 1114 = .ok (.bipush (-2), 2) := by decide +kernel
theorem dL_law_1116 : decode cL_law 1116 = .ok (.if_icmp .ne 22, 3) := by decide +kernel
theorem dL_law_1119 : decode cL_law 1119 = .ok (.aload_n 1, 1) := by decide +kernel
theorem dL_law_1120 : decode cL_law 1120 = .ok (.iconst 0, 1) := by decide +kernel
theorem dL_law_1121 : decode cL_law 1121 = .ok (.invokevirtual 81, 3) := by decide +kernel
theorem dL_law_1124 : decode cL_law 1124 = .ok (.ifCond .lt 14, 3) := by decide +kernel
theorem dL_law_1127 : decode cL_law 1127 = .ok (.aload_n 1, 1) := by decide +kernel
theorem dL_law_1128 : decode cL_law 1128 = .ok (.iconst 0, 1) := by decide +kernel
theorem dL_law_1129 : decode cL_law 1129 = .ok (.iconst 0, 1) := by decide +kernel
theorem dL_law_1130 : decode cL_law 1130 = .ok (.invokevirtual 78, 3) := by decide +kernel
theorem dL_law_1133 : decode cL_law 1133 = .ok (.bipush (-3), 2) := by decide +kernel
theorem dL_law_1135 : decode cL_law 1135 = .ok (.if_icmp .eq 5, 3) := by decide +kernel
theorem dL_law_1138 : decode cL_law 1138 = .ok (.iconst 0, 1) := by decide +kernel
theorem dL_law_1139 : decode cL_law 1139 = .ok (.ireturn, 1) := by decide +kernel
theorem dL_law_1140 : decode cL_law 1140 = .ok (.iconst 1, 1) := by decide +kernel
theorem dL_law_1141 : decode cL_law 1141 = .ok (.ireturn, 1) := by decide +kernel
end
section
set_option maxRecDepth 40000 in
theorem jL1 : ∀ w ∈ wsL_law_r1, w ∈ lw_tbl := fun w h => (goodIn_r wsL_law_r1 [20, 21, 13, 455, 456, 59, 457, 22, 23, 24, 25, 26, 27, 28, 29, 14, 150, 60, 61, 15, 151, 76, 77, 16] (by decide +kernel) (by decide +kernel) w h).1
set_option maxRecDepth 40000 in
theorem jL2 : ∀ w ∈ wsL_law_r2, w ∈ lw_tbl := fun w h => (goodIn_r wsL_law_r2 [152, 123, 124, 17, 153, 133, 154, 135, 18, 30, 31, 32, 33, 46, 47, 34, 35, 36, 37, 48, 49, 38, 40, 0] (by decide +kernel) (by decide +kernel) w h).1
set_option maxRecDepth 40000 in
theorem jL3 : ∀ w ∈ wsL_law_r3, w ∈ lw_tbl := fun w h => (goodIn_r wsL_law_r3 [41, 42, 44, 1, 45, 63, 64, 65, 66, 67, 78, 79, 80, 81, 84, 85, 86, 122, 87, 88, 89, 82, 83, 126] (by decide +kernel) (by decide +kernel) w h).1
set_option maxRecDepth 40000 in
theorem jL4 : ∀ w ∈ wsL_law_r4, w ∈ lw_tbl := fun w h => (goodIn_r wsL_law_r4 [127, 128, 137, 138, 139, 140, 432, 433, 12, 434, 435, 436, 437, 438, 439, 170, 171, 172, 173, 174, 175, 176, 177, 178] (by decide +kernel) (by decide +kernel) w h).1
set_option maxRecDepth 40000 in
theorem jL5 : ∀ w ∈ wsL_law_r5, w ∈ lw_tbl := fun w h => (goodIn_r wsL_law_r5 [68, 179, 180, 181, 182, 90, 183, 184, 185, 186, 187, 188, 189, 190, 191, 192, 193, 194, 129, 195, 196, 197, 198, 199] (by decide +kernel) (by decide +kernel) w h).1
set_option maxRecDepth 40000 in
theorem jL6 : ∀ w ∈ wsL_law_r6, w ∈ lw_tbl := fun w h => (goodIn_r wsL_law_r6 [200, 201, 202, 203, 204, 205, 206, 207, 208, 209, 210, 222, 211, 212, 213, 214, 215, 216, 217, 218, 219, 220, 221, 223] (by decide +kernel) (by decide +kernel) w h).1
set_option maxRecDepth 40000 in
theorem jL7 : ∀ w ∈ wsL_law_r7, w ∈ lw_tbl := fun w h => (goodIn_r wsL_law_r7 [224, 225, 226, 265, 266, 267, 268, 269, 240, 241, 242, 256, 257, 258, 259, 260, 253, 254, 255, 261, 262, 263, 264, 270] (by decide +kernel) (by decide +kernel) w h).1
set_option maxRecDepth 40000 in
theorem jL8 : ∀ w ∈ wsL_law_r8, w ∈ lw_tbl := fun w h => (goodIn_r wsL_law_r8 [271, 272, 273, 274, 275, 276, 277, 278, 279, 280, 281, 247, 248, 249, 250, 251, 236, 237, 238, 239, 252, 295, 296, 297] (by decide +kernel) (by decide +kernel) w h).1
set_option maxRecDepth 40000 in
theorem jL9 : ∀ w ∈ wsL_law_r9, w ∈ lw_tbl := fun w h => (goodIn_r wsL_law_r9 [298, 286, 287, 288, 289, 290, 299, 300, 301, 302, 227, 228, 229, 230, 231, 232, 233, 234, 235, 243, 244, 245, 246, 426] (by decide +kernel) (by decide +kernel) w h).1
set_option maxRecDepth 40000 in
theorem jL10 : ∀ w ∈ wsL_law_r10, w ∈ lw_tbl := fun w h => (goodIn_r wsL_law_r10 [427, 428, 429, 318, 319, 320, 321, 430, 349, 350, 351, 352, 431, 380, 381, 382, 322, 323, 324, 325, 307, 308, 309, 326] (by decide +kernel) (by decide +kernel) w h).1
set_option maxRecDepth 40000 in
theorem jL11 : ∀ w ∈ wsL_law_r11, w ∈ lw_tbl := fun w h => (goodIn_r wsL_law_r11 [328, 4, 329, 314, 316, 3, 317, 303, 304, 305, 306, 310, 312, 2, 313, 440, 441, 442, 443, 444, 445, 446, 447, 448] (by decide +kernel) (by decide +kernel) w h).1
set_option maxRecDepth 40000 in
theorem jL12 : ∀ w ∈ wsL_law_r12, w ∈ lw_tbl := fun w h => (goodIn_r wsL_law_r12 [449, 450, 452, 453, 19, 454, 451, 358, 359, 360, 361, 330, 331, 332, 333, 334, 335, 336, 337, 92, 93, 338, 340, 5] (by decide +kernel) (by decide +kernel) w h).1
set_option maxRecDepth 40000 in
theorem jL13 : ∀ w ∈ wsL_law_r13, w ∈ lw_tbl := fun w h => (goodIn_r wsL_law_r13 [341, 91, 94, 342, 343, 345, 6, 346, 347, 348, 353, 355, 7, 356, 357, 362, 364, 8, 365, 366, 367, 368, 369, 370] (by decide +kernel) (by decide +kernel) w h).1
set_option maxRecDepth 40000 in
theorem jL14 : ∀ w ∈ wsL_law_r14, w ∈ lw_tbl := fun w h => (goodIn_r wsL_law_r14 [372, 9, 373, 386, 387, 388, 389, 374, 375, 377, 10, 378, 379, 383, 384, 385, 390, 392, 11, 393, 418, 419, 420, 421] (by decide +kernel) (by decide +kernel) w h).1
set_option maxRecDepth 40000 in
theorem jL15 : ∀ w ∈ wsL_law_r15, w ∈ lw_tbl := fun w h => (goodIn_r wsL_law_r15 [422, 423, 424, 425, 394, 395, 396, 397, 398, 399, 400, 401, 402, 403, 404, 405, 406, 407, 408, 409, 410, 411, 412, 413] (by decide +kernel) (by decide +kernel) w h).1
set_option maxRecDepth 40000 in
theorem jL16 : ∀ w ∈ wsL_law_r16, w ∈ lw_tbl := fun w h => (goodIn_r wsL_law_r16 [414, 415, 416, 417, 282, 283, 284, 285, 291, 292, 293, 294] (by decide +kernel) (by decide +kernel) w h).1
set_option maxRecDepth 40000 in
theorem jX5 : ∀ w ∈ wsX50, w ∈ lw_tbl := fun w h => (goodIn_r wsX50 [155, 157, 159, 161, 163, 165, 167] (by decide +kernel) (by decide +kernel) w h).1
set_option maxRecDepth 40000 in
theorem jX1 : ∀ w ∈ wsX10, w ∈ lw_tbl := fun w h => (goodIn_r wsX10 [50, 52, 54, 56] (by decide +kernel) (by decide +kernel) w h).1
set_option maxRecDepth 40000 in
theorem jX2 : ∀ w ∈ wsX20, w ∈ lw_tbl := fun w h => (goodIn_r wsX20 [69, 71, 73] (by decide +kernel) (by decide +kernel) w h).1
set_option maxRecDepth 40000 in
theorem jX3 : ∀ w ∈ wsX30, w ∈ lw_tbl := fun w h => (goodIn_r wsX30 [95, 97, 99, 101, 103, 105, 107, 109, 111, 113, 115, 117, 119] (by decide +kernel) (by decide +kernel) w h).1
set_option maxRecDepth 40000 in
theorem jX0 : ∀ w ∈ wsX00, w ∈ lw_tbl := fun w h => (goodIn_r wsX00 [130] (by decide +kernel) (by decide +kernel) w h).1
set_option maxRecDepth 40000 in
theorem jX4 : ∀ w ∈ wsX40, w ∈ lw_tbl := fun w h => (goodIn_r wsX40 [141, 143, 145, 147] (by decide +kernel) (by decide +kernel) w h).1
theorem wsL_law_in : ∀ w ∈ wsL_law, w ∈ lw_tbl := (List.forall_mem_append.mpr ⟨(List.forall_mem_append.mpr ⟨(List.forall_mem_append.mpr ⟨(List.forall_mem_append.mpr ⟨(List.forall_mem_append.mpr ⟨(List.forall_mem_append.mpr ⟨(List.forall_mem_append.mpr ⟨(List.forall_mem_append.mpr ⟨jL1, (List.forall_mem_append.mpr ⟨jL2, (List.forall_mem_append.mpr ⟨jL3, (List.forall_mem_append.mpr ⟨jL4, (List.forall_mem_append.mpr ⟨jL5, (List.forall_mem_append.mpr ⟨jL6, (List.forall_mem_append.mpr ⟨jL7, (List.forall_mem_append.mpr ⟨jL8, (List.forall_mem_append.mpr ⟨jL9, (List.forall_mem_append.mpr ⟨jL10, (List.forall_mem_append.mpr ⟨jL11, (List.forall_mem_append.mpr ⟨jL12, (List.forall_mem_append.mpr ⟨jL13, (List.forall_mem_append.mpr ⟨jL14, (List.forall_mem_append.mpr ⟨jL15, jL16⟩)⟩)⟩)⟩)⟩)⟩)⟩)⟩)⟩)⟩)⟩)⟩)⟩)⟩)⟩), jX5⟩), jX1⟩), jX2⟩), jX3⟩), jX0⟩), jX4⟩), fun _ h => absurd h List.not_mem_nil⟩)
theorem inlX0 : ∀ w ∈ wsX00, w ∈ wsL_law := fun _ h => List.mem_append_left _ (List.mem_append_left _ (List.mem_append_right _ h))
theorem inlX1 : ∀ w ∈ wsX10, w ∈ wsL_law := fun _ h => List.mem_append_left _ (List.mem_append_left _ (List.mem_append_left _ (List.mem_append_left _ (List.mem_append_left _ (List.mem_append_right _ h)))))
theorem inlX2 : ∀ w ∈ wsX20, w ∈ wsL_law := fun _ h => List.mem_append_left _ (List.mem_append_left _ (List.mem_append_left _ (List.mem_append_left _ (List.mem_append_right _ h))))
theorem inlX3 : ∀ w ∈ wsX30, w ∈ wsL_law := fun _ h => List.mem_append_left _ (List.mem_append_left _ (List.mem_append_left _ (List.mem_append_right _ h)))
theorem inlX4 : ∀ w ∈ wsX40, w ∈ wsL_law := fun _ h => List.mem_append_left _ (List.mem_append_right _ h)
theorem inlX5 : ∀ w ∈ wsX50, w ∈ wsL_law := fun _ h => List.mem_append_left _ (List.mem_append_left _ (List.mem_append_left _ (List.mem_append_left _ (List.mem_append_left _ (List.mem_append_left _ (List.mem_append_right _ h))))))
end
section
/-! THE CLAIM OUT OF ONE WALK OF THE LAW'S BODY. Your part is whole_start (and what it stands on); all else here is the same for every law, but numbers. -/
def R_law : String := "CutOnceLaw"
def lw_P (b : Addr) (xs : List Int32) (args : Array Value) (s : State) : Prop := args = #[.ref b] ∧ s.IntsAt b xs ∧ xs.length ≤ 260 ∧ (Jvm.Cond.and given_1 narrow_1).before args s = true
def lw_Q (_ : Array Value) (s : State) (o : Outcome) (t : State) : Prop := o = .returned (some (.int 1)) ∧ Framed s o t [] 600000 7302250
def lw_Z (below : List Frame) (a : Array Value) (s : State) : State → Prop := fun t => ∃ o, t.status = .running ∧ Ended t below o ∧ lw_Q a s o t
/-- the law's own end, with 1 on the stack, nothing written that was there before, its room as the claim has it -/
theorem lw_ret {p : Program} {l : Launch} {e : Env} {s : State} {m : MethodId} {below : List Frame} {meth : Method} {c : Code} {b : Nat} (hx : p.tables.exec = Jvm.exec) (hb : c.code = code) (hr : meth.sig.returnType = ret) (hlocks : meth.locks = false) {pc : Nat} {H : Heap} {ls : Array Slot} (hdg : decode code pc = .ok (.ireturn, 1)) : W p l e room_1 s m #[Value.ref b] below meth c H [] 600000 7302250 (lw_Z below #[Value.ref b] s) (F0 m pc ls [.int 1]) := by
  intro T hT X
  obtain ⟨fs, hret, hrun, hended, hW, hframe⟩ := X.leave (v := some (.int 1)) (hlocks := hlocks) (fun h => by rw [hr] at h; cases h)
  have hmeth' : T.vm.method? m = some meth := X.method'
  refine ⟨T.setFrames fs, ?_, .returned (some (.int 1)), hrun, hended, rfl, ⟨_, rfl⟩, hW, hframe⟩
  jvm_step X.here [X.here.top, hx, hb, hdg, hmeth', hr, ret, narrow_b1]
  (try refine ⟨rfl, ?_⟩); (try refine ⟨rfl, ?_⟩)
  first | (intro acts; rw [hret _ acts rfl rfl rfl]) | rw [hret _ _ rfl rfl rfl]
  exact Steps.refl _
/-- what holds at the law's entry: the machine, the code, the tables' words (any of lw_tbl by 'hts w (by decide +kernel)'), the script of L ints xs at the cell b, what the Statement gives of the start (any of its parts by flat_of_before) -/
def lw_At (p : Program) (s : State) (m : MethodId) (meth : Method) (c : Code) (b L : Nat) (xs : Nat → Int32) : Prop :=
  p.tables.exec = Jvm.exec ∧ c.code = code ∧ meth.sig.returnType = ret ∧ c.maxLocals = 21 ∧ s.vm.findClass R_law = some m.cls ∧ (∀ w ∈ lw_tbl, w.before #[Value.ref b] s = true) ∧ va_X b L xs s s.heap ∧ b < s.heap.size ∧ meth.locks = false ∧ (Jvm.Cond.and given_1 narrow_1).before #[Value.ref b] s = true
end
section
/-- the law's walk: fresh cells only, the script at b -/
abbrev lJ (p : Program) (l : Launch) (e : Env) (s : State) (m : MethodId) (below : List Frame) (meth : Method) (c : Code) (b : Nat) (cells slots : Nat) (E : gE) (ws : va_W) (lv : List (Nat × Value)) (pc : Nat) (st : List Value) : Prop :=
  gJ p l e room_1 s m #[Value.ref b] below meth c cells slots (lw_Z below #[Value.ref b] s) E (fun q => s.heap.size ≤ q) 21 ws lv pc st
def lC (p : Program) (s : State) (m : MethodId) (meth : Method) (c : Code) (b L : Nat) (xs : Nat → Int32) (E : gE) : Prop :=
  gC p s m #[Value.ref b] meth c cL_law 21 RL wsL_law E (fun q => s.heap.size ≤ q) ∧ va_X b L xs s s.heap ∧ b < s.heap.size ∧ meth.sig.returnType = ret ∧ L ≤ 260
/-- a method that reads the script, and answers -/
def gMetX (E : gE) (l : Launch) (y : MethodName) (ws : List Cond) (rm : Room) (as : List Value) (b L : Nat) (xs : Nat → Int32) (post : Option Value → Prop) : Prop := ∀ sz : Nat, Met l y ws rm (va_Pc as (fun U => U.heap.size = sz ∧ gK E U ∧ va_X b L xs U U.heap ∧ b < sz)) (gPost E (va_A [] sz) (fun r w => post r ∧ w = [])) 0 0 (va_A [] sz)
def pI32 (v : Option Value) : Prop := ∃ r : Int, v = some (.int (iI r)) ∧ -2147483648 ≤ r ∧ r < 2147483648
theorem pI32_of (x : Int32) : pI32 (some (.int x)) := ⟨x.toInt, by rw [iI_of], Int32.le_toInt _, Int32.toInt_lt _⟩
section LX0
variable {p : Program} {l : Launch} {e : Env} {R : Room} {s : State} {m : MethodId} {args : Array Value} {below : List Frame} {meth : Method} {c : Code} {cells slots : Nat} {Q : State → Prop} {E : gE} {A : Nat → Prop} {nL : Nat} {ws : va_W} {lv : List (Nat × Value)} {pc : Nat} {st : List Value} {cc : ByteArray} {own : String} {Ts : List Cond} {b L : Nat} {xs : Nat → Int32}
theorem g_topi {x : Int32} (kk : ∀ z : Int, -2147483648 ≤ z ∧ z < 2147483648 → gJ p l e R s m args below meth c cells slots Q E A nL ws lv pc (.int (iI z) :: st)) : gJ p l e R s m args below meth c cells slots Q E A nL ws lv pc (.int x :: st) := by
  have h := kk x.toInt ⟨Int32.le_toInt _, Int32.toInt_lt _⟩
  rw [iI_of] at h
  exact h
theorem g_ishr_r (n' : Nat) (C : gC p s m args meth c cc nL own Ts E A) {x y : Int32} (hdg : decode cc pc = .ok (.ishr, 1)) (hp : pc + 1 = n') (kk : ∀ z : Int32, gJ p l e R s m args below meth c cells slots Q E A nL ws lv n' (.int z :: st)) : gJ p l e R s m args below meth c cells slots Q E A nL ws lv pc (.int y :: .int x :: st) := by
  intro H locs ls hP hD hS hl
  subst hp
  exact lv_ishr C.1 C.2.1 hdg (kk _ H locs ls hP hD hS hl)
theorem g_cmpN (n' : Nat) (C : gC p s m args meth c cc nL own Ts E A) {x y : Int32} {off : Int} (t : Nat) (hdg : decode cc pc = .ok (.if_icmp .ne off, 3)) (ht : (pc : Int) + off = (t : Int)) (hp : pc + 3 = n') (hxy : x = y) (kk : gJ p l e R s m args below meth c cells slots Q E A nL ws lv n' st) : gJ p l e R s m args below meth c cells slots Q E A nL ws lv pc (.int y :: .int x :: st) := by
  intro H locs ls hP hD hS hl
  subst hp
  exact lv_icmp_ne C.1 C.2.1 hdg ht (fun h => absurd hxy h) (fun _ => kk H locs ls hP hD hS hl)
theorem g_cmpE (t : Nat) (C : gC p s m args meth c cc nL own Ts E A) {x y : Int32} {off : Int} (hdg : decode cc pc = .ok (.if_icmp .eq off, 3)) (ht : (pc : Int) + off = (t : Int)) (hxy : x = y) (kk : gJ p l e R s m args below meth c cells slots Q E A nL ws lv t st) : gJ p l e R s m args below meth c cells slots Q E A nL ws lv pc (.int y :: .int x :: st) := by
  intro H locs ls hP hD hS hl
  exact lv_icmp_eq C.1 C.2.1 hdg ht (fun _ => kk H locs ls hP hD hS hl) (fun h => absurd hxy h)
theorem g_lcE (n1 t : Nat) (C : gC p s m args meth c cc nL own Ts E A) {x y : Int64} {off : Int} (hdg0 : decode cc pc = .ok (.lcmp, 1)) (hp0 : pc + 1 = n1) (hdg : decode cc n1 = .ok (.ifCond .eq off, 3)) (ht : (n1 : Int) + off = (t : Int)) (hxy : x = y) (kk : gJ p l e R s m args below meth c cells slots Q E A nL ws lv t st) : gJ p l e R s m args below meth c cells slots Q E A nL ws lv pc (.long y :: .long x :: st) := by
  intro H locs ls hP hD hS hl
  subst hp0
  subst hxy
  refine W.lcmp C.1 C.2.1 hdg0 ?_
  have e0 : lg_cmp x x = iI 0 := by
    unfold lg_cmp
    rw [if_neg Int64.lt_irrefl, if_pos rfl]
    rfl
  rw [e0]
  exact g_if_eq t _ C (a := 0) hdg ht rfl (by omega) (fun _ => kk) (fun q => absurd rfl q) H locs ls hP hD hS hl
theorem g_sldX (n' : Nat) (C : gC p s m args meth c cc nL own Ts E A) (hX : va_X b L xs s s.heap) (hb : b < s.heap.size) (hA : ¬ A b) {z : Int} (hdg : decode cc pc = .ok (.iaload, 1)) (hp : pc + 1 = n') (hz : 0 ≤ z ∧ z < L ∧ L < 2147483648) (kk : ∀ x : Int32, gJ p l e R s m args below meth c cells slots Q E A nL ws lv n' (.int x :: st)) : gJ p l e R s m args below meth c cells slots Q E A nL ws lv pc (.int (iI z) :: .ref b :: st) := by
  intro H locs ls hP hD hS hl
  subst hp
  exact va_sld C.1 C.2.1 hX hb hA hS (iI_in hz.1 hz.2.1 (by omega)) hdg (kk _ H locs ls hP hD hS hl)
theorem g_slenX (n' : Nat) (C : gC p s m args meth c cc nL own Ts E A) (hX : va_X b L xs s s.heap) (hb : b < s.heap.size) (hA : ¬ A b) (hdg : decode cc pc = .ok (.arraylength, 1)) (hp : pc + 1 = n') (kk : gJ p l e R s m args below meth c cells slots Q E A nL ws lv n' (.int (iI (L : Int)) :: st)) : gJ p l e R s m args below meth c cells slots Q E A nL ws lv pc (.ref b :: st) := by
  intro H locs ls hP hD hS hl
  subst hp
  exact va_slen C.1 C.2.1 hX hb hA hS hdg (kk H locs ls hP hD hS hl)
theorem g_blindX {as : List Value} {sz : Nat} : FrameBlind (va_Pc as (fun U => U.heap.size = sz ∧ gK E U ∧ va_X b L xs U U.heap ∧ b < sz)) := fun a U g mk q => by obtain ⟨q0, q1, qK, qX, qb⟩ := q; exact ⟨q0, q1, gK.moved (u := U) (U := U.calling g mk a) (Vm.Alike.refl U.vm) qK, va_X.moved (u := U) (U := U.calling g mk a) (Vm.Alike.refl U.vm) qX, qb⟩
theorem g_callX (n' : Nat) {k maxL index : Nat} {y : MethodName} {bytes : ByteArray} {ret : Option FieldType} {wsy : List Cond} {rm : Room} {as rest : List Value} {post : Option Value → Prop} (C : gC p s m args meth c cc nL own Ts E A) (hX : va_X b L xs s s.heap) (hb : b < s.heap.size) (hA : ¬ A b) (hdg : decode cc pc = .ok (.invokestatic index, 3)) (hp : pc + 3 = n') (hM : gMetX E l y wsy rm as b L xs post) (cw : CallB R s args own index y bytes maxL ret wsy rm 0 0 k ∧ (Cond.static y).before args s = true) (hst : as.reverse ++ rest = st) (hlen : as.length = k) (hcat : (rest.map fun v => v.category).sum ≤ 8) (hf : cells + 0 ≤ R.cells ∧ slots + 0 ≤ R.slots)
    (kk : ∀ v, post v → gJ p l e R s m args below meth c cells slots Q E A nL ws lv n' (v.toList ++ rest)) : gJ p l e R s m args below meth c cells slots Q E A nL ws lv pc st := by
  intro H locs ls hP hD hS hl
  subst hp
  have hXH : va_X b L xs s H := hX.kept (hS.2.1 b hb hA)
  have hbH : b < H.size := Nat.lt_of_lt_of_le hb hS.1
  have run : va_Run p l e R s m args below meth c H locs cells slots 0 0 (F0 m pc ls st) rest (gPost E (va_A [] H.size) (fun r w => post r ∧ w = []) as.toArray) (va_A [] H.size) :=
    va_runS ⟨C.1, C.2.1, C.2.2.1, C.2.2.2.1, C.2.2.2.2.1⟩ (hM H.size) cw ⟨g_blindX, fun U hU hW => ⟨rfl, by rw [hU], gK.moved hW.alike C.2.2.2.2.2.1, by rw [hU]; exact hXH.moved hW.alike, hbH⟩⟩ rfl hlen hl.1 hst.symm (lv_room hcat) hdg hf
  intro T hT X
  obtain ⟨v, st₀, t, T', L', h0, X', hL, e1, e2, ⟨⟨v', w, hv, hpost, hPw, hKw, hDw⟩, hz, hk⟩, st⟩ := run T hT X
  cases hv
  rw [h0] at hz hk
  rw [← e1] at hz hk hPw
  have hF := va_free (wc := []) hD hS C.2.2.2.2.2.2.1 [] rfl
  obtain ⟨hP2, hD2⟩ := g_world (wc := []) (cu := []) hP hD rfl rfl (by rw [hpost.2]) hk hPw
  rw [hpost.2] at hP2 hD2
  have e3 : gPut ws [] [] = ws := by unfold gPut; rfl
  rw [e3] at hP2 hD2
  obtain ⟨t2, a1, b1⟩ := kk v hpost.1 T'.heap (locs ++ L') ls hP2 hD2 ⟨Nat.le_trans hS.1 hz, fun q h1 h2 => by rw [hk q (Nat.lt_of_lt_of_le h1 hS.1) (fun z => h2 (hF q z))]; exact hS.2.1 q h1 h2, fun q hq => by
      rcases List.mem_append.mp hq with h | h
      · exact hS.2.2 q h
      · exact hF _ (hL q h)⟩ hl T' rfl X'
  exact ⟨t2, st t2 a1, b1⟩
end LX0
theorem lL_cell_7 : Cond.constant RL 7 (15485863) ∈ wsL_cell := by decide +kernel
theorem lL_low_8 : Cond.constant RL 8 (2147483647) ∈ wsL_low := by decide +kernel
set_option maxHeartbeats 4000000 in
theorem k_L_cell (E : gE) (l : Launch) {b L : Nat} {xs : Nat → Int32} {k : Int} (hk : 0 ≤ k ∧ k < 2147483648) (hL : L ≤ 260) : gMetX E l yL_cell wsL_cell { frames := 0, cells := 0, slots := 0, locals := 0 } [.ref b, .int (iI k)] b L xs pI32 := by
  intro sz
  refine Met.ofW (cc := cL_cell) (maxL := 2) (ret := some .int) (by decide) rfl ?_
  intro p e s m args below meth c s₁ B hml hv
  obtain ⟨rfl, hsz, hK, hX, hbl⟩ := hv
  subst hsz
  have C : gC p s m ([.ref b, .int (iI k)] : List Value).toArray meth c cL_cell 2 yL_cell.cls wsL_cell E (va_A [] s.heap.size) := ⟨B.exec, B.bytes, hml, findClass_of_methodNamed B.named, atoms_spec (ws := wsL_cell) B.pre, hK, fun q h => Or.inr h, B.notSynchronized⟩
  have hr := B.returns
  have hA : ¬ va_A [] s.heap.size b := by
    rintro (⟨k, e, h⟩ | h)
    · simp at h
    · omega
  rw [lg_entry_eq]
  have J : gJ p l e { frames := 0, cells := 0, slots := 0, locals := 0 } s m ([.ref b, .int (iI k)] : List Value).toArray below meth c 0 0 (MQ below (gPost E (va_A [] s.heap.size) (fun r w => pI32 r ∧ w = [])) ([.ref b, .int (iI k)] : List Value).toArray s 0 0 (va_A [] s.heap.size)) E (va_A [] s.heap.size) 2 [] (lv_args 0 [.ref b, .int (iI k)]) 0 [] := by
    refine g_iload_n 1 C 1 dL_cell_0 rfl rfl ?_
    refine g_aload_n 2 C 0 dL_cell_1 rfl rfl ?_
    refine g_slenX 3 C hX hbl hA dL_cell_2 rfl ?_
    refine g_icmp_ge 12 6 C dL_cell_3 (by decide) rfl (by omega) ?_ ?_
    · intro _
      refine g_ldc 14 C (15485863) dL_cell_12 rfl lL_cell_7 (by decide) ?_
      refine g_iload_n 15 C 1 dL_cell_14 rfl rfl ?_
      refine g_imul 16 C dL_cell_15 rfl ?_
      refine g_sipush 19 C dL_cell_16 rfl (by decide) ?_
      refine g_iadd 20 C dL_cell_19 rfl ?_
      exact g_iret C hr dL_cell_20 ⟨pI32_of _, rfl⟩
    · intro h3
      refine g_aload_n 7 C 0 dL_cell_6 rfl rfl ?_
      refine g_iload_n 8 C 1 dL_cell_7 rfl rfl ?_
      refine g_sldX 9 C hX hbl hA dL_cell_8 rfl (by omega) ?_
      intro x
      refine g_goto 20 C dL_cell_9 (by decide) ?_
      exact g_iret C hr dL_cell_20 ⟨pI32_of _, rfl⟩
  exact J s.heap [] _ (fun k q h => by simp at h) ⟨fun i j p q h => by simp at h, fun k q h => by simp at h⟩ va_S.rf (lv_entry [.ref b, .int (iI k)] (n := 2) (Nat.le_of_ble_eq_true rfl))
theorem iI_and31 (x : Int32) : 0 ≤ (x &&& iI 2147483647).toInt ∧ (x &&& iI 2147483647).toInt < 2147483648 := by
  have e1 : (x &&& iI 2147483647).toBitVec.toNat = x.toBitVec.toNat % 2147483648 := by
    have h : (x &&& iI 2147483647).toBitVec = x.toBitVec &&& (iI 2147483647).toBitVec := rfl
    have h2 : (iI 2147483647).toBitVec.toNat = 2 ^ 31 - 1 := by decide
    rw [h, BitVec.toNat_and, h2, Nat.and_two_pow_sub_one_eq_mod]
  have e2 : (x &&& iI 2147483647).toInt = ((x &&& iI 2147483647).toBitVec.toNat : Int) := BitVec.toInt_eq_toNat_of_lt (by rw [e1]; omega)
  rw [e2, e1]
  omega
set_option maxHeartbeats 4000000 in
theorem k_L_low (E : gE) (l : Launch) {v n : Int} (hn : 0 < n ∧ n < 2147483648) : gMet E l yL_low wsL_low { frames := 0, cells := 0, slots := 0, locals := 0 } 0 0 [.int (iI v), .int (iI n)] [] (fun r w => ∃ z : Int, (r = some (.int (iI z)) ∧ 0 ≤ z ∧ z < n) ∧ w = []) := by
  refine g_start (cc := cL_low) (maxL := 2) (ret := some .int) (by decide) rfl (Nat.le_of_ble_eq_true rfl) ?_
  intro p_ e_ s_ m_ args_ below_ meth_ c_ A_ C hr hnm
  refine g_iload_n 1 C 0 dL_low_0 rfl rfl ?_
  refine g_ldc 3 C (2147483647) dL_low_1 rfl lL_low_8 (by decide) ?_
  refine g_iand_r 4 C dL_low_3 rfl ?_
  have hb := iI_and31 (iI v)
  rw [← iI_of (iI v &&& iI 2147483647)]
  refine g_iload_n 5 C 1 dL_low_4 rfl rfl ?_
  refine g_irem 6 C dL_low_5 rfl (by omega) ?_
  exact g_iret C hr dL_low_6 ⟨_, ⟨rfl, Int.emod_nonneg _ (by omega), Int.emod_lt_of_pos _ hn.1⟩, rfl⟩
theorem cdL_cell : yL_cell.cls ≠ "java/lang/invoke/MethodHandle" ∧ yL_cell.cls ≠ "java/lang/invoke/VarHandle" ∧ (parseMethodDescriptor yL_cell.desc).map (fun d => d.parameters.length) = some 2 := by decide +kernel
theorem cdL_low : yL_low.cls ≠ "java/lang/invoke/MethodHandle" ∧ yL_low.cls ≠ "java/lang/invoke/VarHandle" ∧ (parseMethodDescriptor yL_low.desc).map (fun d => d.parameters.length) = some 2 := by decide +kernel
section LWR
variable {p : Program} {l : Launch} {e : Env} {s : State} {m : MethodId} {below : List Frame} {meth : Method} {c : Code} {b L : Nat} {xs : Nat → Int32} {cells slots : Nat} {E : gE} {ws : va_W} {lv : List (Nat × Value)} {pc : Nat} {st : List Value}
theorem g_cell (n' : Nat) (D : lC p s m meth c b L xs E) {k : Int} (hdg : decode cL_law pc = .ok (.invokestatic 23, 3)) (hp : pc + 3 = n') (hk : 0 ≤ k ∧ k < 2147483648) (hcat : (st.map fun v => v.category).sum ≤ 8) (hf : cells + 0 ≤ room_1.cells ∧ slots + 0 ≤ room_1.slots) (kk : ∀ r : Int, -2147483648 ≤ r ∧ r < 2147483648 → lJ p l e s m below meth c b cells slots E ws lv n' (.int (iI r) :: st)) : lJ p l e s m below meth c b cells slots E ws lv pc (.int (iI k) :: .ref b :: st) := by
  have C := D.1
  refine g_callX n' C D.2.1 D.2.2.1 (Nat.not_le.mpr D.2.2.1) hdg hp (k_L_cell E l hk D.2.2.2.2) (va_cwS 2 C.2.2.2.2.1 gL_law_L_cell rfl rfl rfl cdL_cell ⟨Nat.le_of_ble_eq_true rfl, Nat.le_of_ble_eq_true rfl⟩) rfl rfl hcat hf ?_
  rintro _ ⟨r, rfl, hr⟩
  exact kk r hr
theorem g_low (n' : Nat) (D : lC p s m meth c b L xs E) {v n : Int} (hdg : decode cL_law pc = .ok (.invokestatic 29, 3)) (hp : pc + 3 = n') (hn : 0 < n ∧ n < 2147483648) (hcat : (st.map fun v => v.category).sum ≤ 8) (hf : cells + 0 ≤ room_1.cells ∧ slots + 0 ≤ room_1.slots) (kk : ∀ r : Int, 0 ≤ r ∧ r < n → lJ p l e s m below meth c b cells slots E ws lv n' (.int (iI r) :: st)) : lJ p l e s m below meth c b cells slots E ws lv pc (.int (iI n) :: .int (iI v) :: st) := by
  have C := D.1
  refine g_callS n' C [] hdg hp (k_L_low E l hn) (va_cwS 2 C.2.2.2.2.1 gL_law_L_low rfl rfl rfl cdL_low ⟨Nat.le_of_ble_eq_true rfl, Nat.le_of_ble_eq_true rfl⟩) rfl rfl rfl rfl hcat hf (fun v w q => by obtain ⟨_, -, rfl⟩ := q; rfl) ?_
  rintro _ _ ⟨r, ⟨rfl, hr⟩, rfl⟩
  have e3 : gPut ws [] [] = ws := by unfold gPut; rfl
  rw [e3]
  exact kk r hr
theorem g_fin (C : lC p s m meth c b L xs E) (hc : cells ≤ 600000) (hs : slots ≤ 7302250) (hdg : decode cL_law pc = .ok (.ireturn, 1)) : lJ p l e s m below meth c b cells slots E ws lv pc [.int (iI 1)] := by
  intro H locs ls hP hD hS hl
  refine va_forget (fun q hq => hS.2.2 q hq) ?_
  refine W.widen (k := 600000) (n := 7302250) hc hs ?_
  exact lw_ret C.1.1 C.1.2.1 C.2.2.2.1 C.1.2.2.2.2.2.2.2 hdg
end LWR
end

section
-- ===== PART A: goes FIRST, ahead of the names: the tables' words, and 'selects' of the private methods out of them =====
/-- a private method of a class that the tables say can be made, by its rows of tables_1 -/
def lw_okq (q : MethodName × Nat) : Prop := (q.1.cls ≠ "java/lang/invoke/MethodHandle" ∧ q.1.cls ≠ "java/lang/invoke/VarHandle") ∧ Cond.instantiable q.1.cls q.2 ∈ tables_1 ∧ Cond.privateMethod q.1 ∈ tables_1 ∧ Cond.instanceMethod q.1 ∈ tables_1
theorem lw_p0 : lw_okq (⟨"HandLoom$Warp", "spareLane", "(I)LHandLoom$Lane;"⟩, 2) := ⟨⟨by decide +kernel, by decide +kernel⟩, List.mem_of_getElem? (i := 22) (by decide +kernel), List.mem_of_getElem? (i := 237) (by decide +kernel), List.mem_of_getElem? (i := 238) (by decide +kernel)⟩
theorem lw_p1 : lw_okq (⟨"HandLoom$Warp", "isHeld", "(LHandLoom$Lane;I)Z"⟩, 2) := ⟨⟨by decide +kernel, by decide +kernel⟩, List.mem_of_getElem? (i := 22) (by decide +kernel), List.mem_of_getElem? (i := 241) (by decide +kernel), List.mem_of_getElem? (i := 242) (by decide +kernel)⟩
theorem lw_p2 : lw_okq (⟨"HandLoom", "work", "(ILHandLoom$Lane;II)I"⟩, 8) := ⟨⟨by decide +kernel, by decide +kernel⟩, List.mem_of_getElem? (i := 14) (by decide +kernel), List.mem_of_getElem? (i := 318) (by decide +kernel), List.mem_of_getElem? (i := 319) (by decide +kernel)⟩
theorem lw_p3 : lw_okq (⟨"HandLoom", "change", "(ILHandLoom$Lane;II)I"⟩, 8) := ⟨⟨by decide +kernel, by decide +kernel⟩, List.mem_of_getElem? (i := 14) (by decide +kernel), List.mem_of_getElem? (i := 338) (by decide +kernel), List.mem_of_getElem? (i := 339) (by decide +kernel)⟩
theorem lw_p4 : lw_okq (⟨"HandLoom$WholeLane", "fit", "(I)I"⟩, 3) := ⟨⟨by decide +kernel, by decide +kernel⟩, List.mem_of_getElem? (i := 62) (by decide +kernel), List.mem_of_getElem? (i := 366) (by decide +kernel), List.mem_of_getElem? (i := 367) (by decide +kernel)⟩
theorem lw_p5 : lw_okq (⟨"HandLoom$Cloth", "isPlace", "(I)Z"⟩, 5) := ⟨⟨by decide +kernel, by decide +kernel⟩, List.mem_of_getElem? (i := 100) (by decide +kernel), List.mem_of_getElem? (i := 452) (by decide +kernel), List.mem_of_getElem? (i := 453) (by decide +kernel)⟩
theorem lw_p6 : lw_okq (⟨"HandLoom", "weaveCell", "(IIII)I"⟩, 8) := ⟨⟨by decide +kernel, by decide +kernel⟩, List.mem_of_getElem? (i := 14) (by decide +kernel), List.mem_of_getElem? (i := 499) (by decide +kernel), List.mem_of_getElem? (i := 500) (by decide +kernel)⟩
theorem lw_p7 : lw_okq (⟨"HandLoom", "isEndedBy", "(I)Z"⟩, 8) := ⟨⟨by decide +kernel, by decide +kernel⟩, List.mem_of_getElem? (i := 14) (by decide +kernel), List.mem_of_getElem? (i := 551) (by decide +kernel), List.mem_of_getElem? (i := 552) (by decide +kernel)⟩
theorem lw_p8 : lw_okq (⟨"HandLoomModel", "bad", "(I)I"⟩, 18) := ⟨⟨by decide +kernel, by decide +kernel⟩, List.mem_of_getElem? (i := 563) (by decide +kernel), List.mem_of_getElem? (i := 635) (by decide +kernel), List.mem_of_getElem? (i := 636) (by decide +kernel)⟩
theorem lw_p9 : lw_okq (⟨"HandLoomModel", "isUsed", "(I)Z"⟩, 18) := ⟨⟨by decide +kernel, by decide +kernel⟩, List.mem_of_getElem? (i := 563) (by decide +kernel), List.mem_of_getElem? (i := 639) (by decide +kernel), List.mem_of_getElem? (i := 640) (by decide +kernel)⟩
theorem lw_p10 : lw_okq (⟨"HandLoomModel", "good", "(I)I"⟩, 18) := ⟨⟨by decide +kernel, by decide +kernel⟩, List.mem_of_getElem? (i := 563) (by decide +kernel), List.mem_of_getElem? (i := 643) (by decide +kernel), List.mem_of_getElem? (i := 644) (by decide +kernel)⟩
theorem lw_p11 : lw_okq (⟨"HandLoomModel", "done", "(IIIII)I"⟩, 18) := ⟨⟨by decide +kernel, by decide +kernel⟩, List.mem_of_getElem? (i := 563) (by decide +kernel), List.mem_of_getElem? (i := 667) (by decide +kernel), List.mem_of_getElem? (i := 668) (by decide +kernel)⟩
theorem lw_p12 : lw_okq (⟨"HandLoomModel", "drawn", "()I"⟩, 18) := ⟨⟨by decide +kernel, by decide +kernel⟩, List.mem_of_getElem? (i := 563) (by decide +kernel), List.mem_of_getElem? (i := 671) (by decide +kernel), List.mem_of_getElem? (i := 672) (by decide +kernel)⟩
theorem lw_p13 : lw_okq (⟨"HandLoomModel", "wrong", "(II)I"⟩, 18) := ⟨⟨by decide +kernel, by decide +kernel⟩, List.mem_of_getElem? (i := 563) (by decide +kernel), List.mem_of_getElem? (i := 675) (by decide +kernel), List.mem_of_getElem? (i := 676) (by decide +kernel)⟩
theorem lw_p14 : lw_okq (⟨"HandLoomModel", "lay", "(III)V"⟩, 18) := ⟨⟨by decide +kernel, by decide +kernel⟩, List.mem_of_getElem? (i := 563) (by decide +kernel), List.mem_of_getElem? (i := 679) (by decide +kernel), List.mem_of_getElem? (i := 680) (by decide +kernel)⟩
theorem lw_p15 : lw_okq (⟨"HandLoomModel", "pull", "(III)V"⟩, 18) := ⟨⟨by decide +kernel, by decide +kernel⟩, List.mem_of_getElem? (i := 563) (by decide +kernel), List.mem_of_getElem? (i := 696) (by decide +kernel), List.mem_of_getElem? (i := 697) (by decide +kernel)⟩
def lw_privs_1 : List (MethodName × Nat) := [(⟨"HandLoom$Warp", "spareLane", "(I)LHandLoom$Lane;"⟩, 2), (⟨"HandLoom$Warp", "isHeld", "(LHandLoom$Lane;I)Z"⟩, 2), (⟨"HandLoom", "work", "(ILHandLoom$Lane;II)I"⟩, 8), (⟨"HandLoom", "change", "(ILHandLoom$Lane;II)I"⟩, 8), (⟨"HandLoom$WholeLane", "fit", "(I)I"⟩, 3), (⟨"HandLoom$Cloth", "isPlace", "(I)Z"⟩, 5), (⟨"HandLoom", "weaveCell", "(IIII)I"⟩, 8), (⟨"HandLoom", "isEndedBy", "(I)Z"⟩, 8), (⟨"HandLoomModel", "bad", "(I)I"⟩, 18), (⟨"HandLoomModel", "isUsed", "(I)Z"⟩, 18), (⟨"HandLoomModel", "good", "(I)I"⟩, 18), (⟨"HandLoomModel", "done", "(IIIII)I"⟩, 18), (⟨"HandLoomModel", "drawn", "()I"⟩, 18), (⟨"HandLoomModel", "wrong", "(II)I"⟩, 18), (⟨"HandLoomModel", "lay", "(III)V"⟩, 18), (⟨"HandLoomModel", "pull", "(III)V"⟩, 18)]
theorem lw_r1 : ∀ q ∈ lw_privs_1, lw_okq q := List.forall_mem_cons.mpr ⟨lw_p0, List.forall_mem_cons.mpr ⟨lw_p1, List.forall_mem_cons.mpr ⟨lw_p2, List.forall_mem_cons.mpr ⟨lw_p3, List.forall_mem_cons.mpr ⟨lw_p4, List.forall_mem_cons.mpr ⟨lw_p5, List.forall_mem_cons.mpr ⟨lw_p6, List.forall_mem_cons.mpr ⟨lw_p7, List.forall_mem_cons.mpr ⟨lw_p8, List.forall_mem_cons.mpr ⟨lw_p9, List.forall_mem_cons.mpr ⟨lw_p10, List.forall_mem_cons.mpr ⟨lw_p11, List.forall_mem_cons.mpr ⟨lw_p12, List.forall_mem_cons.mpr ⟨lw_p13, List.forall_mem_cons.mpr ⟨lw_p14, List.forall_mem_cons.mpr ⟨lw_p15, fun _ h => absurd h List.not_mem_nil⟩⟩⟩⟩⟩⟩⟩⟩⟩⟩⟩⟩⟩⟩⟩⟩
theorem lw_p16 : lw_okq (⟨"HandLoomModel", "part", "(III)V"⟩, 18) := ⟨⟨by decide +kernel, by decide +kernel⟩, List.mem_of_getElem? (i := 563) (by decide +kernel), List.mem_of_getElem? (i := 700) (by decide +kernel), List.mem_of_getElem? (i := 701) (by decide +kernel)⟩
theorem lw_p17 : lw_okq (⟨"HandLoomModel", "tells", "(II)I"⟩, 18) := ⟨⟨by decide +kernel, by decide +kernel⟩, List.mem_of_getElem? (i := 563) (by decide +kernel), List.mem_of_getElem? (i := 704) (by decide +kernel), List.mem_of_getElem? (i := 705) (by decide +kernel)⟩
theorem lw_p18 : lw_okq (⟨"HandLoomModel", "wrongPick", "(I)I"⟩, 18) := ⟨⟨by decide +kernel, by decide +kernel⟩, List.mem_of_getElem? (i := 563) (by decide +kernel), List.mem_of_getElem? (i := 720) (by decide +kernel), List.mem_of_getElem? (i := 721) (by decide +kernel)⟩
theorem lw_p19 : lw_okq (⟨"HandLoomModel", "goneOrWrong", "(I)I"⟩, 18) := ⟨⟨by decide +kernel, by decide +kernel⟩, List.mem_of_getElem? (i := 563) (by decide +kernel), List.mem_of_getElem? (i := 732) (by decide +kernel), List.mem_of_getElem? (i := 733) (by decide +kernel)⟩
theorem lw_p20 : lw_okq (⟨"HandLoomModel", "isUp", "(II)Z"⟩, 18) := ⟨⟨by decide +kernel, by decide +kernel⟩, List.mem_of_getElem? (i := 563) (by decide +kernel), List.mem_of_getElem? (i := 740) (by decide +kernel), List.mem_of_getElem? (i := 741) (by decide +kernel)⟩
def lw_privs_2 : List (MethodName × Nat) := [(⟨"HandLoomModel", "part", "(III)V"⟩, 18), (⟨"HandLoomModel", "tells", "(II)I"⟩, 18), (⟨"HandLoomModel", "wrongPick", "(I)I"⟩, 18), (⟨"HandLoomModel", "goneOrWrong", "(I)I"⟩, 18), (⟨"HandLoomModel", "isUp", "(II)Z"⟩, 18)]
theorem lw_r2 : ∀ q ∈ lw_privs_2, lw_okq q := List.forall_mem_cons.mpr ⟨lw_p16, List.forall_mem_cons.mpr ⟨lw_p17, List.forall_mem_cons.mpr ⟨lw_p18, List.forall_mem_cons.mpr ⟨lw_p19, List.forall_mem_cons.mpr ⟨lw_p20, fun _ h => absurd h List.not_mem_nil⟩⟩⟩⟩⟩
def lw_privs : List (MethodName × Nat) := lw_privs_1 ++ (lw_privs_2)
def lw_tbl : List Cond := k2_sels lw_privs ++ tables_1
theorem lw_privs_ok : ∀ q ∈ lw_privs, lw_okq q := by
  show ∀ q ∈ lw_privs_1 ++ (lw_privs_2), lw_okq q
  exact List.forall_mem_append.mpr ⟨lw_r1, lw_r2⟩
/-- the streams that the claim lets the run draw from -/
abbrev lw_cs : List Choice := [Jvm.Choice.named "NaN.bits"]
theorem lw_bits : nanBits ∈ lw_cs := by first | decide | exact List.mem_cons_self | simp [lw_cs, nanBits]
end
section
/-! ===== BEGIN words of one list among another's, by their places ===== -/
theorem goodIn_r {big : List Cond} (ws : List Cond) (ps : List Nat) (hp : ws = ps.filterMap (fun i => big[i]?)) (h : ws.all goodWord = true) : GoodIn big ws := by
  intro w hw
  have h1 := List.all_eq_true.mp h w hw
  rw [hp] at hw
  obtain ⟨i, -, hi⟩ := List.mem_filterMap.mp hw
  have hm : w ∈ big := by first | exact List.mem_of_getElem? hi | exact List.getElem?_mem hi
  exact ⟨hm, good_of_word h1⟩
theorem goodIn_app {big a b : List Cond} (ha : GoodIn big a) (hb : GoodIn big b) : GoodIn big (a ++ b) := fun w h => (List.mem_append.mp h).elim (ha w) (hb w)
theorem goodIn_ca {big a b : List Cond} {c : Cond} (ha : GoodIn big (c :: a)) (hb : GoodIn big b) : GoodIn big (c :: (a ++ b)) := fun w h => (List.mem_cons.mp h).elim (fun e => ha w (List.mem_cons.mpr (Or.inl e))) (fun h => (List.mem_append.mp h).elim (fun h => ha w (List.mem_cons.mpr (Or.inr h))) (hb w))
theorem goodIn_sub {big ws : List Cond} (hm : ∀ w ∈ ws, w ∈ big) (h : ws.all goodWord = true) : GoodIn big ws := fun w hw => ⟨hm w hw, good_of_word (List.all_eq_true.mp h w hw)⟩
/-! ===== END ===== -/
def RX0 : String := "HandLoom$Card"
def TX0 : u_T := fun k => match k with
  | 0 => ("HandLoom$Card", "kind", "I", false)
  | 1 => ("HandLoom$Card", "frame", "I", false)
  | 2 => ("HandLoom$Card", "sort", "I", false)
  | 3 => ("HandLoom$Card", "end", "I", false)
  | _ => ("HandLoom$Card", "v", "I", false)
def tyX0 : Nat → FieldType := fun k => match k with
  | 0 => .int
  | 1 => .int
  | 2 => .int
  | 3 => .int
  | _ => .int
abbrev wsX00 : List Cond := u_ws RX0 TX0 5
theorem nmX0 : ∀ a, a < 5 → ∀ b, b < 5 → a ≠ b → (TX0 a).2.1 ≠ (TX0 b).2.1 := by decide +kernel
theorem tyX0_ok : ∀ k, k < 5 → parseFieldDescriptor (TX0 k).2.2.1 = some (tyX0 k) := by decide +kernel
abbrev cX0_init : ByteArray := prog_2_method_1_code
def yX0_init : MethodName := ⟨RX0, "<init>", "()V"⟩
def RX1 : String := "HandLoom$Cloth"
def TX1 : u_T := fun k => match k with
  | 0 => ("HandLoom$Cloth", "cells", "[I", true)
  | 1 => ("HandLoom$Cloth", "rows", "[I", true)
  | 2 => ("HandLoom$Cloth", "there", "Z", false)
  | 3 => ("HandLoom$Cloth", "picks", "I", false)
  | _ => ("HandLoom$Cloth", "width", "I", false)
def tyX1 : Nat → FieldType := fun k => match k with
  | 0 => .array .int
  | 1 => .array .int
  | 2 => .boolean
  | 3 => .int
  | _ => .int
abbrev wsX10 : List Cond := u_ws RX1 TX1 5
theorem nmX1 : ∀ a, a < 5 → ∀ b, b < 5 → a ≠ b → (TX1 a).2.1 ≠ (TX1 b).2.1 := by decide +kernel
theorem tyX1_ok : ∀ k, k < 5 → parseFieldDescriptor (TX1 k).2.2.1 = some (tyX1 k) := by decide +kernel
abbrev cX1_init : ByteArray := prog_3_method_1_code
def yX1_init : MethodName := ⟨RX1, "<init>", "()V"⟩
abbrev cX1_width : ByteArray := prog_3_method_2_code
def yX1_width : MethodName := ⟨RX1, "width", "()I"⟩
abbrev cX1_renew : ByteArray := prog_3_method_3_code
def yX1_renew : MethodName := ⟨RX1, "renew", "(II)V"⟩
abbrev cX1_isPlace : ByteArray := prog_3_method_4_code
def yX1_isPlace : MethodName := ⟨RX1, "isPlace", "(I)Z"⟩
abbrev cX1_placeFault : ByteArray := prog_3_method_5_code
def yX1_placeFault : MethodName := ⟨RX1, "placeFault", "(I)I"⟩
abbrev cX1_pickFault : ByteArray := prog_3_method_6_code
def yX1_pickFault : MethodName := ⟨RX1, "pickFault", "(I)I"⟩
abbrev cX1_hasPick : ByteArray := prog_3_method_7_code
def yX1_hasPick : MethodName := ⟨RX1, "hasPick", "(I)Z"⟩
abbrev cX1_hasCell : ByteArray := prog_3_method_8_code
def yX1_hasCell : MethodName := ⟨RX1, "hasCell", "(I)Z"⟩
abbrev cX1_drop : ByteArray := prog_3_method_9_code
def yX1_drop : MethodName := ⟨RX1, "drop", "(I)V"⟩
abbrev cX1_join : ByteArray := prog_3_method_10_code
def yX1_join : MethodName := ⟨RX1, "join", "(II)V"⟩
abbrev cX1_get : ByteArray := prog_3_method_11_code
def yX1_get : MethodName := ⟨RX1, "get", "(II)I"⟩
abbrev cX1_set : ByteArray := prog_3_method_12_code
def yX1_set : MethodName := ⟨RX1, "set", "(III)V"⟩
def RX2 : String := "HandLoom$Deck"
def TX2 : u_T := fun k => match k with
  | 0 => ("HandLoom$Deck", "cards", "[LHandLoom$Card;", true)
  | _ => ("HandLoom$Deck", "count", "I", false)
def tyX2 : Nat → FieldType := fun k => match k with
  | 0 => .array (.object "HandLoom$Card")
  | _ => .int
abbrev wsX20 : List Cond := u_ws RX2 TX2 2
theorem nmX2 : ∀ a, a < 2 → ∀ b, b < 2 → a ≠ b → (TX2 a).2.1 ≠ (TX2 b).2.1 := by decide +kernel
theorem tyX2_ok : ∀ k, k < 2 → parseFieldDescriptor (TX2 k).2.2.1 = some (tyX2 k) := by decide +kernel
abbrev cX2_init : ByteArray := prog_4_method_1_code
def yX2_init : MethodName := ⟨RX2, "<init>", "()V"⟩
abbrev cX2_count : ByteArray := prog_4_method_2_code
def yX2_count : MethodName := ⟨RX2, "count", "()I"⟩
abbrev cX2_isFull : ByteArray := prog_4_method_3_code
def yX2_isFull : MethodName := ⟨RX2, "isFull", "()Z"⟩
abbrev cX2_clear : ByteArray := prog_4_method_4_code
def yX2_clear : MethodName := ⟨RX2, "clear", "()V"⟩
abbrev cX2_add : ByteArray := prog_4_method_5_code
def yX2_add : MethodName := ⟨RX2, "add", "(IIIII)V"⟩
abbrev cX2_at : ByteArray := prog_4_method_6_code
def yX2_at : MethodName := ⟨RX2, "at", "(I)LHandLoom$Card;"⟩
def RX3 : String := "HandLoom$Lane"
def TX3 : u_T := fun k => match k with
  | _ => ("", "", "", false)
def tyX3 : Nat → FieldType := fun k => match k with
  | _ => .int
abbrev wsX30 : List Cond := u_ws RX3 TX3 0
theorem nmX3 : ∀ a, a < 0 → ∀ b, b < 0 → a ≠ b → (TX3 a).2.1 ≠ (TX3 b).2.1 := by decide +kernel
theorem tyX3_ok : ∀ k, k < 0 → parseFieldDescriptor (TX3 k).2.2.1 = some (tyX3 k) := by decide +kernel
abbrev cX3_init : ByteArray := prog_5_method_1_code
def yX3_init : MethodName := ⟨RX3, "<init>", "()V"⟩
abbrev cX3_count : ByteArray := prog_5_method_2_code
def yX3_count : MethodName := ⟨RX3, "count", "()I"⟩
abbrev cX3_has : ByteArray := prog_5_method_3_code
def yX3_has : MethodName := ⟨RX3, "has", "(I)Z"⟩
abbrev cX3_restretch : ByteArray := prog_5_method_4_code
def yX3_restretch : MethodName := ⟨RX3, "restretch", "(I)V"⟩
def RX4 : String := "HandLoom$Ledger"
def TX4 : u_T := fun k => match k with
  | 0 => ("HandLoom$Ledger", "counts", "[I", true)
  | _ => ("HandLoom$Ledger", "latest", "I", false)
def tyX4 : Nat → FieldType := fun k => match k with
  | 0 => .array .int
  | _ => .int
abbrev wsX40 : List Cond := u_ws RX4 TX4 2
theorem nmX4 : ∀ a, a < 2 → ∀ b, b < 2 → a ≠ b → (TX4 a).2.1 ≠ (TX4 b).2.1 := by decide +kernel
theorem tyX4_ok : ∀ k, k < 2 → parseFieldDescriptor (TX4 k).2.2.1 = some (tyX4 k) := by decide +kernel
abbrev cX4_init : ByteArray := prog_6_method_1_code
def yX4_init : MethodName := ⟨RX4, "<init>", "()V"⟩
abbrev cX4_begin : ByteArray := prog_6_method_2_code
def yX4_begin : MethodName := ⟨RX4, "begin", "()V"⟩
abbrev cX4_tell : ByteArray := prog_6_method_3_code
def yX4_tell : MethodName := ⟨RX4, "tell", "(I)I"⟩
abbrev cX4_latest : ByteArray := prog_6_method_4_code
def yX4_latest : MethodName := ⟨RX4, "latest", "()I"⟩
abbrev cX4_countOf : ByteArray := prog_6_method_5_code
def yX4_countOf : MethodName := ⟨RX4, "countOf", "(I)I"⟩
def RX5 : String := "HandLoom$LiftLane"
def TX5 : u_T := fun k => match k with
  | 0 => ("HandLoom$Lane", "count", "I", false)
  | _ => ("HandLoom$LiftLane", "up", "[Z", true)
def tyX5 : Nat → FieldType := fun k => match k with
  | 0 => .int
  | _ => .array .boolean
abbrev wsX50 : List Cond := u_ws RX5 TX5 2
theorem nmX5 : ∀ a, a < 2 → ∀ b, b < 2 → a ≠ b → (TX5 a).2.1 ≠ (TX5 b).2.1 := by decide +kernel
theorem tyX5_ok : ∀ k, k < 2 → parseFieldDescriptor (TX5 k).2.2.1 = some (tyX5 k) := by decide +kernel
abbrev cX5_init : ByteArray := prog_7_method_1_code
def yX5_init : MethodName := ⟨RX5, "<init>", "()V"⟩
abbrev cX5_isOdd : ByteArray := prog_7_method_2_code
def yX5_isOdd : MethodName := ⟨RX5, "isOdd", "(I)Z"⟩
abbrev cX5_reset : ByteArray := prog_7_method_3_code
def yX5_reset : MethodName := ⟨RX5, "reset", "(I)V"⟩
abbrev cX5_tells : ByteArray := prog_7_method_4_code
def yX5_tells : MethodName := ⟨RX5, "tells", "(I)I"⟩
abbrev cX5_lay : ByteArray := prog_7_method_5_code
def yX5_lay : MethodName := ⟨RX5, "lay", "(II)V"⟩
abbrev cX5_pull : ByteArray := prog_7_method_6_code
def yX5_pull : MethodName := ⟨RX5, "pull", "(II)V"⟩
abbrev cX5_turn : ByteArray := prog_7_method_7_code
def yX5_turn : MethodName := ⟨RX5, "turn", "(I)V"⟩
abbrev cX5_part : ByteArray := prog_7_method_8_code
def yX5_part : MethodName := ⟨RX5, "part", "(II)Z"⟩
abbrev cX5_exchange : ByteArray := prog_7_method_9_code
def yX5_exchange : MethodName := ⟨RX5, "exchange", "(II)V"⟩
def RX6 : String := "HandLoom$Spool"
def TX6 : u_T := fun k => match k with
  | 0 => ("HandLoom$Spool", "ring", "[I", true)
  | 1 => ("HandLoom$Spool", "first", "I", false)
  | _ => ("HandLoom$Spool", "count", "I", false)
def tyX6 : Nat → FieldType := fun k => match k with
  | 0 => .array .int
  | 1 => .int
  | _ => .int
abbrev wsX60 : List Cond := u_ws RX6 TX6 3
theorem nmX6 : ∀ a, a < 3 → ∀ b, b < 3 → a ≠ b → (TX6 a).2.1 ≠ (TX6 b).2.1 := by decide +kernel
theorem tyX6_ok : ∀ k, k < 3 → parseFieldDescriptor (TX6 k).2.2.1 = some (tyX6 k) := by decide +kernel
abbrev cX6_init : ByteArray := prog_8_method_1_code
def yX6_init : MethodName := ⟨RX6, "<init>", "()V"⟩
abbrev cX6_count : ByteArray := prog_8_method_2_code
def yX6_count : MethodName := ⟨RX6, "count", "()I"⟩
abbrev cX6_isEmpty : ByteArray := prog_8_method_3_code
def yX6_isEmpty : MethodName := ⟨RX6, "isEmpty", "()Z"⟩
abbrev cX6_isFull : ByteArray := prog_8_method_4_code
def yX6_isFull : MethodName := ⟨RX6, "isFull", "()Z"⟩
abbrev cX6_wind : ByteArray := prog_8_method_5_code
def yX6_wind : MethodName := ⟨RX6, "wind", "(I)V"⟩
abbrev cX6_draw : ByteArray := prog_8_method_6_code
def yX6_draw : MethodName := ⟨RX6, "draw", "()I"⟩
def RX7 : String := "HandLoom$TensionLane"
def TX7 : u_T := fun k => match k with
  | 0 => ("HandLoom$Lane", "count", "I", false)
  | _ => ("HandLoom$TensionLane", "values", "[F", true)
def tyX7 : Nat → FieldType := fun k => match k with
  | 0 => .int
  | _ => .array .float
abbrev wsX70 : List Cond := u_ws RX7 TX7 2
theorem nmX7 : ∀ a, a < 2 → ∀ b, b < 2 → a ≠ b → (TX7 a).2.1 ≠ (TX7 b).2.1 := by decide +kernel
theorem tyX7_ok : ∀ k, k < 2 → parseFieldDescriptor (TX7 k).2.2.1 = some (tyX7 k) := by decide +kernel
abbrev cX7_init : ByteArray := prog_9_method_1_code
def yX7_init : MethodName := ⟨RX7, "<init>", "()V"⟩
abbrev cX7_hold : ByteArray := prog_9_method_2_code
def yX7_hold : MethodName := ⟨RX7, "hold", "(F)F"⟩
abbrev cX7_eighths : ByteArray := prog_9_method_3_code
def yX7_eighths : MethodName := ⟨RX7, "eighths", "(I)F"⟩
abbrev cX7_reset : ByteArray := prog_9_method_4_code
def yX7_reset : MethodName := ⟨RX7, "reset", "(I)V"⟩
abbrev cX7_tells : ByteArray := prog_9_method_5_code
def yX7_tells : MethodName := ⟨RX7, "tells", "(I)I"⟩
abbrev cX7_lay : ByteArray := prog_9_method_6_code
def yX7_lay : MethodName := ⟨RX7, "lay", "(II)V"⟩
abbrev cX7_pull : ByteArray := prog_9_method_7_code
def yX7_pull : MethodName := ⟨RX7, "pull", "(II)V"⟩
abbrev cX7_turn : ByteArray := prog_9_method_8_code
def yX7_turn : MethodName := ⟨RX7, "turn", "(I)V"⟩
abbrev cX7_part : ByteArray := prog_9_method_9_code
def yX7_part : MethodName := ⟨RX7, "part", "(II)Z"⟩
abbrev cX7_exchange : ByteArray := prog_9_method_10_code
def yX7_exchange : MethodName := ⟨RX7, "exchange", "(II)V"⟩
def RX8 : String := "HandLoom$Warp"
def TX8 : u_T := fun k => match k with
  | 0 => ("HandLoom$Warp", "store", "[LHandLoom$Lane;", true)
  | _ => ("HandLoom$Warp", "lanes", "[LHandLoom$Lane;", true)
def tyX8 : Nat → FieldType := fun k => match k with
  | 0 => .array (.object "HandLoom$Lane")
  | _ => .array (.object "HandLoom$Lane")
abbrev wsX80 : List Cond := u_ws RX8 TX8 2
theorem nmX8 : ∀ a, a < 2 → ∀ b, b < 2 → a ≠ b → (TX8 a).2.1 ≠ (TX8 b).2.1 := by decide +kernel
theorem tyX8_ok : ∀ k, k < 2 → parseFieldDescriptor (TX8 k).2.2.1 = some (tyX8 k) := by decide +kernel
abbrev cX8_init : ByteArray := prog_10_method_1_code
def yX8_init : MethodName := ⟨RX8, "<init>", "()V"⟩
abbrev cX8_newLane : ByteArray := prog_10_method_2_code
def yX8_newLane : MethodName := ⟨RX8, "newLane", "(I)LHandLoom$Lane;"⟩
abbrev cX8_isFrame : ByteArray := prog_10_method_3_code
def yX8_isFrame : MethodName := ⟨RX8, "isFrame", "(I)Z"⟩
abbrev cX8_isLane : ByteArray := prog_10_method_4_code
def yX8_isLane : MethodName := ⟨RX8, "isLane", "(II)Z"⟩
abbrev cX8_place : ByteArray := prog_10_method_5_code
def yX8_place : MethodName := ⟨RX8, "place", "(II)I"⟩
abbrev cX8_laneAt : ByteArray := prog_10_method_6_code
def yX8_laneAt : MethodName := ⟨RX8, "laneAt", "(II)LHandLoom$Lane;"⟩
abbrev cX8_loosen : ByteArray := prog_10_method_7_code
def yX8_loosen : MethodName := ⟨RX8, "loosen", "(II)V"⟩
abbrev cX8_join : ByteArray := prog_10_method_8_code
def yX8_join : MethodName := ⟨RX8, "join", "(III)V"⟩
abbrev cX8_stretch : ByteArray := prog_10_method_9_code
def yX8_stretch : MethodName := ⟨RX8, "stretch", "(III)V"⟩
abbrev cX8_spareLane : ByteArray := prog_10_method_10_code
def yX8_spareLane : MethodName := ⟨RX8, "spareLane", "(I)LHandLoom$Lane;"⟩
abbrev cX8_isHeld : ByteArray := prog_10_method_11_code
def yX8_isHeld : MethodName := ⟨RX8, "isHeld", "(LHandLoom$Lane;I)Z"⟩
def RX9 : String := "HandLoom$WholeLane"
def TX9 : u_T := fun k => match k with
  | 0 => ("HandLoom$Lane", "count", "I", false)
  | 1 => ("HandLoom$WholeLane", "sort", "I", true)
  | _ => ("HandLoom$WholeLane", "values", "[I", true)
def tyX9 : Nat → FieldType := fun k => match k with
  | 0 => .int
  | 1 => .int
  | _ => .array .int
abbrev wsX90 : List Cond := u_ws RX9 TX9 3
theorem nmX9 : ∀ a, a < 3 → ∀ b, b < 3 → a ≠ b → (TX9 a).2.1 ≠ (TX9 b).2.1 := by decide +kernel
theorem tyX9_ok : ∀ k, k < 3 → parseFieldDescriptor (TX9 k).2.2.1 = some (tyX9 k) := by decide +kernel
abbrev cX9_init : ByteArray := prog_11_method_1_code
def yX9_init : MethodName := ⟨RX9, "<init>", "(I)V"⟩
abbrev cX9_fit : ByteArray := prog_11_method_2_code
def yX9_fit : MethodName := ⟨RX9, "fit", "(I)I"⟩
abbrev cX9_reset : ByteArray := prog_11_method_3_code
def yX9_reset : MethodName := ⟨RX9, "reset", "(I)V"⟩
abbrev cX9_tells : ByteArray := prog_11_method_4_code
def yX9_tells : MethodName := ⟨RX9, "tells", "(I)I"⟩
abbrev cX9_lay : ByteArray := prog_11_method_5_code
def yX9_lay : MethodName := ⟨RX9, "lay", "(II)V"⟩
abbrev cX9_pull : ByteArray := prog_11_method_6_code
def yX9_pull : MethodName := ⟨RX9, "pull", "(II)V"⟩
abbrev cX9_turn : ByteArray := prog_11_method_7_code
def yX9_turn : MethodName := ⟨RX9, "turn", "(I)V"⟩
abbrev cX9_part : ByteArray := prog_11_method_8_code
def yX9_part : MethodName := ⟨RX9, "part", "(II)Z"⟩
abbrev cX9_exchange : ByteArray := prog_11_method_9_code
def yX9_exchange : MethodName := ⟨RX9, "exchange", "(II)V"⟩
def RX10 : String := "HandLoom"
def TX10 : u_T := fun k => match k with
  | 0 => ("HandLoom", "warp", "LHandLoom$Warp;", true)
  | 1 => ("HandLoom", "threads", "LHandLoom$Spool;", true)
  | 2 => ("HandLoom", "fabric", "LHandLoom$Cloth;", true)
  | 3 => ("HandLoom", "deck", "LHandLoom$Deck;", true)
  | 4 => ("HandLoom", "ledger", "LHandLoom$Ledger;", true)
  | 5 => ("HandLoom", "passedOver", "I", false)
  | 6 => ("HandLoom", "runSum", "I", false)
  | _ => ("HandLoom", "wovenToEnd", "I", false)
def tyX10 : Nat → FieldType := fun k => match k with
  | 0 => .object "HandLoom$Warp"
  | 1 => .object "HandLoom$Spool"
  | 2 => .object "HandLoom$Cloth"
  | 3 => .object "HandLoom$Deck"
  | 4 => .object "HandLoom$Ledger"
  | 5 => .int
  | 6 => .int
  | _ => .int
abbrev wsX100 : List Cond := u_ws RX10 TX10 8
theorem nmX10 : ∀ a, a < 8 → ∀ b, b < 8 → a ≠ b → (TX10 a).2.1 ≠ (TX10 b).2.1 := by decide +kernel
theorem tyX10_ok : ∀ k, k < 8 → parseFieldDescriptor (TX10 k).2.2.1 = some (tyX10 k) := by decide +kernel
abbrev cX10_init : ByteArray := prog_1_method_1_code
def yX10_init : MethodName := ⟨RX10, "<init>", "()V"⟩
abbrev cX10_thread : ByteArray := prog_1_method_2_code
def yX10_thread : MethodName := ⟨RX10, "thread", "(III)I"⟩
abbrev cX10_cut : ByteArray := prog_1_method_3_code
def yX10_cut : MethodName := ⟨RX10, "cut", "(II)I"⟩
abbrev cX10_tie : ByteArray := prog_1_method_4_code
def yX10_tie : MethodName := ⟨RX10, "tie", "(III)I"⟩
abbrev cX10_ends : ByteArray := prog_1_method_5_code
def yX10_ends : MethodName := ⟨RX10, "ends", "(II)I"⟩
abbrev cX10_spool : ByteArray := prog_1_method_6_code
def yX10_spool : MethodName := ⟨RX10, "spool", "(I)I"⟩
abbrev cX10_act : ByteArray := prog_1_method_7_code
def yX10_act : MethodName := ⟨RX10, "act", "(IIIII)I"⟩
abbrev cX10_swap : ByteArray := prog_1_method_8_code
def yX10_swap : MethodName := ⟨RX10, "swap", "(IIII)I"⟩
abbrev cX10_cloth : ByteArray := prog_1_method_9_code
def yX10_cloth : MethodName := ⟨RX10, "cloth", "(II)I"⟩
abbrev cX10_snip : ByteArray := prog_1_method_10_code
def yX10_snip : MethodName := ⟨RX10, "snip", "(I)I"⟩
abbrev cX10_hang : ByteArray := prog_1_method_11_code
def yX10_hang : MethodName := ⟨RX10, "hang", "(II)I"⟩
abbrev cX10_cell : ByteArray := prog_1_method_12_code
def yX10_cell : MethodName := ⟨RX10, "cell", "(II)I"⟩
abbrev cX10_weave : ByteArray := prog_1_method_13_code
def yX10_weave : MethodName := ⟨RX10, "weave", "(III)I"⟩
abbrev cX10_card : ByteArray := prog_1_method_14_code
def yX10_card : MethodName := ⟨RX10, "card", "(IIIII)I"⟩
abbrev cX10_unhook : ByteArray := prog_1_method_15_code
def yX10_unhook : MethodName := ⟨RX10, "unhook", "()I"⟩
abbrev cX10_keeper : ByteArray := prog_1_method_16_code
def yX10_keeper : MethodName := ⟨RX10, "keeper", "(I)Z"⟩
abbrev cX10_run : ByteArray := prog_1_method_17_code
def yX10_run : MethodName := ⟨RX10, "run", "(I)I"⟩
abbrev cX10_told : ByteArray := prog_1_method_18_code
def yX10_told : MethodName := ⟨RX10, "told", "(I)I"⟩
abbrev cX10_isAct : ByteArray := prog_1_method_19_code
def yX10_isAct : MethodName := ⟨RX10, "isAct", "(I)Z"⟩
abbrev cX10_isEndedBy : ByteArray := prog_1_method_20_code
def yX10_isEndedBy : MethodName := ⟨RX10, "isEndedBy", "(I)Z"⟩
abbrev cX10_work : ByteArray := prog_1_method_21_code
def yX10_work : MethodName := ⟨RX10, "work", "(ILHandLoom$Lane;II)I"⟩
abbrev cX10_change : ByteArray := prog_1_method_22_code
def yX10_change : MethodName := ⟨RX10, "change", "(ILHandLoom$Lane;II)I"⟩
abbrev cX10_weaveCell : ByteArray := prog_1_method_23_code
def yX10_weaveCell : MethodName := ⟨RX10, "weaveCell", "(IIII)I"⟩
abbrev cX10_faultAtEnd : ByteArray := prog_1_method_24_code
def yX10_faultAtEnd : MethodName := ⟨RX10, "faultAtEnd", "(LHandLoom$Lane;)I"⟩
def RX11 : String := "HandLoomModel"
def TX11 : u_T := fun k => match k with
  | 0 => ("HandLoomModel", "rowOf", "[I", true)
  | 1 => ("HandLoomModel", "ends", "[I", true)
  | 2 => ("HandLoomModel", "has", "[I", true)
  | 3 => ("HandLoomModel", "pulls", "[F", true)
  | 4 => ("HandLoomModel", "thread", "[I", true)
  | 5 => ("HandLoomModel", "threads", "I", false)
  | 6 => ("HandLoomModel", "isCloth", "Z", false)
  | 7 => ("HandLoomModel", "picks", "I", false)
  | 8 => ("HandLoomModel", "wide", "I", false)
  | 9 => ("HandLoomModel", "pickOf", "[I", true)
  | 10 => ("HandLoomModel", "cells", "[I", true)
  | 11 => ("HandLoomModel", "card", "[I", true)
  | 12 => ("HandLoomModel", "cards", "I", false)
  | 13 => ("HandLoomModel", "passed", "I", false)
  | 14 => ("HandLoomModel", "fault", "I", false)
  | 15 => ("HandLoomModel", "faults", "[I", true)
  | 16 => ("HandLoomModel", "sum", "I", false)
  | _ => ("HandLoomModel", "woven", "I", false)
def tyX11 : Nat → FieldType := fun k => match k with
  | 0 => .array .int
  | 1 => .array .int
  | 2 => .array .int
  | 3 => .array .float
  | 4 => .array .int
  | 5 => .int
  | 6 => .boolean
  | 7 => .int
  | 8 => .int
  | 9 => .array .int
  | 10 => .array .int
  | 11 => .array .int
  | 12 => .int
  | 13 => .int
  | 14 => .int
  | 15 => .array .int
  | 16 => .int
  | _ => .int
abbrev wsX110 : List Cond := u_ws RX11 TX11 18
theorem nmX11 : ∀ a, a < 18 → ∀ b, b < 18 → a ≠ b → (TX11 a).2.1 ≠ (TX11 b).2.1 := by decide +kernel
theorem tyX11_ok : ∀ k, k < 18 → parseFieldDescriptor (TX11 k).2.2.1 = some (tyX11 k) := by decide +kernel
abbrev cX11_init : ByteArray := prog_13_method_1_code
def yX11_init : MethodName := ⟨RX11, "<init>", "()V"⟩
abbrev cX11_isFrame : ByteArray := prog_13_method_2_code
def yX11_isFrame : MethodName := ⟨RX11, "isFrame", "(I)Z"⟩
abbrev cX11_isLane : ByteArray := prog_13_method_3_code
def yX11_isLane : MethodName := ⟨RX11, "isLane", "(II)Z"⟩
abbrev cX11_bad : ByteArray := prog_13_method_4_code
def yX11_bad : MethodName := ⟨RX11, "bad", "(I)I"⟩
abbrev cX11_good : ByteArray := prog_13_method_5_code
def yX11_good : MethodName := ⟨RX11, "good", "(I)I"⟩
abbrev cX11_wrong : ByteArray := prog_13_method_6_code
def yX11_wrong : MethodName := ⟨RX11, "wrong", "(II)I"⟩
abbrev cX11_thread : ByteArray := prog_13_method_7_code
def yX11_thread : MethodName := ⟨RX11, "thread", "(III)I"⟩
abbrev cX11_isUsed : ByteArray := prog_13_method_8_code
def yX11_isUsed : MethodName := ⟨RX11, "isUsed", "(I)Z"⟩
abbrev cX11_cut : ByteArray := prog_13_method_9_code
def yX11_cut : MethodName := ⟨RX11, "cut", "(II)I"⟩
abbrev cX11_tie : ByteArray := prog_13_method_10_code
def yX11_tie : MethodName := ⟨RX11, "tie", "(III)I"⟩
abbrev cX11_ends : ByteArray := prog_13_method_11_code
def yX11_ends : MethodName := ⟨RX11, "ends", "(II)I"⟩
abbrev cX11_spool : ByteArray := prog_13_method_12_code
def yX11_spool : MethodName := ⟨RX11, "spool", "(I)I"⟩
abbrev cX11_drawn : ByteArray := prog_13_method_13_code
def yX11_drawn : MethodName := ⟨RX11, "drawn", "()I"⟩
abbrev cX11_cutTo : ByteArray := prog_13_method_14_code
def yX11_cutTo : MethodName := ⟨RX11, "cutTo", "(II)I"⟩
abbrev cX11_held : ByteArray := prog_13_method_15_code
def yX11_held : MethodName := ⟨RX11, "held", "(F)F"⟩
abbrev cX11_eighths : ByteArray := prog_13_method_16_code
def yX11_eighths : MethodName := ⟨RX11, "eighths", "(I)F"⟩
abbrev cX11_tells : ByteArray := prog_13_method_17_code
def yX11_tells : MethodName := ⟨RX11, "tells", "(II)I"⟩
abbrev cX11_lay : ByteArray := prog_13_method_18_code
def yX11_lay : MethodName := ⟨RX11, "lay", "(III)V"⟩
abbrev cX11_pull : ByteArray := prog_13_method_19_code
def yX11_pull : MethodName := ⟨RX11, "pull", "(III)V"⟩
abbrev cX11_part : ByteArray := prog_13_method_20_code
def yX11_part : MethodName := ⟨RX11, "part", "(III)V"⟩
abbrev cX11_done : ByteArray := prog_13_method_21_code
def yX11_done : MethodName := ⟨RX11, "done", "(IIIII)I"⟩
abbrev cX11_act : ByteArray := prog_13_method_22_code
def yX11_act : MethodName := ⟨RX11, "act", "(IIIII)I"⟩
abbrev cX11_swap : ByteArray := prog_13_method_23_code
def yX11_swap : MethodName := ⟨RX11, "swap", "(IIII)I"⟩
abbrev cX11_cloth : ByteArray := prog_13_method_24_code
def yX11_cloth : MethodName := ⟨RX11, "cloth", "(II)I"⟩
abbrev cX11_wrongPick : ByteArray := prog_13_method_25_code
def yX11_wrongPick : MethodName := ⟨RX11, "wrongPick", "(I)I"⟩
abbrev cX11_goneOrWrong : ByteArray := prog_13_method_26_code
def yX11_goneOrWrong : MethodName := ⟨RX11, "goneOrWrong", "(I)I"⟩
abbrev cX11_snip : ByteArray := prog_13_method_27_code
def yX11_snip : MethodName := ⟨RX11, "snip", "(I)I"⟩
abbrev cX11_hang : ByteArray := prog_13_method_28_code
def yX11_hang : MethodName := ⟨RX11, "hang", "(II)I"⟩
abbrev cX11_cell : ByteArray := prog_13_method_29_code
def yX11_cell : MethodName := ⟨RX11, "cell", "(II)I"⟩
abbrev cX11_weave : ByteArray := prog_13_method_30_code
def yX11_weave : MethodName := ⟨RX11, "weave", "(III)I"⟩
abbrev cX11_isUp : ByteArray := prog_13_method_31_code
def yX11_isUp : MethodName := ⟨RX11, "isUp", "(II)Z"⟩
abbrev cX11_card : ByteArray := prog_13_method_32_code
def yX11_card : MethodName := ⟨RX11, "card", "(IIIII)I"⟩
abbrev cX11_unhook : ByteArray := prog_13_method_33_code
def yX11_unhook : MethodName := ⟨RX11, "unhook", "()I"⟩
abbrev cX11_keeper : ByteArray := prog_13_method_34_code
def yX11_keeper : MethodName := ⟨RX11, "keeper", "(I)Z"⟩
abbrev cX11_run : ByteArray := prog_13_method_35_code
def yX11_run : MethodName := ⟨RX11, "run", "(I)I"⟩
abbrev cX11_told : ByteArray := prog_13_method_36_code
def yX11_told : MethodName := ⟨RX11, "told", "(I)I"⟩
def RL : String := "HandLoomLaw"
theorem dX0_init_0 : decode cX0_init 0 = .ok (.aload_n 0, 1) := by decide +kernel
theorem dX0_init_1 : decode cX0_init 1 = .ok (.invokespecial 3, 3) := by decide +kernel
theorem dX0_init_4 : decode cX0_init 4 = .ok (.aload_n 0, 1) := by decide +kernel
theorem dX0_init_5 : decode cX0_init 5 = .ok (.iconst 0, 1) := by decide +kernel
theorem dX0_init_6 : decode cX0_init 6 = .ok (.putfield 9, 3) := by decide +kernel
theorem dX0_init_9 : decode cX0_init 9 = .ok (.aload_n 0, 1) := by decide +kernel
theorem dX0_init_10 : decode cX0_init 10 = .ok (.iconst 0, 1) := by decide +kernel
theorem dX0_init_11 : decode cX0_init 11 = .ok (.putfield 15, 3) := by decide +kernel
theorem dX0_init_14 : decode cX0_init 14 = .ok (.aload_n 0, 1) := by decide +kernel
theorem dX0_init_15 : decode cX0_init 15 = .ok (.iconst 0, 1) := by decide +kernel
theorem dX0_init_16 : decode cX0_init 16 = .ok (.putfield 18, 3) := by decide +kernel
theorem dX0_init_19 : decode cX0_init 19 = .ok (.aload_n 0, 1) := by decide +kernel
theorem dX0_init_20 : decode cX0_init 20 = .ok (.iconst 0, 1) := by decide +kernel
theorem dX0_init_21 : decode cX0_init 21 = .ok (.putfield 21, 3) := by decide +kernel
theorem dX0_init_24 : decode cX0_init 24 = .ok (.aload_n 0, 1) := by decide +kernel
theorem dX0_init_25 : decode cX0_init 25 = .ok (.iconst 0, 1) := by decide +kernel
theorem dX0_init_26 : decode cX0_init 26 = .ok (.putfield 24, 3) := by decide +kernel
theorem dX0_init_29 : decode cX0_init 29 = .ok (.return_, 1) := by decide +kernel
theorem dX1_init_0 : decode cX1_init 0 = .ok (.aload_n 0, 1) := by decide +kernel
theorem dX1_init_1 : decode cX1_init 1 = .ok (.invokespecial 3, 3) := by decide +kernel
theorem dX1_init_4 : decode cX1_init 4 = .ok (.aload_n 0, 1) := by decide +kernel
theorem dX1_init_5 : decode cX1_init 5 = .ok (.sipush 576, 3) := by decide +kernel
theorem dX1_init_8 : decode cX1_init 8 = .ok (.newarray .int, 2) := by decide +kernel
theorem dX1_init_10 : decode cX1_init 10 = .ok (.putfield 9, 3) := by decide +kernel
theorem dX1_init_13 : decode cX1_init 13 = .ok (.aload_n 0, 1) := by decide +kernel
theorem dX1_init_14 : decode cX1_init 14 = .ok (.bipush 24, 2) := by decide +kernel
theorem dX1_init_16 : decode cX1_init 16 = .ok (.newarray .int, 2) := by decide +kernel
theorem dX1_init_18 : decode cX1_init 18 = .ok (.putfield 15, 3) := by decide +kernel
theorem dX1_init_21 : decode cX1_init 21 = .ok (.aload_n 0, 1) := by decide +kernel
theorem dX1_init_22 : decode cX1_init 22 = .ok (.iconst 0, 1) := by decide +kernel
theorem dX1_init_23 : decode cX1_init 23 = .ok (.putfield 18, 3) := by decide +kernel
theorem dX1_init_26 : decode cX1_init 26 = .ok (.aload_n 0, 1) := by decide +kernel
theorem dX1_init_27 : decode cX1_init 27 = .ok (.iconst 0, 1) := by decide +kernel
theorem dX1_init_28 : decode cX1_init 28 = .ok (.putfield 22, 3) := by decide +kernel
theorem dX1_init_31 : decode cX1_init 31 = .ok (.aload_n 0, 1) := by decide +kernel
theorem dX1_init_32 : decode cX1_init 32 = .ok (.iconst 0, 1) := by decide +kernel
theorem dX1_init_33 : decode cX1_init 33 = .ok (.putfield 26, 3) := by decide +kernel
theorem dX1_init_36 : decode cX1_init 36 = .ok (.return_, 1) := by decide +kernel
theorem dX1_width_0 : decode cX1_width 0 = .ok (.aload_n 0, 1) := by decide +kernel
theorem dX1_width_1 : decode cX1_width 1 = .ok (.getfield 26, 3) := by decide +kernel
theorem dX1_width_4 : decode cX1_width 4 = .ok (.ireturn, 1) := by decide +kernel
theorem dX1_renew_0 : decode cX1_renew 0 = .ok (.iload_n 1, 1) := by decide +kernel
theorem dX1_renew_1 : decode cX1_renew 1 = .ok (.ifCond .lt 19, 3) := by decide +kernel
theorem dX1_renew_4 : decode cX1_renew 4 = .ok (.iload_n 1, 1) := by decide +kernel
theorem dX1_renew_5 : decode cX1_renew 5 = .ok (.bipush 24, 2) := by decide +kernel
theorem dX1_renew_7 : decode cX1_renew 7 = .ok (.if_icmp .gt 13, 3) := by decide +kernel
theorem dX1_renew_10 : decode cX1_renew 10 = .ok (.iload_n 2, 1) := by decide +kernel
theorem dX1_renew_11 : decode cX1_renew 11 = .ok (.ifCond .lt 9, 3) := by decide +kernel
theorem dX1_renew_14 : decode cX1_renew 14 = .ok (.iload_n 2, 1) := by decide +kernel
theorem dX1_renew_15 : decode cX1_renew 15 = .ok (.bipush 24, 2) := by decide +kernel
theorem dX1_renew_17 : decode cX1_renew 17 = .ok (.if_icmp .le 4, 3) := by decide +kernel
theorem dX1_renew_20 : decode cX1_renew 20 = .ok (.return_, 1) := by decide +kernel
theorem dX1_renew_21 : decode cX1_renew 21 = .ok (.aload_n 0, 1) := by decide +kernel
theorem dX1_renew_22 : decode cX1_renew 22 = .ok (.iconst 1, 1) := by decide +kernel
theorem dX1_renew_23 : decode cX1_renew 23 = .ok (.putfield 18, 3) := by decide +kernel
theorem dX1_renew_26 : decode cX1_renew 26 = .ok (.aload_n 0, 1) := by decide +kernel
theorem dX1_renew_27 : decode cX1_renew 27 = .ok (.iload_n 1, 1) := by decide +kernel
theorem dX1_renew_28 : decode cX1_renew 28 = .ok (.putfield 22, 3) := by decide +kernel
theorem dX1_renew_31 : decode cX1_renew 31 = .ok (.aload_n 0, 1) := by decide +kernel
theorem dX1_renew_32 : decode cX1_renew 32 = .ok (.iload_n 2, 1) := by decide +kernel
theorem dX1_renew_33 : decode cX1_renew 33 = .ok (.putfield 26, 3) := by decide +kernel
theorem dX1_renew_36 : decode cX1_renew 36 = .ok (.iconst 0, 1) := by decide +kernel
theorem dX1_renew_37 : decode cX1_renew 37 = .ok (.istore_n 3, 1) := by decide +kernel
theorem dX1_renew_38 : decode cX1_renew 38 = .ok (.iload_n 3, 1) := by decide +kernel
theorem dX1_renew_39 : decode cX1_renew 39 = .ok (.iload_n 1, 1) := by decide +kernel
theorem dX1_renew_40 : decode cX1_renew 40 = .ok (.if_icmp .ge 44, 3) := by decide +kernel
theorem dX1_renew_43 : decode cX1_renew 43 = .ok (.aload_n 0, 1) := by decide +kernel
theorem dX1_renew_44 : decode cX1_renew 44 = .ok (.getfield 15, 3) := by decide +kernel
theorem dX1_renew_47 : decode cX1_renew 47 = .ok (.iload_n 3, 1) := by decide +kernel
theorem dX1_renew_48 : decode cX1_renew 48 = .ok (.iload_n 3, 1) := by decide +kernel
theorem dX1_renew_49 : decode cX1_renew 49 = .ok (.iastore, 1) := by decide +kernel
theorem dX1_renew_50 : decode cX1_renew 50 = .ok (.iconst 0, 1) := by decide +kernel
theorem dX1_renew_51 : decode cX1_renew 51 = .ok (.istore 4, 2) := by decide +kernel
theorem dX1_renew_53 : decode cX1_renew 53 = .ok (.iload 4, 2) := by decide +kernel
theorem dX1_renew_55 : decode cX1_renew 55 = .ok (.iload_n 2, 1) := by decide +kernel
theorem dX1_renew_56 : decode cX1_renew 56 = .ok (.if_icmp .ge 22, 3) := by decide +kernel
theorem dX1_renew_59 : decode cX1_renew 59 = .ok (.aload_n 0, 1) := by decide +kernel
theorem dX1_renew_60 : decode cX1_renew 60 = .ok (.getfield 9, 3) := by decide +kernel
theorem dX1_renew_63 : decode cX1_renew 63 = .ok (.iload_n 3, 1) := by decide +kernel
theorem dX1_renew_64 : decode cX1_renew 64 = .ok (.bipush 24, 2) := by decide +kernel
theorem dX1_renew_66 : decode cX1_renew 66 = .ok (.imul, 1) := by decide +kernel
theorem dX1_renew_67 : decode cX1_renew 67 = .ok (.iload 4, 2) := by decide +kernel
theorem dX1_renew_69 : decode cX1_renew 69 = .ok (.iadd, 1) := by decide +kernel
theorem dX1_renew_70 : decode cX1_renew 70 = .ok (.iconst 0, 1) := by decide +kernel
theorem dX1_renew_71 : decode cX1_renew 71 = .ok (.iastore, 1) := by decide +kernel
theorem dX1_renew_72 : decode cX1_renew 72 = .ok (.iinc 4 1, 3) := by decide +kernel
theorem dX1_renew_75 : decode cX1_renew 75 = .ok (.goto (-22), 3) := by decide +kernel
theorem dX1_renew_78 : decode cX1_renew 78 = .ok (.iinc 3 1, 3) := by decide +kernel
theorem dX1_renew_81 : decode cX1_renew 81 = .ok (.goto (-43), 3) := by decide +kernel
theorem dX1_renew_84 : decode cX1_renew 84 = .ok (.return_, 1) := by decide +kernel
theorem dX1_isPlace_0 : decode cX1_isPlace 0 = .ok (.iload_n 1, 1) := by decide +kernel
theorem dX1_isPlace_1 : decode cX1_isPlace 1 = .ok (.ifCond .lt 15, 3) := by decide +kernel
theorem dX1_isPlace_4 : decode cX1_isPlace 4 = .ok (.iload_n 1, 1) := by decide +kernel
theorem dX1_isPlace_5 : decode cX1_isPlace 5 = .ok (.aload_n 0, 1) := by decide +kernel
theorem dX1_isPlace_6 : decode cX1_isPlace 6 = .ok (.getfield 22, 3) := by decide +kernel
theorem dX1_isPlace_9 : decode cX1_isPlace 9 = .ok (.if_icmp .ge 7, 3) := by decide +kernel
theorem dX1_isPlace_12 : decode cX1_isPlace 12 = .ok (.iconst 1, 1) := by decide +kernel
theorem dX1_isPlace_13 : decode cX1_isPlace 13 = .ok (.goto 4, 3) := by decide +kernel
theorem dX1_isPlace_16 : decode cX1_isPlace 16 = .ok (.iconst 0, 1) := by decide +kernel
theorem dX1_isPlace_17 : decode cX1_isPlace 17 = .ok (.ireturn, 1) := by decide +kernel
theorem dX1_placeFault_0 : decode cX1_placeFault 0 = .ok (.aload_n 0, 1) := by decide +kernel
theorem dX1_placeFault_1 : decode cX1_placeFault 1 = .ok (.getfield 18, 3) := by decide +kernel
theorem dX1_placeFault_4 : decode cX1_placeFault 4 = .ok (.ifCond .ne 5, 3) := by decide +kernel
theorem dX1_placeFault_7 : decode cX1_placeFault 7 = .ok (.iconst 1, 1) := by decide +kernel
theorem dX1_placeFault_8 : decode cX1_placeFault 8 = .ok (.ireturn, 1) := by decide +kernel
theorem dX1_placeFault_9 : decode cX1_placeFault 9 = .ok (.aload_n 0, 1) := by decide +kernel
theorem dX1_placeFault_10 : decode cX1_placeFault 10 = .ok (.iload_n 1, 1) := by decide +kernel
theorem dX1_placeFault_11 : decode cX1_placeFault 11 = .ok (.invokevirtual 29, 3) := by decide +kernel
theorem dX1_placeFault_14 : decode cX1_placeFault 14 = .ok (.ifCond .eq 7, 3) := by decide +kernel
theorem dX1_placeFault_17 : decode cX1_placeFault 17 = .ok (.iconst 0, 1) := by decide +kernel
theorem dX1_placeFault_18 : decode cX1_placeFault 18 = .ok (.goto 4, 3) := by decide +kernel
theorem dX1_placeFault_21 : decode cX1_placeFault 21 = .ok (.iconst 2, 1) := by decide +kernel
theorem dX1_placeFault_22 : decode cX1_placeFault 22 = .ok (.ireturn, 1) := by decide +kernel
theorem dX1_pickFault_0 : decode cX1_pickFault 0 = .ok (.aload_n 0, 1) := by decide +kernel
theorem dX1_pickFault_1 : decode cX1_pickFault 1 = .ok (.iload_n 1, 1) := by decide +kernel
theorem dX1_pickFault_2 : decode cX1_pickFault 2 = .ok (.invokevirtual 33, 3) := by decide +kernel
theorem dX1_pickFault_5 : decode cX1_pickFault 5 = .ok (.istore_n 2, 1) := by decide +kernel
theorem dX1_pickFault_6 : decode cX1_pickFault 6 = .ok (.iload_n 2, 1) := by decide +kernel
theorem dX1_pickFault_7 : decode cX1_pickFault 7 = .ok (.ifCond .ne 15, 3) := by decide +kernel
theorem dX1_pickFault_10 : decode cX1_pickFault 10 = .ok (.aload_n 0, 1) := by decide +kernel
theorem dX1_pickFault_11 : decode cX1_pickFault 11 = .ok (.iload_n 1, 1) := by decide +kernel
theorem dX1_pickFault_12 : decode cX1_pickFault 12 = .ok (.invokevirtual 37, 3) := by decide +kernel
theorem dX1_pickFault_15 : decode cX1_pickFault 15 = .ok (.ifCond .ne 7, 3) := by decide +kernel
theorem dX1_pickFault_18 : decode cX1_pickFault 18 = .ok (.iconst 1, 1) := by decide +kernel
theorem dX1_pickFault_19 : decode cX1_pickFault 19 = .ok (.goto 4, 3) := by decide +kernel
theorem dX1_pickFault_22 : decode cX1_pickFault 22 = .ok (.iload_n 2, 1) := by decide +kernel
theorem dX1_pickFault_23 : decode cX1_pickFault 23 = .ok (.ireturn, 1) := by decide +kernel
theorem dX1_hasPick_0 : decode cX1_hasPick 0 = .ok (.aload_n 0, 1) := by decide +kernel
theorem dX1_hasPick_1 : decode cX1_hasPick 1 = .ok (.iload_n 1, 1) := by decide +kernel
theorem dX1_hasPick_2 : decode cX1_hasPick 2 = .ok (.invokevirtual 29, 3) := by decide +kernel
theorem dX1_hasPick_5 : decode cX1_hasPick 5 = .ok (.ifCond .eq 17, 3) := by decide +kernel
theorem dX1_hasPick_8 : decode cX1_hasPick 8 = .ok (.aload_n 0, 1) := by decide +kernel
theorem dX1_hasPick_9 : decode cX1_hasPick 9 = .ok (.getfield 15, 3) := by decide +kernel
theorem dX1_hasPick_12 : decode cX1_hasPick 12 = .ok (.iload_n 1, 1) := by decide +kernel
theorem dX1_hasPick_13 : decode cX1_hasPick 13 = .ok (.iaload, 1) := by decide +kernel
theorem dX1_hasPick_14 : decode cX1_hasPick 14 = .ok (.iconst (-1), 1) := by decide +kernel
theorem dX1_hasPick_15 : decode cX1_hasPick 15 = .ok (.if_icmp .eq 7, 3) := by decide +kernel
theorem dX1_hasPick_18 : decode cX1_hasPick 18 = .ok (.iconst 1, 1) := by decide +kernel
theorem dX1_hasPick_19 : decode cX1_hasPick 19 = .ok (.goto 4, 3) := by decide +kernel
theorem dX1_hasPick_22 : decode cX1_hasPick 22 = .ok (.iconst 0, 1) := by decide +kernel
theorem dX1_hasPick_23 : decode cX1_hasPick 23 = .ok (.ireturn, 1) := by decide +kernel
theorem dX1_hasCell_0 : decode cX1_hasCell 0 = .ok (.iload_n 1, 1) := by decide +kernel
theorem dX1_hasCell_1 : decode cX1_hasCell 1 = .ok (.ifCond .lt 15, 3) := by decide +kernel
theorem dX1_hasCell_4 : decode cX1_hasCell 4 = .ok (.iload_n 1, 1) := by decide +kernel
theorem dX1_hasCell_5 : decode cX1_hasCell 5 = .ok (.aload_n 0, 1) := by decide +kernel
theorem dX1_hasCell_6 : decode cX1_hasCell 6 = .ok (.getfield 26, 3) := by decide +kernel
theorem dX1_hasCell_9 : decode cX1_hasCell 9 = .ok (.if_icmp .ge 7, 3) := by decide +kernel
theorem dX1_hasCell_12 : decode cX1_hasCell 12 = .ok (.iconst 1, 1) := by decide +kernel
theorem dX1_hasCell_13 : decode cX1_hasCell 13 = .ok (.goto 4, 3) := by decide +kernel
theorem dX1_hasCell_16 : decode cX1_hasCell 16 = .ok (.iconst 0, 1) := by decide +kernel
theorem dX1_hasCell_17 : decode cX1_hasCell 17 = .ok (.ireturn, 1) := by decide +kernel
theorem dX1_drop_0 : decode cX1_drop 0 = .ok (.aload_n 0, 1) := by decide +kernel
theorem dX1_drop_1 : decode cX1_drop 1 = .ok (.iload_n 1, 1) := by decide +kernel
theorem dX1_drop_2 : decode cX1_drop 2 = .ok (.invokevirtual 29, 3) := by decide +kernel
theorem dX1_drop_5 : decode cX1_drop 5 = .ok (.ifCond .eq 10, 3) := by decide +kernel
theorem dX1_drop_8 : decode cX1_drop 8 = .ok (.aload_n 0, 1) := by decide +kernel
theorem dX1_drop_9 : decode cX1_drop 9 = .ok (.getfield 15, 3) := by decide +kernel
theorem dX1_drop_12 : decode cX1_drop 12 = .ok (.iload_n 1, 1) := by decide +kernel
theorem dX1_drop_13 : decode cX1_drop 13 = .ok (.iconst (-1), 1) := by decide +kernel
theorem dX1_drop_14 : decode cX1_drop 14 = .ok (.iastore, 1) := by decide +kernel
theorem dX1_drop_15 : decode cX1_drop 15 = .ok (.return_, 1) := by decide +kernel
theorem dX1_join_0 : decode cX1_join 0 = .ok (.aload_n 0, 1) := by decide +kernel
theorem dX1_join_1 : decode cX1_join 1 = .ok (.iload_n 1, 1) := by decide +kernel
theorem dX1_join_2 : decode cX1_join 2 = .ok (.invokevirtual 29, 3) := by decide +kernel
theorem dX1_join_5 : decode cX1_join 5 = .ok (.ifCond .eq 23, 3) := by decide +kernel
theorem dX1_join_8 : decode cX1_join 8 = .ok (.aload_n 0, 1) := by decide +kernel
theorem dX1_join_9 : decode cX1_join 9 = .ok (.iload_n 2, 1) := by decide +kernel
theorem dX1_join_10 : decode cX1_join 10 = .ok (.invokevirtual 29, 3) := by decide +kernel
theorem dX1_join_13 : decode cX1_join 13 = .ok (.ifCond .eq 15, 3) := by decide +kernel
theorem dX1_join_16 : decode cX1_join 16 = .ok (.aload_n 0, 1) := by decide +kernel
theorem dX1_join_17 : decode cX1_join 17 = .ok (.getfield 15, 3) := by decide +kernel
theorem dX1_join_20 : decode cX1_join 20 = .ok (.iload_n 1, 1) := by decide +kernel
theorem dX1_join_21 : decode cX1_join 21 = .ok (.aload_n 0, 1) := by decide +kernel
theorem dX1_join_22 : decode cX1_join 22 = .ok (.getfield 15, 3) := by decide +kernel
theorem dX1_join_25 : decode cX1_join 25 = .ok (.iload_n 2, 1) := by decide +kernel
theorem dX1_join_26 : decode cX1_join 26 = .ok (.iaload, 1) := by decide +kernel
theorem dX1_join_27 : decode cX1_join 27 = .ok (.iastore, 1) := by decide +kernel
theorem dX1_join_28 : decode cX1_join 28 = .ok (.return_, 1) := by decide +kernel
theorem dX1_get_0 : decode cX1_get 0 = .ok (.aload_n 0, 1) := by decide +kernel
theorem dX1_get_1 : decode cX1_get 1 = .ok (.iload_n 1, 1) := by decide +kernel
theorem dX1_get_2 : decode cX1_get 2 = .ok (.invokevirtual 37, 3) := by decide +kernel
theorem dX1_get_5 : decode cX1_get 5 = .ok (.ifCond .eq 30, 3) := by decide +kernel
theorem dX1_get_8 : decode cX1_get 8 = .ok (.aload_n 0, 1) := by decide +kernel
theorem dX1_get_9 : decode cX1_get 9 = .ok (.iload_n 2, 1) := by decide +kernel
theorem dX1_get_10 : decode cX1_get 10 = .ok (.invokevirtual 40, 3) := by decide +kernel
theorem dX1_get_13 : decode cX1_get 13 = .ok (.ifCond .eq 22, 3) := by decide +kernel
theorem dX1_get_16 : decode cX1_get 16 = .ok (.aload_n 0, 1) := by decide +kernel
theorem dX1_get_17 : decode cX1_get 17 = .ok (.getfield 9, 3) := by decide +kernel
theorem dX1_get_20 : decode cX1_get 20 = .ok (.aload_n 0, 1) := by decide +kernel
theorem dX1_get_21 : decode cX1_get 21 = .ok (.getfield 15, 3) := by decide +kernel
theorem dX1_get_24 : decode cX1_get 24 = .ok (.iload_n 1, 1) := by decide +kernel
theorem dX1_get_25 : decode cX1_get 25 = .ok (.iaload, 1) := by decide +kernel
theorem dX1_get_26 : decode cX1_get 26 = .ok (.bipush 24, 2) := by decide +kernel
theorem dX1_get_28 : decode cX1_get 28 = .ok (.imul, 1) := by decide +kernel
theorem dX1_get_29 : decode cX1_get 29 = .ok (.iload_n 2, 1) := by decide +kernel
theorem dX1_get_30 : decode cX1_get 30 = .ok (.iadd, 1) := by decide +kernel
theorem dX1_get_31 : decode cX1_get 31 = .ok (.iaload, 1) := by decide +kernel
theorem dX1_get_32 : decode cX1_get 32 = .ok (.goto 4, 3) := by decide +kernel
theorem dX1_get_35 : decode cX1_get 35 = .ok (.iconst 0, 1) := by decide +kernel
theorem dX1_get_36 : decode cX1_get 36 = .ok (.ireturn, 1) := by decide +kernel
theorem dX1_set_0 : decode cX1_set 0 = .ok (.aload_n 0, 1) := by decide +kernel
theorem dX1_set_1 : decode cX1_set 1 = .ok (.iload_n 1, 1) := by decide +kernel
theorem dX1_set_2 : decode cX1_set 2 = .ok (.invokevirtual 37, 3) := by decide +kernel
theorem dX1_set_5 : decode cX1_set 5 = .ok (.ifCond .eq 28, 3) := by decide +kernel
theorem dX1_set_8 : decode cX1_set 8 = .ok (.aload_n 0, 1) := by decide +kernel
theorem dX1_set_9 : decode cX1_set 9 = .ok (.iload_n 2, 1) := by decide +kernel
theorem dX1_set_10 : decode cX1_set 10 = .ok (.invokevirtual 40, 3) := by decide +kernel
theorem dX1_set_13 : decode cX1_set 13 = .ok (.ifCond .eq 20, 3) := by decide +kernel
theorem dX1_set_16 : decode cX1_set 16 = .ok (.aload_n 0, 1) := by decide +kernel
theorem dX1_set_17 : decode cX1_set 17 = .ok (.getfield 9, 3) := by decide +kernel
theorem dX1_set_20 : decode cX1_set 20 = .ok (.aload_n 0, 1) := by decide +kernel
theorem dX1_set_21 : decode cX1_set 21 = .ok (.getfield 15, 3) := by decide +kernel
theorem dX1_set_24 : decode cX1_set 24 = .ok (.iload_n 1, 1) := by decide +kernel
theorem dX1_set_25 : decode cX1_set 25 = .ok (.iaload, 1) := by decide +kernel
theorem dX1_set_26 : decode cX1_set 26 = .ok (.bipush 24, 2) := by decide +kernel
theorem dX1_set_28 : decode cX1_set 28 = .ok (.imul, 1) := by decide +kernel
theorem dX1_set_29 : decode cX1_set 29 = .ok (.iload_n 2, 1) := by decide +kernel
theorem dX1_set_30 : decode cX1_set 30 = .ok (.iadd, 1) := by decide +kernel
theorem dX1_set_31 : decode cX1_set 31 = .ok (.iload_n 3, 1) := by decide +kernel
theorem dX1_set_32 : decode cX1_set 32 = .ok (.iastore, 1) := by decide +kernel
theorem dX1_set_33 : decode cX1_set 33 = .ok (.return_, 1) := by decide +kernel
theorem dX2_init_0 : decode cX2_init 0 = .ok (.aload_n 0, 1) := by decide +kernel
theorem dX2_init_1 : decode cX2_init 1 = .ok (.invokespecial 3, 3) := by decide +kernel
theorem dX2_init_4 : decode cX2_init 4 = .ok (.aload_n 0, 1) := by decide +kernel
theorem dX2_init_5 : decode cX2_init 5 = .ok (.bipush 12, 2) := by decide +kernel
theorem dX2_init_7 : decode cX2_init 7 = .ok (.anewarray 9, 3) := by decide +kernel
theorem dX2_init_10 : decode cX2_init 10 = .ok (.putfield 11, 3) := by decide +kernel
theorem dX2_init_13 : decode cX2_init 13 = .ok (.aload_n 0, 1) := by decide +kernel
theorem dX2_init_14 : decode cX2_init 14 = .ok (.iconst 0, 1) := by decide +kernel
theorem dX2_init_15 : decode cX2_init 15 = .ok (.putfield 17, 3) := by decide +kernel
theorem dX2_init_18 : decode cX2_init 18 = .ok (.iconst 0, 1) := by decide +kernel
theorem dX2_init_19 : decode cX2_init 19 = .ok (.istore_n 1, 1) := by decide +kernel
theorem dX2_init_20 : decode cX2_init 20 = .ok (.iload_n 1, 1) := by decide +kernel
theorem dX2_init_21 : decode cX2_init 21 = .ok (.aload_n 0, 1) := by decide +kernel
theorem dX2_init_22 : decode cX2_init 22 = .ok (.getfield 11, 3) := by decide +kernel
theorem dX2_init_25 : decode cX2_init 25 = .ok (.arraylength, 1) := by decide +kernel
theorem dX2_init_26 : decode cX2_init 26 = .ok (.if_icmp .ge 22, 3) := by decide +kernel
theorem dX2_init_29 : decode cX2_init 29 = .ok (.aload_n 0, 1) := by decide +kernel
theorem dX2_init_30 : decode cX2_init 30 = .ok (.getfield 11, 3) := by decide +kernel
theorem dX2_init_33 : decode cX2_init 33 = .ok (.iload_n 1, 1) := by decide +kernel
theorem dX2_init_34 : decode cX2_init 34 = .ok (.new 9, 3) := by decide +kernel
theorem dX2_init_37 : decode cX2_init 37 = .ok (.dup, 1) := by decide +kernel
theorem dX2_init_38 : decode cX2_init 38 = .ok (.invokespecial 21, 3) := by decide +kernel
theorem dX2_init_41 : decode cX2_init 41 = .ok (.aastore, 1) := by decide +kernel
theorem dX2_init_42 : decode cX2_init 42 = .ok (.iinc 1 1, 3) := by decide +kernel
theorem dX2_init_45 : decode cX2_init 45 = .ok (.goto (-25), 3) := by decide +kernel
theorem dX2_init_48 : decode cX2_init 48 = .ok (.return_, 1) := by decide +kernel
theorem dX2_count_0 : decode cX2_count 0 = .ok (.aload_n 0, 1) := by decide +kernel
theorem dX2_count_1 : decode cX2_count 1 = .ok (.getfield 17, 3) := by decide +kernel
theorem dX2_count_4 : decode cX2_count 4 = .ok (.ireturn, 1) := by decide +kernel
theorem dX2_isFull_0 : decode cX2_isFull 0 = .ok (.aload_n 0, 1) := by decide +kernel
theorem dX2_isFull_1 : decode cX2_isFull 1 = .ok (.getfield 17, 3) := by decide +kernel
theorem dX2_isFull_4 : decode cX2_isFull 4 = .ok (.bipush 12, 2) := by decide +kernel
theorem dX2_isFull_6 : decode cX2_isFull 6 = .ok (.if_icmp .ne 7, 3) := by decide +kernel
theorem dX2_isFull_9 : decode cX2_isFull 9 = .ok (.iconst 1, 1) := by decide +kernel
theorem dX2_isFull_10 : decode cX2_isFull 10 = .ok (.goto 4, 3) := by decide +kernel
theorem dX2_isFull_13 : decode cX2_isFull 13 = .ok (.iconst 0, 1) := by decide +kernel
theorem dX2_isFull_14 : decode cX2_isFull 14 = .ok (.ireturn, 1) := by decide +kernel
theorem dX2_clear_0 : decode cX2_clear 0 = .ok (.aload_n 0, 1) := by decide +kernel
theorem dX2_clear_1 : decode cX2_clear 1 = .ok (.iconst 0, 1) := by decide +kernel
theorem dX2_clear_2 : decode cX2_clear 2 = .ok (.putfield 17, 3) := by decide +kernel
theorem dX2_clear_5 : decode cX2_clear 5 = .ok (.return_, 1) := by decide +kernel
theorem dX2_add_0 : decode cX2_add 0 = .ok (.aload_n 0, 1) := by decide +kernel
theorem dX2_add_1 : decode cX2_add 1 = .ok (.invokevirtual 22, 3) := by decide +kernel
theorem dX2_add_4 : decode cX2_add 4 = .ok (.ifCond .eq 4, 3) := by decide +kernel
theorem dX2_add_7 : decode cX2_add 7 = .ok (.return_, 1) := by decide +kernel
theorem dX2_add_8 : decode cX2_add 8 = .ok (.aload_n 0, 1) := by decide +kernel
theorem dX2_add_9 : decode cX2_add 9 = .ok (.getfield 11, 3) := by decide +kernel
theorem dX2_add_12 : decode cX2_add 12 = .ok (.aload_n 0, 1) := by decide +kernel
theorem dX2_add_13 : decode cX2_add 13 = .ok (.getfield 17, 3) := by decide +kernel
theorem dX2_add_16 : decode cX2_add 16 = .ok (.aaload, 1) := by decide +kernel
theorem dX2_add_17 : decode cX2_add 17 = .ok (.astore 6, 2) := by decide +kernel
theorem dX2_add_19 : decode cX2_add 19 = .ok (.aload 6, 2) := by decide +kernel
theorem dX2_add_21 : decode cX2_add 21 = .ok (.iload_n 1, 1) := by decide +kernel
theorem dX2_add_22 : decode cX2_add 22 = .ok (.putfield 26, 3) := by decide +kernel
theorem dX2_add_25 : decode cX2_add 25 = .ok (.aload 6, 2) := by decide +kernel
theorem dX2_add_27 : decode cX2_add 27 = .ok (.iload_n 2, 1) := by decide +kernel
theorem dX2_add_28 : decode cX2_add 28 = .ok (.putfield 29, 3) := by decide +kernel
theorem dX2_add_31 : decode cX2_add 31 = .ok (.aload 6, 2) := by decide +kernel
theorem dX2_add_33 : decode cX2_add 33 = .ok (.iload_n 3, 1) := by decide +kernel
theorem dX2_add_34 : decode cX2_add 34 = .ok (.putfield 32, 3) := by decide +kernel
theorem dX2_add_37 : decode cX2_add 37 = .ok (.aload 6, 2) := by decide +kernel
theorem dX2_add_39 : decode cX2_add 39 = .ok (.iload 4, 2) := by decide +kernel
theorem dX2_add_41 : decode cX2_add 41 = .ok (.putfield 35, 3) := by decide +kernel
theorem dX2_add_44 : decode cX2_add 44 = .ok (.aload 6, 2) := by decide +kernel
theorem dX2_add_46 : decode cX2_add 46 = .ok (.iload 5, 2) := by decide +kernel
theorem dX2_add_48 : decode cX2_add 48 = .ok (.putfield 38, 3) := by decide +kernel
theorem dX2_add_51 : decode cX2_add 51 = .ok (.aload_n 0, 1) := by decide +kernel
theorem dX2_add_52 : decode cX2_add 52 = .ok (.dup, 1) := by decide +kernel
theorem dX2_add_53 : decode cX2_add 53 = .ok (.getfield 17, 3) := by decide +kernel
theorem dX2_add_56 : decode cX2_add 56 = .ok (.iconst 1, 1) := by decide +kernel
theorem dX2_add_57 : decode cX2_add 57 = .ok (.iadd, 1) := by decide +kernel
theorem dX2_add_58 : decode cX2_add 58 = .ok (.putfield 17, 3) := by decide +kernel
theorem dX2_add_61 : decode cX2_add 61 = .ok (.return_, 1) := by decide +kernel
theorem dX2_at_0 : decode cX2_at 0 = .ok (.aload_n 0, 1) := by decide +kernel
theorem dX2_at_1 : decode cX2_at 1 = .ok (.getfield 11, 3) := by decide +kernel
theorem dX2_at_4 : decode cX2_at 4 = .ok (.iload_n 1, 1) := by decide +kernel
theorem dX2_at_5 : decode cX2_at 5 = .ok (.aaload, 1) := by decide +kernel
theorem dX2_at_6 : decode cX2_at 6 = .ok (.areturn, 1) := by decide +kernel
theorem dX3_init_0 : decode cX3_init 0 = .ok (.aload_n 0, 1) := by decide +kernel
theorem dX3_init_1 : decode cX3_init 1 = .ok (.invokespecial 3, 3) := by decide +kernel
theorem dX3_init_4 : decode cX3_init 4 = .ok (.aload_n 0, 1) := by decide +kernel
theorem dX3_init_5 : decode cX3_init 5 = .ok (.iconst 0, 1) := by decide +kernel
theorem dX3_init_6 : decode cX3_init 6 = .ok (.putfield 9, 3) := by decide +kernel
theorem dX3_init_9 : decode cX3_init 9 = .ok (.return_, 1) := by decide +kernel
theorem dX3_count_0 : decode cX3_count 0 = .ok (.aload_n 0, 1) := by decide +kernel
theorem dX3_count_1 : decode cX3_count 1 = .ok (.getfield 9, 3) := by decide +kernel
theorem dX3_count_4 : decode cX3_count 4 = .ok (.ireturn, 1) := by decide +kernel
theorem dX3_has_0 : decode cX3_has 0 = .ok (.iload_n 1, 1) := by decide +kernel
theorem dX3_has_1 : decode cX3_has 1 = .ok (.ifCond .lt 15, 3) := by decide +kernel
theorem dX3_has_4 : decode cX3_has 4 = .ok (.iload_n 1, 1) := by decide +kernel
theorem dX3_has_5 : decode cX3_has 5 = .ok (.aload_n 0, 1) := by decide +kernel
theorem dX3_has_6 : decode cX3_has 6 = .ok (.getfield 9, 3) := by decide +kernel
theorem dX3_has_9 : decode cX3_has 9 = .ok (.if_icmp .ge 7, 3) := by decide +kernel
theorem dX3_has_12 : decode cX3_has 12 = .ok (.iconst 1, 1) := by decide +kernel
theorem dX3_has_13 : decode cX3_has 13 = .ok (.goto 4, 3) := by decide +kernel
theorem dX3_has_16 : decode cX3_has 16 = .ok (.iconst 0, 1) := by decide +kernel
theorem dX3_has_17 : decode cX3_has 17 = .ok (.ireturn, 1) := by decide +kernel
theorem dX3_restretch_0 : decode cX3_restretch 0 = .ok (.aload_n 0, 1) := by decide +kernel
theorem dX3_restretch_1 : decode cX3_restretch 1 = .ok (.iload_n 1, 1) := by decide +kernel
theorem dX3_restretch_2 : decode cX3_restretch 2 = .ok (.ifCond .lt 13, 3) := by decide +kernel
theorem dX3_restretch_5 : decode cX3_restretch 5 = .ok (.iload_n 1, 1) := by decide +kernel
theorem dX3_restretch_6 : decode cX3_restretch 6 = .ok (.bipush 24, 2) := by decide +kernel
theorem dX3_restretch_8 : decode cX3_restretch 8 = .ok (.if_icmp .gt 7, 3) := by decide +kernel
theorem dX3_restretch_11 : decode cX3_restretch 11 = .ok (.iload_n 1, 1) := by decide +kernel
theorem dX3_restretch_12 : decode cX3_restretch 12 = .ok (.goto 4, 3) := by decide +kernel
theorem dX3_restretch_15 : decode cX3_restretch 15 = .ok (.iconst 0, 1) := by decide +kernel
theorem dX3_restretch_16 : decode cX3_restretch 16 = .ok (.putfield 9, 3) := by decide +kernel
theorem dX3_restretch_19 : decode cX3_restretch 19 = .ok (.iconst 0, 1) := by decide +kernel
theorem dX3_restretch_20 : decode cX3_restretch 20 = .ok (.istore_n 2, 1) := by decide +kernel
theorem dX3_restretch_21 : decode cX3_restretch 21 = .ok (.iload_n 2, 1) := by decide +kernel
theorem dX3_restretch_22 : decode cX3_restretch 22 = .ok (.aload_n 0, 1) := by decide +kernel
theorem dX3_restretch_23 : decode cX3_restretch 23 = .ok (.getfield 9, 3) := by decide +kernel
theorem dX3_restretch_26 : decode cX3_restretch 26 = .ok (.if_icmp .ge 14, 3) := by decide +kernel
theorem dX3_restretch_29 : decode cX3_restretch 29 = .ok (.aload_n 0, 1) := by decide +kernel
theorem dX3_restretch_30 : decode cX3_restretch 30 = .ok (.iload_n 2, 1) := by decide +kernel
theorem dX3_restretch_31 : decode cX3_restretch 31 = .ok (.invokevirtual 15, 3) := by decide +kernel
theorem dX3_restretch_34 : decode cX3_restretch 34 = .ok (.iinc 2 1, 3) := by decide +kernel
theorem dX3_restretch_37 : decode cX3_restretch 37 = .ok (.goto (-16), 3) := by decide +kernel
theorem dX3_restretch_40 : decode cX3_restretch 40 = .ok (.return_, 1) := by decide +kernel
theorem dX4_init_0 : decode cX4_init 0 = .ok (.aload_n 0, 1) := by decide +kernel
theorem dX4_init_1 : decode cX4_init 1 = .ok (.invokespecial 3, 3) := by decide +kernel
theorem dX4_init_4 : decode cX4_init 4 = .ok (.aload_n 0, 1) := by decide +kernel
theorem dX4_init_5 : decode cX4_init 5 = .ok (.bipush 6, 2) := by decide +kernel
theorem dX4_init_7 : decode cX4_init 7 = .ok (.newarray .int, 2) := by decide +kernel
theorem dX4_init_9 : decode cX4_init 9 = .ok (.putfield 9, 3) := by decide +kernel
theorem dX4_init_12 : decode cX4_init 12 = .ok (.aload_n 0, 1) := by decide +kernel
theorem dX4_init_13 : decode cX4_init 13 = .ok (.iconst 0, 1) := by decide +kernel
theorem dX4_init_14 : decode cX4_init 14 = .ok (.putfield 15, 3) := by decide +kernel
theorem dX4_init_17 : decode cX4_init 17 = .ok (.return_, 1) := by decide +kernel
theorem dX4_begin_0 : decode cX4_begin 0 = .ok (.aload_n 0, 1) := by decide +kernel
theorem dX4_begin_1 : decode cX4_begin 1 = .ok (.iconst 0, 1) := by decide +kernel
theorem dX4_begin_2 : decode cX4_begin 2 = .ok (.putfield 15, 3) := by decide +kernel
theorem dX4_begin_5 : decode cX4_begin 5 = .ok (.return_, 1) := by decide +kernel
theorem dX4_tell_0 : decode cX4_tell 0 = .ok (.iload_n 1, 1) := by decide +kernel
theorem dX4_tell_1 : decode cX4_tell 1 = .ok (.iconst 1, 1) := by decide +kernel
theorem dX4_tell_2 : decode cX4_tell 2 = .ok (.if_icmp .lt 23, 3) := by decide +kernel
theorem dX4_tell_5 : decode cX4_tell 5 = .ok (.iload_n 1, 1) := by decide +kernel
theorem dX4_tell_6 : decode cX4_tell 6 = .ok (.iconst 5, 1) := by decide +kernel
theorem dX4_tell_7 : decode cX4_tell 7 = .ok (.if_icmp .gt 18, 3) := by decide +kernel
theorem dX4_tell_10 : decode cX4_tell 10 = .ok (.aload_n 0, 1) := by decide +kernel
theorem dX4_tell_11 : decode cX4_tell 11 = .ok (.iload_n 1, 1) := by decide +kernel
theorem dX4_tell_12 : decode cX4_tell 12 = .ok (.putfield 15, 3) := by decide +kernel
theorem dX4_tell_15 : decode cX4_tell 15 = .ok (.aload_n 0, 1) := by decide +kernel
theorem dX4_tell_16 : decode cX4_tell 16 = .ok (.getfield 9, 3) := by decide +kernel
theorem dX4_tell_19 : decode cX4_tell 19 = .ok (.iload_n 1, 1) := by decide +kernel
theorem dX4_tell_20 : decode cX4_tell 20 = .ok (.dup2, 1) := by decide +kernel
theorem dX4_tell_21 : decode cX4_tell 21 = .ok (.iaload, 1) := by decide +kernel
theorem dX4_tell_22 : decode cX4_tell 22 = .ok (.iconst 1, 1) := by decide +kernel
theorem dX4_tell_23 : decode cX4_tell 23 = .ok (.iadd, 1) := by decide +kernel
theorem dX4_tell_24 : decode cX4_tell 24 = .ok (.iastore, 1) := by decide +kernel
theorem dX4_tell_25 : decode cX4_tell 25 = .ok (.iconst 0, 1) := by decide +kernel
theorem dX4_tell_26 : decode cX4_tell 26 = .ok (.ireturn, 1) := by decide +kernel
theorem dX4_latest_0 : decode cX4_latest 0 = .ok (.aload_n 0, 1) := by decide +kernel
theorem dX4_latest_1 : decode cX4_latest 1 = .ok (.getfield 15, 3) := by decide +kernel
theorem dX4_latest_4 : decode cX4_latest 4 = .ok (.ireturn, 1) := by decide +kernel
theorem dX4_countOf_0 : decode cX4_countOf 0 = .ok (.iload_n 1, 1) := by decide +kernel
theorem dX4_countOf_1 : decode cX4_countOf 1 = .ok (.iconst 1, 1) := by decide +kernel
theorem dX4_countOf_2 : decode cX4_countOf 2 = .ok (.if_icmp .lt 17, 3) := by decide +kernel
theorem dX4_countOf_5 : decode cX4_countOf 5 = .ok (.iload_n 1, 1) := by decide +kernel
theorem dX4_countOf_6 : decode cX4_countOf 6 = .ok (.iconst 5, 1) := by decide +kernel
theorem dX4_countOf_7 : decode cX4_countOf 7 = .ok (.if_icmp .gt 12, 3) := by decide +kernel
theorem dX4_countOf_10 : decode cX4_countOf 10 = .ok (.aload_n 0, 1) := by decide +kernel
theorem dX4_countOf_11 : decode cX4_countOf 11 = .ok (.getfield 9, 3) := by decide +kernel
theorem dX4_countOf_14 : decode cX4_countOf 14 = .ok (.iload_n 1, 1) := by decide +kernel
theorem dX4_countOf_15 : decode cX4_countOf 15 = .ok (.iaload, 1) := by decide +kernel
theorem dX4_countOf_16 : decode cX4_countOf 16 = .ok (.goto 4, 3) := by decide +kernel
theorem dX4_countOf_19 : decode cX4_countOf 19 = .ok (.iconst 0, 1) := by decide +kernel
theorem dX4_countOf_20 : decode cX4_countOf 20 = .ok (.ireturn, 1) := by decide +kernel
theorem dX5_init_0 : decode cX5_init 0 = .ok (.aload_n 0, 1) := by decide +kernel
theorem dX5_init_1 : decode cX5_init 1 = .ok (.invokespecial 3, 3) := by decide +kernel
theorem dX5_init_4 : decode cX5_init 4 = .ok (.aload_n 0, 1) := by decide +kernel
theorem dX5_init_5 : decode cX5_init 5 = .ok (.bipush 24, 2) := by decide +kernel
theorem dX5_init_7 : decode cX5_init 7 = .ok (.newarray .boolean, 2) := by decide +kernel
theorem dX5_init_9 : decode cX5_init 9 = .ok (.putfield 9, 3) := by decide +kernel
theorem dX5_init_12 : decode cX5_init 12 = .ok (.return_, 1) := by decide +kernel
theorem dX5_isOdd_0 : decode cX5_isOdd 0 = .ok (.iload_n 0, 1) := by decide +kernel
theorem dX5_isOdd_1 : decode cX5_isOdd 1 = .ok (.iconst 1, 1) := by decide +kernel
theorem dX5_isOdd_2 : decode cX5_isOdd 2 = .ok (.iand, 1) := by decide +kernel
theorem dX5_isOdd_3 : decode cX5_isOdd 3 = .ok (.ifCond .eq 7, 3) := by decide +kernel
theorem dX5_isOdd_6 : decode cX5_isOdd 6 = .ok (.iconst 1, 1) := by decide +kernel
theorem dX5_isOdd_7 : decode cX5_isOdd 7 = .ok (.goto 4, 3) := by decide +kernel
theorem dX5_isOdd_10 : decode cX5_isOdd 10 = .ok (.iconst 0, 1) := by decide +kernel
theorem dX5_isOdd_11 : decode cX5_isOdd 11 = .ok (.ireturn, 1) := by decide +kernel
theorem dX5_reset_0 : decode cX5_reset 0 = .ok (.aload_n 0, 1) := by decide +kernel
theorem dX5_reset_1 : decode cX5_reset 1 = .ok (.getfield 9, 3) := by decide +kernel
theorem dX5_reset_4 : decode cX5_reset 4 = .ok (.iload_n 1, 1) := by decide +kernel
theorem dX5_reset_5 : decode cX5_reset 5 = .ok (.iconst 0, 1) := by decide +kernel
theorem dX5_reset_6 : decode cX5_reset 6 = .ok (.bastore, 1) := by decide +kernel
theorem dX5_reset_7 : decode cX5_reset 7 = .ok (.return_, 1) := by decide +kernel
theorem dX5_tells_0 : decode cX5_tells 0 = .ok (.aload_n 0, 1) := by decide +kernel
theorem dX5_tells_1 : decode cX5_tells 1 = .ok (.getfield 9, 3) := by decide +kernel
theorem dX5_tells_4 : decode cX5_tells 4 = .ok (.iload_n 1, 1) := by decide +kernel
theorem dX5_tells_5 : decode cX5_tells 5 = .ok (.baload, 1) := by decide +kernel
theorem dX5_tells_6 : decode cX5_tells 6 = .ok (.ifCond .eq 7, 3) := by decide +kernel
theorem dX5_tells_9 : decode cX5_tells 9 = .ok (.iconst 1, 1) := by decide +kernel
theorem dX5_tells_10 : decode cX5_tells 10 = .ok (.goto 4, 3) := by decide +kernel
theorem dX5_tells_13 : decode cX5_tells 13 = .ok (.iconst 0, 1) := by decide +kernel
theorem dX5_tells_14 : decode cX5_tells 14 = .ok (.ireturn, 1) := by decide +kernel
theorem dX5_lay_0 : decode cX5_lay 0 = .ok (.aload_n 0, 1) := by decide +kernel
theorem dX5_lay_1 : decode cX5_lay 1 = .ok (.getfield 9, 3) := by decide +kernel
theorem dX5_lay_4 : decode cX5_lay 4 = .ok (.iload_n 1, 1) := by decide +kernel
theorem dX5_lay_5 : decode cX5_lay 5 = .ok (.iload_n 2, 1) := by decide +kernel
theorem dX5_lay_6 : decode cX5_lay 6 = .ok (.invokestatic 15, 3) := by decide +kernel
theorem dX5_lay_9 : decode cX5_lay 9 = .ok (.bastore, 1) := by decide +kernel
theorem dX5_lay_10 : decode cX5_lay 10 = .ok (.return_, 1) := by decide +kernel
theorem dX5_pull_0 : decode cX5_pull 0 = .ok (.iload_n 2, 1) := by decide +kernel
theorem dX5_pull_1 : decode cX5_pull 1 = .ok (.invokestatic 15, 3) := by decide +kernel
theorem dX5_pull_4 : decode cX5_pull 4 = .ok (.ifCond .eq 8, 3) := by decide +kernel
theorem dX5_pull_7 : decode cX5_pull 7 = .ok (.aload_n 0, 1) := by decide +kernel
theorem dX5_pull_8 : decode cX5_pull 8 = .ok (.iload_n 1, 1) := by decide +kernel
theorem dX5_pull_9 : decode cX5_pull 9 = .ok (.invokevirtual 19, 3) := by decide +kernel
theorem dX5_pull_12 : decode cX5_pull 12 = .ok (.return_, 1) := by decide +kernel
theorem dX5_turn_0 : decode cX5_turn 0 = .ok (.aload_n 0, 1) := by decide +kernel
theorem dX5_turn_1 : decode cX5_turn 1 = .ok (.getfield 9, 3) := by decide +kernel
theorem dX5_turn_4 : decode cX5_turn 4 = .ok (.iload_n 1, 1) := by decide +kernel
theorem dX5_turn_5 : decode cX5_turn 5 = .ok (.aload_n 0, 1) := by decide +kernel
theorem dX5_turn_6 : decode cX5_turn 6 = .ok (.getfield 9, 3) := by decide +kernel
theorem dX5_turn_9 : decode cX5_turn 9 = .ok (.iload_n 1, 1) := by decide +kernel
theorem dX5_turn_10 : decode cX5_turn 10 = .ok (.baload, 1) := by decide +kernel
theorem dX5_turn_11 : decode cX5_turn 11 = .ok (.ifCond .ne 7, 3) := by decide +kernel
theorem dX5_turn_14 : decode cX5_turn 14 = .ok (.iconst 1, 1) := by decide +kernel
theorem dX5_turn_15 : decode cX5_turn 15 = .ok (.goto 4, 3) := by decide +kernel
theorem dX5_turn_18 : decode cX5_turn 18 = .ok (.iconst 0, 1) := by decide +kernel
theorem dX5_turn_19 : decode cX5_turn 19 = .ok (.bastore, 1) := by decide +kernel
theorem dX5_turn_20 : decode cX5_turn 20 = .ok (.return_, 1) := by decide +kernel
theorem dX5_part_0 : decode cX5_part 0 = .ok (.iload_n 2, 1) := by decide +kernel
theorem dX5_part_1 : decode cX5_part 1 = .ok (.invokestatic 15, 3) := by decide +kernel
theorem dX5_part_4 : decode cX5_part 4 = .ok (.ifCond .ne 10, 3) := by decide +kernel
theorem dX5_part_7 : decode cX5_part 7 = .ok (.aload_n 0, 1) := by decide +kernel
theorem dX5_part_8 : decode cX5_part 8 = .ok (.getfield 9, 3) := by decide +kernel
theorem dX5_part_11 : decode cX5_part 11 = .ok (.iload_n 1, 1) := by decide +kernel
theorem dX5_part_12 : decode cX5_part 12 = .ok (.iconst 0, 1) := by decide +kernel
theorem dX5_part_13 : decode cX5_part 13 = .ok (.bastore, 1) := by decide +kernel
theorem dX5_part_14 : decode cX5_part 14 = .ok (.iconst 1, 1) := by decide +kernel
theorem dX5_part_15 : decode cX5_part 15 = .ok (.ireturn, 1) := by decide +kernel
theorem dX5_exchange_0 : decode cX5_exchange 0 = .ok (.aload_n 0, 1) := by decide +kernel
theorem dX5_exchange_1 : decode cX5_exchange 1 = .ok (.getfield 9, 3) := by decide +kernel
theorem dX5_exchange_4 : decode cX5_exchange 4 = .ok (.iload_n 1, 1) := by decide +kernel
theorem dX5_exchange_5 : decode cX5_exchange 5 = .ok (.baload, 1) := by decide +kernel
theorem dX5_exchange_6 : decode cX5_exchange 6 = .ok (.istore_n 3, 1) := by decide +kernel
theorem dX5_exchange_7 : decode cX5_exchange 7 = .ok (.aload_n 0, 1) := by decide +kernel
theorem dX5_exchange_8 : decode cX5_exchange 8 = .ok (.getfield 9, 3) := by decide +kernel
theorem dX5_exchange_11 : decode cX5_exchange 11 = .ok (.iload_n 1, 1) := by decide +kernel
theorem dX5_exchange_12 : decode cX5_exchange 12 = .ok (.aload_n 0, 1) := by decide +kernel
theorem dX5_exchange_13 : decode cX5_exchange 13 = .ok (.getfield 9, 3) := by decide +kernel
theorem dX5_exchange_16 : decode cX5_exchange 16 = .ok (.iload_n 2, 1) := by decide +kernel
theorem dX5_exchange_17 : decode cX5_exchange 17 = .ok (.baload, 1) := by decide +kernel
theorem dX5_exchange_18 : decode cX5_exchange 18 = .ok (.bastore, 1) := by decide +kernel
theorem dX5_exchange_19 : decode cX5_exchange 19 = .ok (.aload_n 0, 1) := by decide +kernel
theorem dX5_exchange_20 : decode cX5_exchange 20 = .ok (.getfield 9, 3) := by decide +kernel
theorem dX5_exchange_23 : decode cX5_exchange 23 = .ok (.iload_n 2, 1) := by decide +kernel
theorem dX5_exchange_24 : decode cX5_exchange 24 = .ok (.iload_n 3, 1) := by decide +kernel
theorem dX5_exchange_25 : decode cX5_exchange 25 = .ok (.bastore, 1) := by decide +kernel
theorem dX5_exchange_26 : decode cX5_exchange 26 = .ok (.return_, 1) := by decide +kernel
theorem dX6_init_0 : decode cX6_init 0 = .ok (.aload_n 0, 1) := by decide +kernel
theorem dX6_init_1 : decode cX6_init 1 = .ok (.invokespecial 3, 3) := by decide +kernel
theorem dX6_init_4 : decode cX6_init 4 = .ok (.aload_n 0, 1) := by decide +kernel
theorem dX6_init_5 : decode cX6_init 5 = .ok (.bipush 16, 2) := by decide +kernel
theorem dX6_init_7 : decode cX6_init 7 = .ok (.newarray .int, 2) := by decide +kernel
theorem dX6_init_9 : decode cX6_init 9 = .ok (.putfield 9, 3) := by decide +kernel
theorem dX6_init_12 : decode cX6_init 12 = .ok (.aload_n 0, 1) := by decide +kernel
theorem dX6_init_13 : decode cX6_init 13 = .ok (.iconst 0, 1) := by decide +kernel
theorem dX6_init_14 : decode cX6_init 14 = .ok (.putfield 15, 3) := by decide +kernel
theorem dX6_init_17 : decode cX6_init 17 = .ok (.aload_n 0, 1) := by decide +kernel
theorem dX6_init_18 : decode cX6_init 18 = .ok (.iconst 0, 1) := by decide +kernel
theorem dX6_init_19 : decode cX6_init 19 = .ok (.putfield 19, 3) := by decide +kernel
theorem dX6_init_22 : decode cX6_init 22 = .ok (.return_, 1) := by decide +kernel
theorem dX6_count_0 : decode cX6_count 0 = .ok (.aload_n 0, 1) := by decide +kernel
theorem dX6_count_1 : decode cX6_count 1 = .ok (.getfield 19, 3) := by decide +kernel
theorem dX6_count_4 : decode cX6_count 4 = .ok (.ireturn, 1) := by decide +kernel
theorem dX6_isEmpty_0 : decode cX6_isEmpty 0 = .ok (.aload_n 0, 1) := by decide +kernel
theorem dX6_isEmpty_1 : decode cX6_isEmpty 1 = .ok (.getfield 19, 3) := by decide +kernel
theorem dX6_isEmpty_4 : decode cX6_isEmpty 4 = .ok (.ifCond .ne 7, 3) := by decide +kernel
theorem dX6_isEmpty_7 : decode cX6_isEmpty 7 = .ok (.iconst 1, 1) := by decide +kernel
theorem dX6_isEmpty_8 : decode cX6_isEmpty 8 = .ok (.goto 4, 3) := by decide +kernel
theorem dX6_isEmpty_11 : decode cX6_isEmpty 11 = .ok (.iconst 0, 1) := by decide +kernel
theorem dX6_isEmpty_12 : decode cX6_isEmpty 12 = .ok (.ireturn, 1) := by decide +kernel
theorem dX6_isFull_0 : decode cX6_isFull 0 = .ok (.aload_n 0, 1) := by decide +kernel
theorem dX6_isFull_1 : decode cX6_isFull 1 = .ok (.getfield 19, 3) := by decide +kernel
theorem dX6_isFull_4 : decode cX6_isFull 4 = .ok (.bipush 16, 2) := by decide +kernel
theorem dX6_isFull_6 : decode cX6_isFull 6 = .ok (.if_icmp .ne 7, 3) := by decide +kernel
theorem dX6_isFull_9 : decode cX6_isFull 9 = .ok (.iconst 1, 1) := by decide +kernel
theorem dX6_isFull_10 : decode cX6_isFull 10 = .ok (.goto 4, 3) := by decide +kernel
theorem dX6_isFull_13 : decode cX6_isFull 13 = .ok (.iconst 0, 1) := by decide +kernel
theorem dX6_isFull_14 : decode cX6_isFull 14 = .ok (.ireturn, 1) := by decide +kernel
theorem dX6_wind_0 : decode cX6_wind 0 = .ok (.aload_n 0, 1) := by decide +kernel
theorem dX6_wind_1 : decode cX6_wind 1 = .ok (.invokevirtual 22, 3) := by decide +kernel
theorem dX6_wind_4 : decode cX6_wind 4 = .ok (.ifCond .ne 31, 3) := by decide +kernel
theorem dX6_wind_7 : decode cX6_wind 7 = .ok (.aload_n 0, 1) := by decide +kernel
theorem dX6_wind_8 : decode cX6_wind 8 = .ok (.getfield 9, 3) := by decide +kernel
theorem dX6_wind_11 : decode cX6_wind 11 = .ok (.aload_n 0, 1) := by decide +kernel
theorem dX6_wind_12 : decode cX6_wind 12 = .ok (.getfield 15, 3) := by decide +kernel
theorem dX6_wind_15 : decode cX6_wind 15 = .ok (.aload_n 0, 1) := by decide +kernel
theorem dX6_wind_16 : decode cX6_wind 16 = .ok (.getfield 19, 3) := by decide +kernel
theorem dX6_wind_19 : decode cX6_wind 19 = .ok (.iadd, 1) := by decide +kernel
theorem dX6_wind_20 : decode cX6_wind 20 = .ok (.bipush 16, 2) := by decide +kernel
theorem dX6_wind_22 : decode cX6_wind 22 = .ok (.irem, 1) := by decide +kernel
theorem dX6_wind_23 : decode cX6_wind 23 = .ok (.iload_n 1, 1) := by decide +kernel
theorem dX6_wind_24 : decode cX6_wind 24 = .ok (.iastore, 1) := by decide +kernel
theorem dX6_wind_25 : decode cX6_wind 25 = .ok (.aload_n 0, 1) := by decide +kernel
theorem dX6_wind_26 : decode cX6_wind 26 = .ok (.dup, 1) := by decide +kernel
theorem dX6_wind_27 : decode cX6_wind 27 = .ok (.getfield 19, 3) := by decide +kernel
theorem dX6_wind_30 : decode cX6_wind 30 = .ok (.iconst 1, 1) := by decide +kernel
theorem dX6_wind_31 : decode cX6_wind 31 = .ok (.iadd, 1) := by decide +kernel
theorem dX6_wind_32 : decode cX6_wind 32 = .ok (.putfield 19, 3) := by decide +kernel
theorem dX6_wind_35 : decode cX6_wind 35 = .ok (.return_, 1) := by decide +kernel
theorem dX6_draw_0 : decode cX6_draw 0 = .ok (.aload_n 0, 1) := by decide +kernel
theorem dX6_draw_1 : decode cX6_draw 1 = .ok (.invokevirtual 26, 3) := by decide +kernel
theorem dX6_draw_4 : decode cX6_draw 4 = .ok (.ifCond .eq 5, 3) := by decide +kernel
theorem dX6_draw_7 : decode cX6_draw 7 = .ok (.iconst 0, 1) := by decide +kernel
theorem dX6_draw_8 : decode cX6_draw 8 = .ok (.ireturn, 1) := by decide +kernel
theorem dX6_draw_9 : decode cX6_draw 9 = .ok (.aload_n 0, 1) := by decide +kernel
theorem dX6_draw_10 : decode cX6_draw 10 = .ok (.getfield 9, 3) := by decide +kernel
theorem dX6_draw_13 : decode cX6_draw 13 = .ok (.aload_n 0, 1) := by decide +kernel
theorem dX6_draw_14 : decode cX6_draw 14 = .ok (.getfield 15, 3) := by decide +kernel
theorem dX6_draw_17 : decode cX6_draw 17 = .ok (.iaload, 1) := by decide +kernel
theorem dX6_draw_18 : decode cX6_draw 18 = .ok (.istore_n 1, 1) := by decide +kernel
theorem dX6_draw_19 : decode cX6_draw 19 = .ok (.aload_n 0, 1) := by decide +kernel
theorem dX6_draw_20 : decode cX6_draw 20 = .ok (.aload_n 0, 1) := by decide +kernel
theorem dX6_draw_21 : decode cX6_draw 21 = .ok (.getfield 15, 3) := by decide +kernel
theorem dX6_draw_24 : decode cX6_draw 24 = .ok (.iconst 1, 1) := by decide +kernel
theorem dX6_draw_25 : decode cX6_draw 25 = .ok (.iadd, 1) := by decide +kernel
theorem dX6_draw_26 : decode cX6_draw 26 = .ok (.bipush 16, 2) := by decide +kernel
theorem dX6_draw_28 : decode cX6_draw 28 = .ok (.irem, 1) := by decide +kernel
theorem dX6_draw_29 : decode cX6_draw 29 = .ok (.putfield 15, 3) := by decide +kernel
theorem dX6_draw_32 : decode cX6_draw 32 = .ok (.aload_n 0, 1) := by decide +kernel
theorem dX6_draw_33 : decode cX6_draw 33 = .ok (.dup, 1) := by decide +kernel
theorem dX6_draw_34 : decode cX6_draw 34 = .ok (.getfield 19, 3) := by decide +kernel
theorem dX6_draw_37 : decode cX6_draw 37 = .ok (.iconst 1, 1) := by decide +kernel
theorem dX6_draw_38 : decode cX6_draw 38 = .ok (.isub, 1) := by decide +kernel
theorem dX6_draw_39 : decode cX6_draw 39 = .ok (.putfield 19, 3) := by decide +kernel
theorem dX6_draw_42 : decode cX6_draw 42 = .ok (.iload_n 1, 1) := by decide +kernel
theorem dX6_draw_43 : decode cX6_draw 43 = .ok (.ireturn, 1) := by decide +kernel
theorem dX7_init_0 : decode cX7_init 0 = .ok (.aload_n 0, 1) := by decide +kernel
theorem dX7_init_1 : decode cX7_init 1 = .ok (.invokespecial 3, 3) := by decide +kernel
theorem dX7_init_4 : decode cX7_init 4 = .ok (.aload_n 0, 1) := by decide +kernel
theorem dX7_init_5 : decode cX7_init 5 = .ok (.bipush 24, 2) := by decide +kernel
theorem dX7_init_7 : decode cX7_init 7 = .ok (.newarray .float, 2) := by decide +kernel
theorem dX7_init_9 : decode cX7_init 9 = .ok (.putfield 9, 3) := by decide +kernel
theorem dX7_init_12 : decode cX7_init 12 = .ok (.return_, 1) := by decide +kernel
theorem dX7_hold_0 : decode cX7_hold 0 = .ok (.fload_n 0, 1) := by decide +kernel
theorem dX7_hold_1 : decode cX7_hold 1 = .ok (.ldc 15, 2) := by decide +kernel
theorem dX7_hold_3 : decode cX7_hold 3 = .ok (.fcmp .g, 1) := by decide +kernel
theorem dX7_hold_4 : decode cX7_hold 4 = .ok (.ifCond .ge 6, 3) := by decide +kernel
theorem dX7_hold_7 : decode cX7_hold 7 = .ok (.ldc 15, 2) := by decide +kernel
theorem dX7_hold_9 : decode cX7_hold 9 = .ok (.freturn, 1) := by decide +kernel
theorem dX7_hold_10 : decode cX7_hold 10 = .ok (.fload_n 0, 1) := by decide +kernel
theorem dX7_hold_11 : decode cX7_hold 11 = .ok (.ldc 16, 2) := by decide +kernel
theorem dX7_hold_13 : decode cX7_hold 13 = .ok (.fcmp .l, 1) := by decide +kernel
theorem dX7_hold_14 : decode cX7_hold 14 = .ok (.ifCond .le 8, 3) := by decide +kernel
theorem dX7_hold_17 : decode cX7_hold 17 = .ok (.ldc 16, 2) := by decide +kernel
theorem dX7_hold_19 : decode cX7_hold 19 = .ok (.goto 4, 3) := by decide +kernel
theorem dX7_hold_22 : decode cX7_hold 22 = .ok (.fload_n 0, 1) := by decide +kernel
theorem dX7_hold_23 : decode cX7_hold 23 = .ok (.freturn, 1) := by decide +kernel
theorem dX7_eighths_0 : decode cX7_eighths 0 = .ok (.iload_n 0, 1) := by decide +kernel
theorem dX7_eighths_1 : decode cX7_eighths 1 = .ok (.i2f, 1) := by decide +kernel
theorem dX7_eighths_2 : decode cX7_eighths 2 = .ok (.ldc 17, 2) := by decide +kernel
theorem dX7_eighths_4 : decode cX7_eighths 4 = .ok (.fdiv, 1) := by decide +kernel
theorem dX7_eighths_5 : decode cX7_eighths 5 = .ok (.freturn, 1) := by decide +kernel
theorem dX7_reset_0 : decode cX7_reset 0 = .ok (.aload_n 0, 1) := by decide +kernel
theorem dX7_reset_1 : decode cX7_reset 1 = .ok (.getfield 9, 3) := by decide +kernel
theorem dX7_reset_4 : decode cX7_reset 4 = .ok (.iload_n 1, 1) := by decide +kernel
theorem dX7_reset_5 : decode cX7_reset 5 = .ok (.fconst 0, 1) := by decide +kernel
theorem dX7_reset_6 : decode cX7_reset 6 = .ok (.fastore, 1) := by decide +kernel
theorem dX7_reset_7 : decode cX7_reset 7 = .ok (.return_, 1) := by decide +kernel
theorem dX7_tells_0 : decode cX7_tells 0 = .ok (.aload_n 0, 1) := by decide +kernel
theorem dX7_tells_1 : decode cX7_tells 1 = .ok (.getfield 9, 3) := by decide +kernel
theorem dX7_tells_4 : decode cX7_tells 4 = .ok (.iload_n 1, 1) := by decide +kernel
theorem dX7_tells_5 : decode cX7_tells 5 = .ok (.faload, 1) := by decide +kernel
theorem dX7_tells_6 : decode cX7_tells 6 = .ok (.ldc 17, 2) := by decide +kernel
theorem dX7_tells_8 : decode cX7_tells 8 = .ok (.fmul, 1) := by decide +kernel
theorem dX7_tells_9 : decode cX7_tells 9 = .ok (.f2i, 1) := by decide +kernel
theorem dX7_tells_10 : decode cX7_tells 10 = .ok (.ireturn, 1) := by decide +kernel
theorem dX7_lay_0 : decode cX7_lay 0 = .ok (.aload_n 0, 1) := by decide +kernel
theorem dX7_lay_1 : decode cX7_lay 1 = .ok (.getfield 9, 3) := by decide +kernel
theorem dX7_lay_4 : decode cX7_lay 4 = .ok (.iload_n 1, 1) := by decide +kernel
theorem dX7_lay_5 : decode cX7_lay 5 = .ok (.iload_n 2, 1) := by decide +kernel
theorem dX7_lay_6 : decode cX7_lay 6 = .ok (.invokestatic 18, 3) := by decide +kernel
theorem dX7_lay_9 : decode cX7_lay 9 = .ok (.invokestatic 22, 3) := by decide +kernel
theorem dX7_lay_12 : decode cX7_lay 12 = .ok (.fastore, 1) := by decide +kernel
theorem dX7_lay_13 : decode cX7_lay 13 = .ok (.return_, 1) := by decide +kernel
theorem dX7_pull_0 : decode cX7_pull 0 = .ok (.aload_n 0, 1) := by decide +kernel
theorem dX7_pull_1 : decode cX7_pull 1 = .ok (.getfield 9, 3) := by decide +kernel
theorem dX7_pull_4 : decode cX7_pull 4 = .ok (.iload_n 1, 1) := by decide +kernel
theorem dX7_pull_5 : decode cX7_pull 5 = .ok (.aload_n 0, 1) := by decide +kernel
theorem dX7_pull_6 : decode cX7_pull 6 = .ok (.getfield 9, 3) := by decide +kernel
theorem dX7_pull_9 : decode cX7_pull 9 = .ok (.iload_n 1, 1) := by decide +kernel
theorem dX7_pull_10 : decode cX7_pull 10 = .ok (.faload, 1) := by decide +kernel
theorem dX7_pull_11 : decode cX7_pull 11 = .ok (.iload_n 2, 1) := by decide +kernel
theorem dX7_pull_12 : decode cX7_pull 12 = .ok (.invokestatic 18, 3) := by decide +kernel
theorem dX7_pull_15 : decode cX7_pull 15 = .ok (.fadd, 1) := by decide +kernel
theorem dX7_pull_16 : decode cX7_pull 16 = .ok (.invokestatic 22, 3) := by decide +kernel
theorem dX7_pull_19 : decode cX7_pull 19 = .ok (.fastore, 1) := by decide +kernel
theorem dX7_pull_20 : decode cX7_pull 20 = .ok (.return_, 1) := by decide +kernel
theorem dX7_turn_0 : decode cX7_turn 0 = .ok (.aload_n 0, 1) := by decide +kernel
theorem dX7_turn_1 : decode cX7_turn 1 = .ok (.getfield 9, 3) := by decide +kernel
theorem dX7_turn_4 : decode cX7_turn 4 = .ok (.iload_n 1, 1) := by decide +kernel
theorem dX7_turn_5 : decode cX7_turn 5 = .ok (.aload_n 0, 1) := by decide +kernel
theorem dX7_turn_6 : decode cX7_turn 6 = .ok (.getfield 9, 3) := by decide +kernel
theorem dX7_turn_9 : decode cX7_turn 9 = .ok (.iload_n 1, 1) := by decide +kernel
theorem dX7_turn_10 : decode cX7_turn 10 = .ok (.faload, 1) := by decide +kernel
theorem dX7_turn_11 : decode cX7_turn 11 = .ok (.fconst 1, 1) := by decide +kernel
theorem dX7_turn_12 : decode cX7_turn 12 = .ok (.fadd, 1) := by decide +kernel
theorem dX7_turn_13 : decode cX7_turn 13 = .ok (.invokestatic 22, 3) := by decide +kernel
theorem dX7_turn_16 : decode cX7_turn 16 = .ok (.fastore, 1) := by decide +kernel
theorem dX7_turn_17 : decode cX7_turn 17 = .ok (.return_, 1) := by decide +kernel
theorem dX7_part_0 : decode cX7_part 0 = .ok (.iload_n 2, 1) := by decide +kernel
theorem dX7_part_1 : decode cX7_part 1 = .ok (.ifCond .ne 5, 3) := by decide +kernel
theorem dX7_part_4 : decode cX7_part 4 = .ok (.iconst 0, 1) := by decide +kernel
theorem dX7_part_5 : decode cX7_part 5 = .ok (.ireturn, 1) := by decide +kernel
theorem dX7_part_6 : decode cX7_part 6 = .ok (.aload_n 0, 1) := by decide +kernel
theorem dX7_part_7 : decode cX7_part 7 = .ok (.getfield 9, 3) := by decide +kernel
theorem dX7_part_10 : decode cX7_part 10 = .ok (.iload_n 1, 1) := by decide +kernel
theorem dX7_part_11 : decode cX7_part 11 = .ok (.aload_n 0, 1) := by decide +kernel
theorem dX7_part_12 : decode cX7_part 12 = .ok (.getfield 9, 3) := by decide +kernel
theorem dX7_part_15 : decode cX7_part 15 = .ok (.iload_n 1, 1) := by decide +kernel
theorem dX7_part_16 : decode cX7_part 16 = .ok (.faload, 1) := by decide +kernel
theorem dX7_part_17 : decode cX7_part 17 = .ok (.iload_n 2, 1) := by decide +kernel
theorem dX7_part_18 : decode cX7_part 18 = .ok (.i2f, 1) := by decide +kernel
theorem dX7_part_19 : decode cX7_part 19 = .ok (.fdiv, 1) := by decide +kernel
theorem dX7_part_20 : decode cX7_part 20 = .ok (.fastore, 1) := by decide +kernel
theorem dX7_part_21 : decode cX7_part 21 = .ok (.iconst 1, 1) := by decide +kernel
theorem dX7_part_22 : decode cX7_part 22 = .ok (.ireturn, 1) := by decide +kernel
theorem dX7_exchange_0 : decode cX7_exchange 0 = .ok (.aload_n 0, 1) := by decide +kernel
theorem dX7_exchange_1 : decode cX7_exchange 1 = .ok (.getfield 9, 3) := by decide +kernel
theorem dX7_exchange_4 : decode cX7_exchange 4 = .ok (.iload_n 1, 1) := by decide +kernel
theorem dX7_exchange_5 : decode cX7_exchange 5 = .ok (.faload, 1) := by decide +kernel
theorem dX7_exchange_6 : decode cX7_exchange 6 = .ok (.fstore_n 3, 1) := by decide +kernel
theorem dX7_exchange_7 : decode cX7_exchange 7 = .ok (.aload_n 0, 1) := by decide +kernel
theorem dX7_exchange_8 : decode cX7_exchange 8 = .ok (.getfield 9, 3) := by decide +kernel
theorem dX7_exchange_11 : decode cX7_exchange 11 = .ok (.iload_n 1, 1) := by decide +kernel
theorem dX7_exchange_12 : decode cX7_exchange 12 = .ok (.aload_n 0, 1) := by decide +kernel
theorem dX7_exchange_13 : decode cX7_exchange 13 = .ok (.getfield 9, 3) := by decide +kernel
theorem dX7_exchange_16 : decode cX7_exchange 16 = .ok (.iload_n 2, 1) := by decide +kernel
theorem dX7_exchange_17 : decode cX7_exchange 17 = .ok (.faload, 1) := by decide +kernel
theorem dX7_exchange_18 : decode cX7_exchange 18 = .ok (.fastore, 1) := by decide +kernel
theorem dX7_exchange_19 : decode cX7_exchange 19 = .ok (.aload_n 0, 1) := by decide +kernel
theorem dX7_exchange_20 : decode cX7_exchange 20 = .ok (.getfield 9, 3) := by decide +kernel
theorem dX7_exchange_23 : decode cX7_exchange 23 = .ok (.iload_n 2, 1) := by decide +kernel
theorem dX7_exchange_24 : decode cX7_exchange 24 = .ok (.fload_n 3, 1) := by decide +kernel
theorem dX7_exchange_25 : decode cX7_exchange 25 = .ok (.fastore, 1) := by decide +kernel
theorem dX7_exchange_26 : decode cX7_exchange 26 = .ok (.return_, 1) := by decide +kernel
theorem dX8_init_0 : decode cX8_init 0 = .ok (.aload_n 0, 1) := by decide +kernel
theorem dX8_init_1 : decode cX8_init 1 = .ok (.invokespecial 3, 3) := by decide +kernel
theorem dX8_init_4 : decode cX8_init 4 = .ok (.aload_n 0, 1) := by decide +kernel
theorem dX8_init_5 : decode cX8_init 5 = .ok (.bipush 20, 2) := by decide +kernel
theorem dX8_init_7 : decode cX8_init 7 = .ok (.anewarray 9, 3) := by decide +kernel
theorem dX8_init_10 : decode cX8_init 10 = .ok (.putfield 11, 3) := by decide +kernel
theorem dX8_init_13 : decode cX8_init 13 = .ok (.aload_n 0, 1) := by decide +kernel
theorem dX8_init_14 : decode cX8_init 14 = .ok (.bipush 20, 2) := by decide +kernel
theorem dX8_init_16 : decode cX8_init 16 = .ok (.anewarray 9, 3) := by decide +kernel
theorem dX8_init_19 : decode cX8_init 19 = .ok (.putfield 17, 3) := by decide +kernel
theorem dX8_init_22 : decode cX8_init 22 = .ok (.iconst 0, 1) := by decide +kernel
theorem dX8_init_23 : decode cX8_init 23 = .ok (.istore_n 1, 1) := by decide +kernel
theorem dX8_init_24 : decode cX8_init 24 = .ok (.iload_n 1, 1) := by decide +kernel
theorem dX8_init_25 : decode cX8_init 25 = .ok (.aload_n 0, 1) := by decide +kernel
theorem dX8_init_26 : decode cX8_init 26 = .ok (.getfield 11, 3) := by decide +kernel
theorem dX8_init_29 : decode cX8_init 29 = .ok (.arraylength, 1) := by decide +kernel
theorem dX8_init_30 : decode cX8_init 30 = .ok (.if_icmp .ge 21, 3) := by decide +kernel
theorem dX8_init_33 : decode cX8_init 33 = .ok (.aload_n 0, 1) := by decide +kernel
theorem dX8_init_34 : decode cX8_init 34 = .ok (.getfield 11, 3) := by decide +kernel
theorem dX8_init_37 : decode cX8_init 37 = .ok (.iload_n 1, 1) := by decide +kernel
theorem dX8_init_38 : decode cX8_init 38 = .ok (.iload_n 1, 1) := by decide +kernel
theorem dX8_init_39 : decode cX8_init 39 = .ok (.iconst 5, 1) := by decide +kernel
theorem dX8_init_40 : decode cX8_init 40 = .ok (.irem, 1) := by decide +kernel
theorem dX8_init_41 : decode cX8_init 41 = .ok (.invokestatic 20, 3) := by decide +kernel
theorem dX8_init_44 : decode cX8_init 44 = .ok (.aastore, 1) := by decide +kernel
theorem dX8_init_45 : decode cX8_init 45 = .ok (.iinc 1 1, 3) := by decide +kernel
theorem dX8_init_48 : decode cX8_init 48 = .ok (.goto (-24), 3) := by decide +kernel
theorem dX8_init_51 : decode cX8_init 51 = .ok (.return_, 1) := by decide +kernel
theorem dX8_newLane_0 : decode cX8_newLane 0 = .ok (.iload_n 0, 1) := by decide +kernel
theorem dX8_newLane_1 : decode cX8_newLane 1 = .ok (.lookupswitch 43 #[(2, 27), (3, 35)], 27) := by decide +kernel
theorem dX8_newLane_28 : decode cX8_newLane 28 = .ok (.new 24, 3) := by decide +kernel
theorem dX8_newLane_31 : decode cX8_newLane 31 = .ok (.dup, 1) := by decide +kernel
theorem dX8_newLane_32 : decode cX8_newLane 32 = .ok (.invokespecial 26, 3) := by decide +kernel
theorem dX8_newLane_35 : decode cX8_newLane 35 = .ok (.areturn, 1) := by decide +kernel
theorem dX8_newLane_36 : decode cX8_newLane 36 = .ok (.new 27, 3) := by decide +kernel
theorem dX8_newLane_39 : decode cX8_newLane 39 = .ok (.dup, 1) := by decide +kernel
theorem dX8_newLane_40 : decode cX8_newLane 40 = .ok (.invokespecial 29, 3) := by decide +kernel
theorem dX8_newLane_43 : decode cX8_newLane 43 = .ok (.areturn, 1) := by decide +kernel
theorem dX8_newLane_44 : decode cX8_newLane 44 = .ok (.new 30, 3) := by decide +kernel
theorem dX8_newLane_47 : decode cX8_newLane 47 = .ok (.dup, 1) := by decide +kernel
theorem dX8_newLane_48 : decode cX8_newLane 48 = .ok (.iload_n 0, 1) := by decide +kernel
theorem dX8_newLane_49 : decode cX8_newLane 49 = .ok (.invokespecial 32, 3) := by decide +kernel
theorem dX8_newLane_52 : decode cX8_newLane 52 = .ok (.areturn, 1) := by decide +kernel
theorem dX8_isFrame_0 : decode cX8_isFrame 0 = .ok (.iload_n 0, 1) := by decide +kernel
theorem dX8_isFrame_1 : decode cX8_isFrame 1 = .ok (.ifCond .lt 12, 3) := by decide +kernel
theorem dX8_isFrame_4 : decode cX8_isFrame 4 = .ok (.iload_n 0, 1) := by decide +kernel
theorem dX8_isFrame_5 : decode cX8_isFrame 5 = .ok (.iconst 4, 1) := by decide +kernel
theorem dX8_isFrame_6 : decode cX8_isFrame 6 = .ok (.if_icmp .ge 7, 3) := by decide +kernel
theorem dX8_isFrame_9 : decode cX8_isFrame 9 = .ok (.iconst 1, 1) := by decide +kernel
theorem dX8_isFrame_10 : decode cX8_isFrame 10 = .ok (.goto 4, 3) := by decide +kernel
theorem dX8_isFrame_13 : decode cX8_isFrame 13 = .ok (.iconst 0, 1) := by decide +kernel
theorem dX8_isFrame_14 : decode cX8_isFrame 14 = .ok (.ireturn, 1) := by decide +kernel
theorem dX8_isLane_0 : decode cX8_isLane 0 = .ok (.iload_n 0, 1) := by decide +kernel
theorem dX8_isLane_1 : decode cX8_isLane 1 = .ok (.invokestatic 35, 3) := by decide +kernel
theorem dX8_isLane_4 : decode cX8_isLane 4 = .ok (.ifCond .eq 16, 3) := by decide +kernel
theorem dX8_isLane_7 : decode cX8_isLane 7 = .ok (.iload_n 1, 1) := by decide +kernel
theorem dX8_isLane_8 : decode cX8_isLane 8 = .ok (.ifCond .lt 12, 3) := by decide +kernel
theorem dX8_isLane_11 : decode cX8_isLane 11 = .ok (.iload_n 1, 1) := by decide +kernel
theorem dX8_isLane_12 : decode cX8_isLane 12 = .ok (.iconst 5, 1) := by decide +kernel
theorem dX8_isLane_13 : decode cX8_isLane 13 = .ok (.if_icmp .ge 7, 3) := by decide +kernel
theorem dX8_isLane_16 : decode cX8_isLane 16 = .ok (.iconst 1, 1) := by decide +kernel
theorem dX8_isLane_17 : decode cX8_isLane 17 = .ok (.goto 4, 3) := by decide +kernel
theorem dX8_isLane_20 : decode cX8_isLane 20 = .ok (.iconst 0, 1) := by decide +kernel
theorem dX8_isLane_21 : decode cX8_isLane 21 = .ok (.ireturn, 1) := by decide +kernel
theorem dX8_place_0 : decode cX8_place 0 = .ok (.iload_n 0, 1) := by decide +kernel
theorem dX8_place_1 : decode cX8_place 1 = .ok (.iconst 5, 1) := by decide +kernel
theorem dX8_place_2 : decode cX8_place 2 = .ok (.imul, 1) := by decide +kernel
theorem dX8_place_3 : decode cX8_place 3 = .ok (.iload_n 1, 1) := by decide +kernel
theorem dX8_place_4 : decode cX8_place 4 = .ok (.iadd, 1) := by decide +kernel
theorem dX8_place_5 : decode cX8_place 5 = .ok (.ireturn, 1) := by decide +kernel
theorem dX8_laneAt_0 : decode cX8_laneAt 0 = .ok (.iload_n 1, 1) := by decide +kernel
theorem dX8_laneAt_1 : decode cX8_laneAt 1 = .ok (.iload_n 2, 1) := by decide +kernel
theorem dX8_laneAt_2 : decode cX8_laneAt 2 = .ok (.invokestatic 39, 3) := by decide +kernel
theorem dX8_laneAt_5 : decode cX8_laneAt 5 = .ok (.ifCond .eq 16, 3) := by decide +kernel
theorem dX8_laneAt_8 : decode cX8_laneAt 8 = .ok (.aload_n 0, 1) := by decide +kernel
theorem dX8_laneAt_9 : decode cX8_laneAt 9 = .ok (.getfield 17, 3) := by decide +kernel
theorem dX8_laneAt_12 : decode cX8_laneAt 12 = .ok (.iload_n 1, 1) := by decide +kernel
theorem dX8_laneAt_13 : decode cX8_laneAt 13 = .ok (.iload_n 2, 1) := by decide +kernel
theorem dX8_laneAt_14 : decode cX8_laneAt 14 = .ok (.invokestatic 43, 3) := by decide +kernel
theorem dX8_laneAt_17 : decode cX8_laneAt 17 = .ok (.aaload, 1) := by decide +kernel
theorem dX8_laneAt_18 : decode cX8_laneAt 18 = .ok (.goto 4, 3) := by decide +kernel
theorem dX8_laneAt_21 : decode cX8_laneAt 21 = .ok (.aconst_null, 1) := by decide +kernel
theorem dX8_laneAt_22 : decode cX8_laneAt 22 = .ok (.areturn, 1) := by decide +kernel
theorem dX8_loosen_0 : decode cX8_loosen 0 = .ok (.iload_n 1, 1) := by decide +kernel
theorem dX8_loosen_1 : decode cX8_loosen 1 = .ok (.iload_n 2, 1) := by decide +kernel
theorem dX8_loosen_2 : decode cX8_loosen 2 = .ok (.invokestatic 39, 3) := by decide +kernel
theorem dX8_loosen_5 : decode cX8_loosen 5 = .ok (.ifCond .eq 14, 3) := by decide +kernel
theorem dX8_loosen_8 : decode cX8_loosen 8 = .ok (.aload_n 0, 1) := by decide +kernel
theorem dX8_loosen_9 : decode cX8_loosen 9 = .ok (.getfield 17, 3) := by decide +kernel
theorem dX8_loosen_12 : decode cX8_loosen 12 = .ok (.iload_n 1, 1) := by decide +kernel
theorem dX8_loosen_13 : decode cX8_loosen 13 = .ok (.iload_n 2, 1) := by decide +kernel
theorem dX8_loosen_14 : decode cX8_loosen 14 = .ok (.invokestatic 43, 3) := by decide +kernel
theorem dX8_loosen_17 : decode cX8_loosen 17 = .ok (.aconst_null, 1) := by decide +kernel
theorem dX8_loosen_18 : decode cX8_loosen 18 = .ok (.aastore, 1) := by decide +kernel
theorem dX8_loosen_19 : decode cX8_loosen 19 = .ok (.return_, 1) := by decide +kernel
theorem dX8_join_0 : decode cX8_join 0 = .ok (.iload_n 1, 1) := by decide +kernel
theorem dX8_join_1 : decode cX8_join 1 = .ok (.iload_n 2, 1) := by decide +kernel
theorem dX8_join_2 : decode cX8_join 2 = .ok (.invokestatic 39, 3) := by decide +kernel
theorem dX8_join_5 : decode cX8_join 5 = .ok (.ifCond .eq 19, 3) := by decide +kernel
theorem dX8_join_8 : decode cX8_join 8 = .ok (.aload_n 0, 1) := by decide +kernel
theorem dX8_join_9 : decode cX8_join 9 = .ok (.getfield 17, 3) := by decide +kernel
theorem dX8_join_12 : decode cX8_join 12 = .ok (.iload_n 1, 1) := by decide +kernel
theorem dX8_join_13 : decode cX8_join 13 = .ok (.iload_n 2, 1) := by decide +kernel
theorem dX8_join_14 : decode cX8_join 14 = .ok (.invokestatic 43, 3) := by decide +kernel
theorem dX8_join_17 : decode cX8_join 17 = .ok (.aload_n 0, 1) := by decide +kernel
theorem dX8_join_18 : decode cX8_join 18 = .ok (.iload_n 3, 1) := by decide +kernel
theorem dX8_join_19 : decode cX8_join 19 = .ok (.iload_n 2, 1) := by decide +kernel
theorem dX8_join_20 : decode cX8_join 20 = .ok (.invokevirtual 47, 3) := by decide +kernel
theorem dX8_join_23 : decode cX8_join 23 = .ok (.aastore, 1) := by decide +kernel
theorem dX8_join_24 : decode cX8_join 24 = .ok (.return_, 1) := by decide +kernel
theorem dX8_stretch_0 : decode cX8_stretch 0 = .ok (.iload_n 1, 1) := by decide +kernel
theorem dX8_stretch_1 : decode cX8_stretch 1 = .ok (.iload_n 2, 1) := by decide +kernel
theorem dX8_stretch_2 : decode cX8_stretch 2 = .ok (.invokestatic 39, 3) := by decide +kernel
theorem dX8_stretch_5 : decode cX8_stretch 5 = .ok (.ifCond .ne 4, 3) := by decide +kernel
theorem dX8_stretch_8 : decode cX8_stretch 8 = .ok (.return_, 1) := by decide +kernel
theorem dX8_stretch_9 : decode cX8_stretch 9 = .ok (.aload_n 0, 1) := by decide +kernel
theorem dX8_stretch_10 : decode cX8_stretch 10 = .ok (.iload_n 1, 1) := by decide +kernel
theorem dX8_stretch_11 : decode cX8_stretch 11 = .ok (.iload_n 2, 1) := by decide +kernel
theorem dX8_stretch_12 : decode cX8_stretch 12 = .ok (.invokevirtual 51, 3) := by decide +kernel
theorem dX8_stretch_15 : decode cX8_stretch 15 = .ok (.aload_n 0, 1) := by decide +kernel
theorem dX8_stretch_16 : decode cX8_stretch 16 = .ok (.iload_n 2, 1) := by decide +kernel
theorem dX8_stretch_17 : decode cX8_stretch 17 = .ok (.invokevirtual 55, 3) := by decide +kernel
theorem dX8_stretch_20 : decode cX8_stretch 20 = .ok (.astore 4, 2) := by decide +kernel
theorem dX8_stretch_22 : decode cX8_stretch 22 = .ok (.aload 4, 2) := by decide +kernel
theorem dX8_stretch_24 : decode cX8_stretch 24 = .ok (.ifnull 9, 3) := by decide +kernel
theorem dX8_stretch_27 : decode cX8_stretch 27 = .ok (.aload 4, 2) := by decide +kernel
theorem dX8_stretch_29 : decode cX8_stretch 29 = .ok (.iload_n 3, 1) := by decide +kernel
theorem dX8_stretch_30 : decode cX8_stretch 30 = .ok (.invokevirtual 58, 3) := by decide +kernel
theorem dX8_stretch_33 : decode cX8_stretch 33 = .ok (.aload_n 0, 1) := by decide +kernel
theorem dX8_stretch_34 : decode cX8_stretch 34 = .ok (.getfield 17, 3) := by decide +kernel
theorem dX8_stretch_37 : decode cX8_stretch 37 = .ok (.iload_n 1, 1) := by decide +kernel
theorem dX8_stretch_38 : decode cX8_stretch 38 = .ok (.iload_n 2, 1) := by decide +kernel
theorem dX8_stretch_39 : decode cX8_stretch 39 = .ok (.invokestatic 43, 3) := by decide +kernel
theorem dX8_stretch_42 : decode cX8_stretch 42 = .ok (.aload 4, 2) := by decide +kernel
theorem dX8_stretch_44 : decode cX8_stretch 44 = .ok (.aastore, 1) := by decide +kernel
theorem dX8_stretch_45 : decode cX8_stretch 45 = .ok (.return_, 1) := by decide +kernel
theorem dX8_spareLane_0 : decode cX8_spareLane 0 = .ok (.iconst 0, 1) := by decide +kernel
theorem dX8_spareLane_1 : decode cX8_spareLane 1 = .ok (.istore_n 2, 1) := by decide +kernel
theorem dX8_spareLane_2 : decode cX8_spareLane 2 = .ok (.iload_n 2, 1) := by decide +kernel
theorem dX8_spareLane_3 : decode cX8_spareLane 3 = .ok (.iconst 4, 1) := by decide +kernel
theorem dX8_spareLane_4 : decode cX8_spareLane 4 = .ok (.if_icmp .ge 31, 3) := by decide +kernel
theorem dX8_spareLane_7 : decode cX8_spareLane 7 = .ok (.aload_n 0, 1) := by decide +kernel
theorem dX8_spareLane_8 : decode cX8_spareLane 8 = .ok (.getfield 11, 3) := by decide +kernel
theorem dX8_spareLane_11 : decode cX8_spareLane 11 = .ok (.iload_n 2, 1) := by decide +kernel
theorem dX8_spareLane_12 : decode cX8_spareLane 12 = .ok (.iload_n 1, 1) := by decide +kernel
theorem dX8_spareLane_13 : decode cX8_spareLane 13 = .ok (.invokestatic 43, 3) := by decide +kernel
theorem dX8_spareLane_16 : decode cX8_spareLane 16 = .ok (.aaload, 1) := by decide +kernel
theorem dX8_spareLane_17 : decode cX8_spareLane 17 = .ok (.astore_n 3, 1) := by decide +kernel
theorem dX8_spareLane_18 : decode cX8_spareLane 18 = .ok (.aload_n 0, 1) := by decide +kernel
theorem dX8_spareLane_19 : decode cX8_spareLane 19 = .ok (.aload_n 3, 1) := by decide +kernel
theorem dX8_spareLane_20 : decode cX8_spareLane 20 = .ok (.iload_n 1, 1) := by decide +kernel
theorem dX8_spareLane_21 : decode cX8_spareLane 21 = .ok (.invokevirtual 61, 3) := by decide +kernel
theorem dX8_spareLane_24 : decode cX8_spareLane 24 = .ok (.ifCond .ne 5, 3) := by decide +kernel
theorem dX8_spareLane_27 : decode cX8_spareLane 27 = .ok (.aload_n 3, 1) := by decide +kernel
theorem dX8_spareLane_28 : decode cX8_spareLane 28 = .ok (.areturn, 1) := by decide +kernel
theorem dX8_spareLane_29 : decode cX8_spareLane 29 = .ok (.iinc 2 1, 3) := by decide +kernel
theorem dX8_spareLane_32 : decode cX8_spareLane 32 = .ok (.goto (-30), 3) := by decide +kernel
theorem dX8_spareLane_35 : decode cX8_spareLane 35 = .ok (.aconst_null, 1) := by decide +kernel
theorem dX8_spareLane_36 : decode cX8_spareLane 36 = .ok (.areturn, 1) := by decide +kernel
theorem dX8_isHeld_0 : decode cX8_isHeld 0 = .ok (.iconst 0, 1) := by decide +kernel
theorem dX8_isHeld_1 : decode cX8_isHeld 1 = .ok (.istore_n 3, 1) := by decide +kernel
theorem dX8_isHeld_2 : decode cX8_isHeld 2 = .ok (.iload_n 3, 1) := by decide +kernel
theorem dX8_isHeld_3 : decode cX8_isHeld 3 = .ok (.iconst 4, 1) := by decide +kernel
theorem dX8_isHeld_4 : decode cX8_isHeld 4 = .ok (.if_icmp .ge 25, 3) := by decide +kernel
theorem dX8_isHeld_7 : decode cX8_isHeld 7 = .ok (.aload_n 0, 1) := by decide +kernel
theorem dX8_isHeld_8 : decode cX8_isHeld 8 = .ok (.getfield 17, 3) := by decide +kernel
theorem dX8_isHeld_11 : decode cX8_isHeld 11 = .ok (.iload_n 3, 1) := by decide +kernel
theorem dX8_isHeld_12 : decode cX8_isHeld 12 = .ok (.iload_n 2, 1) := by decide +kernel
theorem dX8_isHeld_13 : decode cX8_isHeld 13 = .ok (.invokestatic 43, 3) := by decide +kernel
theorem dX8_isHeld_16 : decode cX8_isHeld 16 = .ok (.aaload, 1) := by decide +kernel
theorem dX8_isHeld_17 : decode cX8_isHeld 17 = .ok (.aload_n 1, 1) := by decide +kernel
theorem dX8_isHeld_18 : decode cX8_isHeld 18 = .ok (.if_acmp .ne 5, 3) := by decide +kernel
theorem dX8_isHeld_21 : decode cX8_isHeld 21 = .ok (.iconst 1, 1) := by decide +kernel
theorem dX8_isHeld_22 : decode cX8_isHeld 22 = .ok (.ireturn, 1) := by decide +kernel
theorem dX8_isHeld_23 : decode cX8_isHeld 23 = .ok (.iinc 3 1, 3) := by decide +kernel
theorem dX8_isHeld_26 : decode cX8_isHeld 26 = .ok (.goto (-24), 3) := by decide +kernel
theorem dX8_isHeld_29 : decode cX8_isHeld 29 = .ok (.iconst 0, 1) := by decide +kernel
theorem dX8_isHeld_30 : decode cX8_isHeld 30 = .ok (.ireturn, 1) := by decide +kernel
theorem dX9_init_0 : decode cX9_init 0 = .ok (.aload_n 0, 1) := by decide +kernel
theorem dX9_init_1 : decode cX9_init 1 = .ok (.invokespecial 3, 3) := by decide +kernel
theorem dX9_init_4 : decode cX9_init 4 = .ok (.aload_n 0, 1) := by decide +kernel
theorem dX9_init_5 : decode cX9_init 5 = .ok (.bipush 24, 2) := by decide +kernel
theorem dX9_init_7 : decode cX9_init 7 = .ok (.newarray .int, 2) := by decide +kernel
theorem dX9_init_9 : decode cX9_init 9 = .ok (.putfield 9, 3) := by decide +kernel
theorem dX9_init_12 : decode cX9_init 12 = .ok (.aload_n 0, 1) := by decide +kernel
theorem dX9_init_13 : decode cX9_init 13 = .ok (.iload_n 1, 1) := by decide +kernel
theorem dX9_init_14 : decode cX9_init 14 = .ok (.putfield 15, 3) := by decide +kernel
theorem dX9_init_17 : decode cX9_init 17 = .ok (.return_, 1) := by decide +kernel
theorem dX9_fit_0 : decode cX9_fit 0 = .ok (.aload_n 0, 1) := by decide +kernel
theorem dX9_fit_1 : decode cX9_fit 1 = .ok (.getfield 15, 3) := by decide +kernel
theorem dX9_fit_4 : decode cX9_fit 4 = .ok (.lookupswitch 34 #[(0, 28), (1, 31)], 28) := by decide +kernel
theorem dX9_fit_32 : decode cX9_fit 32 = .ok (.iload_n 1, 1) := by decide +kernel
theorem dX9_fit_33 : decode cX9_fit 33 = .ok (.i2c, 1) := by decide +kernel
theorem dX9_fit_34 : decode cX9_fit 34 = .ok (.ireturn, 1) := by decide +kernel
theorem dX9_fit_35 : decode cX9_fit 35 = .ok (.iload_n 1, 1) := by decide +kernel
theorem dX9_fit_36 : decode cX9_fit 36 = .ok (.i2s, 1) := by decide +kernel
theorem dX9_fit_37 : decode cX9_fit 37 = .ok (.ireturn, 1) := by decide +kernel
theorem dX9_fit_38 : decode cX9_fit 38 = .ok (.iload_n 1, 1) := by decide +kernel
theorem dX9_fit_39 : decode cX9_fit 39 = .ok (.i2b, 1) := by decide +kernel
theorem dX9_fit_40 : decode cX9_fit 40 = .ok (.ireturn, 1) := by decide +kernel
theorem dX9_reset_0 : decode cX9_reset 0 = .ok (.aload_n 0, 1) := by decide +kernel
theorem dX9_reset_1 : decode cX9_reset 1 = .ok (.getfield 9, 3) := by decide +kernel
theorem dX9_reset_4 : decode cX9_reset 4 = .ok (.iload_n 1, 1) := by decide +kernel
theorem dX9_reset_5 : decode cX9_reset 5 = .ok (.iconst 0, 1) := by decide +kernel
theorem dX9_reset_6 : decode cX9_reset 6 = .ok (.iastore, 1) := by decide +kernel
theorem dX9_reset_7 : decode cX9_reset 7 = .ok (.return_, 1) := by decide +kernel
theorem dX9_tells_0 : decode cX9_tells 0 = .ok (.aload_n 0, 1) := by decide +kernel
theorem dX9_tells_1 : decode cX9_tells 1 = .ok (.getfield 9, 3) := by decide +kernel
theorem dX9_tells_4 : decode cX9_tells 4 = .ok (.iload_n 1, 1) := by decide +kernel
theorem dX9_tells_5 : decode cX9_tells 5 = .ok (.iaload, 1) := by decide +kernel
theorem dX9_tells_6 : decode cX9_tells 6 = .ok (.ireturn, 1) := by decide +kernel
theorem dX9_lay_0 : decode cX9_lay 0 = .ok (.aload_n 0, 1) := by decide +kernel
theorem dX9_lay_1 : decode cX9_lay 1 = .ok (.getfield 9, 3) := by decide +kernel
theorem dX9_lay_4 : decode cX9_lay 4 = .ok (.iload_n 1, 1) := by decide +kernel
theorem dX9_lay_5 : decode cX9_lay 5 = .ok (.aload_n 0, 1) := by decide +kernel
theorem dX9_lay_6 : decode cX9_lay 6 = .ok (.iload_n 2, 1) := by decide +kernel
theorem dX9_lay_7 : decode cX9_lay 7 = .ok (.invokevirtual 19, 3) := by decide +kernel
theorem dX9_lay_10 : decode cX9_lay 10 = .ok (.iastore, 1) := by decide +kernel
theorem dX9_lay_11 : decode cX9_lay 11 = .ok (.return_, 1) := by decide +kernel
theorem dX9_pull_0 : decode cX9_pull 0 = .ok (.aload_n 0, 1) := by decide +kernel
theorem dX9_pull_1 : decode cX9_pull 1 = .ok (.getfield 9, 3) := by decide +kernel
theorem dX9_pull_4 : decode cX9_pull 4 = .ok (.iload_n 1, 1) := by decide +kernel
theorem dX9_pull_5 : decode cX9_pull 5 = .ok (.aload_n 0, 1) := by decide +kernel
theorem dX9_pull_6 : decode cX9_pull 6 = .ok (.aload_n 0, 1) := by decide +kernel
theorem dX9_pull_7 : decode cX9_pull 7 = .ok (.getfield 9, 3) := by decide +kernel
theorem dX9_pull_10 : decode cX9_pull 10 = .ok (.iload_n 1, 1) := by decide +kernel
theorem dX9_pull_11 : decode cX9_pull 11 = .ok (.iaload, 1) := by decide +kernel
theorem dX9_pull_12 : decode cX9_pull 12 = .ok (.iload_n 2, 1) := by decide +kernel
theorem dX9_pull_13 : decode cX9_pull 13 = .ok (.iadd, 1) := by decide +kernel
theorem dX9_pull_14 : decode cX9_pull 14 = .ok (.invokevirtual 19, 3) := by decide +kernel
theorem dX9_pull_17 : decode cX9_pull 17 = .ok (.iastore, 1) := by decide +kernel
theorem dX9_pull_18 : decode cX9_pull 18 = .ok (.return_, 1) := by decide +kernel
theorem dX9_turn_0 : decode cX9_turn 0 = .ok (.aload_n 0, 1) := by decide +kernel
theorem dX9_turn_1 : decode cX9_turn 1 = .ok (.getfield 9, 3) := by decide +kernel
theorem dX9_turn_4 : decode cX9_turn 4 = .ok (.iload_n 1, 1) := by decide +kernel
theorem dX9_turn_5 : decode cX9_turn 5 = .ok (.aload_n 0, 1) := by decide +kernel
theorem dX9_turn_6 : decode cX9_turn 6 = .ok (.aload_n 0, 1) := by decide +kernel
theorem dX9_turn_7 : decode cX9_turn 7 = .ok (.getfield 9, 3) := by decide +kernel
theorem dX9_turn_10 : decode cX9_turn 10 = .ok (.iload_n 1, 1) := by decide +kernel
theorem dX9_turn_11 : decode cX9_turn 11 = .ok (.iaload, 1) := by decide +kernel
theorem dX9_turn_12 : decode cX9_turn 12 = .ok (.iconst 1, 1) := by decide +kernel
theorem dX9_turn_13 : decode cX9_turn 13 = .ok (.iadd, 1) := by decide +kernel
theorem dX9_turn_14 : decode cX9_turn 14 = .ok (.invokevirtual 19, 3) := by decide +kernel
theorem dX9_turn_17 : decode cX9_turn 17 = .ok (.iastore, 1) := by decide +kernel
theorem dX9_turn_18 : decode cX9_turn 18 = .ok (.return_, 1) := by decide +kernel
theorem dX9_part_0 : decode cX9_part 0 = .ok (.iload_n 2, 1) := by decide +kernel
theorem dX9_part_1 : decode cX9_part 1 = .ok (.ifCond .ne 5, 3) := by decide +kernel
theorem dX9_part_4 : decode cX9_part 4 = .ok (.iconst 0, 1) := by decide +kernel
theorem dX9_part_5 : decode cX9_part 5 = .ok (.ireturn, 1) := by decide +kernel
theorem dX9_part_6 : decode cX9_part 6 = .ok (.aload_n 0, 1) := by decide +kernel
theorem dX9_part_7 : decode cX9_part 7 = .ok (.getfield 9, 3) := by decide +kernel
theorem dX9_part_10 : decode cX9_part 10 = .ok (.iload_n 1, 1) := by decide +kernel
theorem dX9_part_11 : decode cX9_part 11 = .ok (.aload_n 0, 1) := by decide +kernel
theorem dX9_part_12 : decode cX9_part 12 = .ok (.aload_n 0, 1) := by decide +kernel
theorem dX9_part_13 : decode cX9_part 13 = .ok (.getfield 9, 3) := by decide +kernel
theorem dX9_part_16 : decode cX9_part 16 = .ok (.iload_n 1, 1) := by decide +kernel
theorem dX9_part_17 : decode cX9_part 17 = .ok (.iaload, 1) := by decide +kernel
theorem dX9_part_18 : decode cX9_part 18 = .ok (.iload_n 2, 1) := by decide +kernel
theorem dX9_part_19 : decode cX9_part 19 = .ok (.idiv, 1) := by decide +kernel
theorem dX9_part_20 : decode cX9_part 20 = .ok (.invokevirtual 19, 3) := by decide +kernel
theorem dX9_part_23 : decode cX9_part 23 = .ok (.iastore, 1) := by decide +kernel
theorem dX9_part_24 : decode cX9_part 24 = .ok (.iconst 1, 1) := by decide +kernel
theorem dX9_part_25 : decode cX9_part 25 = .ok (.ireturn, 1) := by decide +kernel
theorem dX9_exchange_0 : decode cX9_exchange 0 = .ok (.aload_n 0, 1) := by decide +kernel
theorem dX9_exchange_1 : decode cX9_exchange 1 = .ok (.getfield 9, 3) := by decide +kernel
theorem dX9_exchange_4 : decode cX9_exchange 4 = .ok (.iload_n 1, 1) := by decide +kernel
theorem dX9_exchange_5 : decode cX9_exchange 5 = .ok (.iaload, 1) := by decide +kernel
theorem dX9_exchange_6 : decode cX9_exchange 6 = .ok (.istore_n 3, 1) := by decide +kernel
theorem dX9_exchange_7 : decode cX9_exchange 7 = .ok (.aload_n 0, 1) := by decide +kernel
theorem dX9_exchange_8 : decode cX9_exchange 8 = .ok (.getfield 9, 3) := by decide +kernel
theorem dX9_exchange_11 : decode cX9_exchange 11 = .ok (.iload_n 1, 1) := by decide +kernel
theorem dX9_exchange_12 : decode cX9_exchange 12 = .ok (.aload_n 0, 1) := by decide +kernel
theorem dX9_exchange_13 : decode cX9_exchange 13 = .ok (.getfield 9, 3) := by decide +kernel
theorem dX9_exchange_16 : decode cX9_exchange 16 = .ok (.iload_n 2, 1) := by decide +kernel
theorem dX9_exchange_17 : decode cX9_exchange 17 = .ok (.iaload, 1) := by decide +kernel
theorem dX9_exchange_18 : decode cX9_exchange 18 = .ok (.iastore, 1) := by decide +kernel
theorem dX9_exchange_19 : decode cX9_exchange 19 = .ok (.aload_n 0, 1) := by decide +kernel
theorem dX9_exchange_20 : decode cX9_exchange 20 = .ok (.getfield 9, 3) := by decide +kernel
theorem dX9_exchange_23 : decode cX9_exchange 23 = .ok (.iload_n 2, 1) := by decide +kernel
theorem dX9_exchange_24 : decode cX9_exchange 24 = .ok (.iload_n 3, 1) := by decide +kernel
theorem dX9_exchange_25 : decode cX9_exchange 25 = .ok (.iastore, 1) := by decide +kernel
theorem dX9_exchange_26 : decode cX9_exchange 26 = .ok (.return_, 1) := by decide +kernel
theorem dX10_init_0 : decode cX10_init 0 = .ok (.aload_n 0, 1) := by decide +kernel
theorem dX10_init_1 : decode cX10_init 1 = .ok (.invokespecial 1, 3) := by decide +kernel
theorem dX10_init_4 : decode cX10_init 4 = .ok (.aload_n 0, 1) := by decide +kernel
theorem dX10_init_5 : decode cX10_init 5 = .ok (.new 7, 3) := by decide +kernel
theorem dX10_init_8 : decode cX10_init 8 = .ok (.dup, 1) := by decide +kernel
theorem dX10_init_9 : decode cX10_init 9 = .ok (.invokespecial 9, 3) := by decide +kernel
theorem dX10_init_12 : decode cX10_init 12 = .ok (.putfield 10, 3) := by decide +kernel
theorem dX10_init_15 : decode cX10_init 15 = .ok (.aload_n 0, 1) := by decide +kernel
theorem dX10_init_16 : decode cX10_init 16 = .ok (.new 16, 3) := by decide +kernel
theorem dX10_init_19 : decode cX10_init 19 = .ok (.dup, 1) := by decide +kernel
theorem dX10_init_20 : decode cX10_init 20 = .ok (.invokespecial 18, 3) := by decide +kernel
theorem dX10_init_23 : decode cX10_init 23 = .ok (.putfield 19, 3) := by decide +kernel
theorem dX10_init_26 : decode cX10_init 26 = .ok (.aload_n 0, 1) := by decide +kernel
theorem dX10_init_27 : decode cX10_init 27 = .ok (.new 23, 3) := by decide +kernel
theorem dX10_init_30 : decode cX10_init 30 = .ok (.dup, 1) := by decide +kernel
theorem dX10_init_31 : decode cX10_init 31 = .ok (.invokespecial 25, 3) := by decide +kernel
theorem dX10_init_34 : decode cX10_init 34 = .ok (.putfield 26, 3) := by decide +kernel
theorem dX10_init_37 : decode cX10_init 37 = .ok (.aload_n 0, 1) := by decide +kernel
theorem dX10_init_38 : decode cX10_init 38 = .ok (.new 30, 3) := by decide +kernel
theorem dX10_init_41 : decode cX10_init 41 = .ok (.dup, 1) := by decide +kernel
theorem dX10_init_42 : decode cX10_init 42 = .ok (.invokespecial 32, 3) := by decide +kernel
theorem dX10_init_45 : decode cX10_init 45 = .ok (.putfield 33, 3) := by decide +kernel
theorem dX10_init_48 : decode cX10_init 48 = .ok (.aload_n 0, 1) := by decide +kernel
theorem dX10_init_49 : decode cX10_init 49 = .ok (.new 37, 3) := by decide +kernel
theorem dX10_init_52 : decode cX10_init 52 = .ok (.dup, 1) := by decide +kernel
theorem dX10_init_53 : decode cX10_init 53 = .ok (.invokespecial 39, 3) := by decide +kernel
theorem dX10_init_56 : decode cX10_init 56 = .ok (.putfield 40, 3) := by decide +kernel
theorem dX10_init_59 : decode cX10_init 59 = .ok (.aload_n 0, 1) := by decide +kernel
theorem dX10_init_60 : decode cX10_init 60 = .ok (.iconst 0, 1) := by decide +kernel
theorem dX10_init_61 : decode cX10_init 61 = .ok (.putfield 44, 3) := by decide +kernel
theorem dX10_init_64 : decode cX10_init 64 = .ok (.aload_n 0, 1) := by decide +kernel
theorem dX10_init_65 : decode cX10_init 65 = .ok (.iconst 0, 1) := by decide +kernel
theorem dX10_init_66 : decode cX10_init 66 = .ok (.putfield 48, 3) := by decide +kernel
theorem dX10_init_69 : decode cX10_init 69 = .ok (.aload_n 0, 1) := by decide +kernel
theorem dX10_init_70 : decode cX10_init 70 = .ok (.iconst 0, 1) := by decide +kernel
theorem dX10_init_71 : decode cX10_init 71 = .ok (.putfield 51, 3) := by decide +kernel
theorem dX10_init_74 : decode cX10_init 74 = .ok (.return_, 1) := by decide +kernel
theorem dX10_thread_0 : decode cX10_thread 0 = .ok (.iload_n 1, 1) := by decide +kernel
theorem dX10_thread_1 : decode cX10_thread 1 = .ok (.iload_n 2, 1) := by decide +kernel
theorem dX10_thread_2 : decode cX10_thread 2 = .ok (.invokestatic 54, 3) := by decide +kernel
theorem dX10_thread_5 : decode cX10_thread 5 = .ok (.ifCond .eq 9, 3) := by decide +kernel
theorem dX10_thread_8 : decode cX10_thread 8 = .ok (.iload_n 3, 1) := by decide +kernel
theorem dX10_thread_9 : decode cX10_thread 9 = .ok (.bipush 24, 2) := by decide +kernel
theorem dX10_thread_11 : decode cX10_thread 11 = .ok (.if_icmp .le 6, 3) := by decide +kernel
theorem dX10_thread_14 : decode cX10_thread 14 = .ok (.ldc 58, 2) := by decide +kernel
theorem dX10_thread_16 : decode cX10_thread 16 = .ok (.ireturn, 1) := by decide +kernel
theorem dX10_thread_17 : decode cX10_thread 17 = .ok (.aload_n 0, 1) := by decide +kernel
theorem dX10_thread_18 : decode cX10_thread 18 = .ok (.getfield 40, 3) := by decide +kernel
theorem dX10_thread_21 : decode cX10_thread 21 = .ok (.invokevirtual 59, 3) := by decide +kernel
theorem dX10_thread_24 : decode cX10_thread 24 = .ok (.iload_n 3, 1) := by decide +kernel
theorem dX10_thread_25 : decode cX10_thread 25 = .ok (.ifCond .ge 12, 3) := by decide +kernel
theorem dX10_thread_28 : decode cX10_thread 28 = .ok (.aload_n 0, 1) := by decide +kernel
theorem dX10_thread_29 : decode cX10_thread 29 = .ok (.getfield 40, 3) := by decide +kernel
theorem dX10_thread_32 : decode cX10_thread 32 = .ok (.iconst 3, 1) := by decide +kernel
theorem dX10_thread_33 : decode cX10_thread 33 = .ok (.invokevirtual 62, 3) := by decide +kernel
theorem dX10_thread_36 : decode cX10_thread 36 = .ok (.ireturn, 1) := by decide +kernel
theorem dX10_thread_37 : decode cX10_thread 37 = .ok (.aload_n 0, 1) := by decide +kernel
theorem dX10_thread_38 : decode cX10_thread 38 = .ok (.getfield 10, 3) := by decide +kernel
theorem dX10_thread_41 : decode cX10_thread 41 = .ok (.iload_n 1, 1) := by decide +kernel
theorem dX10_thread_42 : decode cX10_thread 42 = .ok (.iload_n 2, 1) := by decide +kernel
theorem dX10_thread_43 : decode cX10_thread 43 = .ok (.iload_n 3, 1) := by decide +kernel
theorem dX10_thread_44 : decode cX10_thread 44 = .ok (.invokevirtual 66, 3) := by decide +kernel
theorem dX10_thread_47 : decode cX10_thread 47 = .ok (.iload_n 3, 1) := by decide +kernel
theorem dX10_thread_48 : decode cX10_thread 48 = .ok (.ireturn, 1) := by decide +kernel
theorem dX10_cut_0 : decode cX10_cut 0 = .ok (.iload_n 1, 1) := by decide +kernel
theorem dX10_cut_1 : decode cX10_cut 1 = .ok (.iload_n 2, 1) := by decide +kernel
theorem dX10_cut_2 : decode cX10_cut 2 = .ok (.invokestatic 54, 3) := by decide +kernel
theorem dX10_cut_5 : decode cX10_cut 5 = .ok (.ifCond .ne 6, 3) := by decide +kernel
theorem dX10_cut_8 : decode cX10_cut 8 = .ok (.ldc 58, 2) := by decide +kernel
theorem dX10_cut_10 : decode cX10_cut 10 = .ok (.ireturn, 1) := by decide +kernel
theorem dX10_cut_11 : decode cX10_cut 11 = .ok (.aload_n 0, 1) := by decide +kernel
theorem dX10_cut_12 : decode cX10_cut 12 = .ok (.getfield 10, 3) := by decide +kernel
theorem dX10_cut_15 : decode cX10_cut 15 = .ok (.iload_n 1, 1) := by decide +kernel
theorem dX10_cut_16 : decode cX10_cut 16 = .ok (.iload_n 2, 1) := by decide +kernel
theorem dX10_cut_17 : decode cX10_cut 17 = .ok (.invokevirtual 70, 3) := by decide +kernel
theorem dX10_cut_20 : decode cX10_cut 20 = .ok (.ifnull 7, 3) := by decide +kernel
theorem dX10_cut_23 : decode cX10_cut 23 = .ok (.iconst 1, 1) := by decide +kernel
theorem dX10_cut_24 : decode cX10_cut 24 = .ok (.goto 4, 3) := by decide +kernel
theorem dX10_cut_27 : decode cX10_cut 27 = .ok (.iconst 0, 1) := by decide +kernel
theorem dX10_cut_28 : decode cX10_cut 28 = .ok (.istore_n 3, 1) := by decide +kernel
theorem dX10_cut_29 : decode cX10_cut 29 = .ok (.aload_n 0, 1) := by decide +kernel
theorem dX10_cut_30 : decode cX10_cut 30 = .ok (.getfield 10, 3) := by decide +kernel
theorem dX10_cut_33 : decode cX10_cut 33 = .ok (.iload_n 1, 1) := by decide +kernel
theorem dX10_cut_34 : decode cX10_cut 34 = .ok (.iload_n 2, 1) := by decide +kernel
theorem dX10_cut_35 : decode cX10_cut 35 = .ok (.invokevirtual 74, 3) := by decide +kernel
theorem dX10_cut_38 : decode cX10_cut 38 = .ok (.iload_n 3, 1) := by decide +kernel
theorem dX10_cut_39 : decode cX10_cut 39 = .ok (.ifCond .eq 7, 3) := by decide +kernel
theorem dX10_cut_42 : decode cX10_cut 42 = .ok (.iconst 1, 1) := by decide +kernel
theorem dX10_cut_43 : decode cX10_cut 43 = .ok (.goto 4, 3) := by decide +kernel
theorem dX10_cut_46 : decode cX10_cut 46 = .ok (.iconst 0, 1) := by decide +kernel
theorem dX10_cut_47 : decode cX10_cut 47 = .ok (.ireturn, 1) := by decide +kernel
theorem dX10_tie_0 : decode cX10_tie 0 = .ok (.iload_n 1, 1) := by decide +kernel
theorem dX10_tie_1 : decode cX10_tie 1 = .ok (.iload_n 2, 1) := by decide +kernel
theorem dX10_tie_2 : decode cX10_tie 2 = .ok (.invokestatic 54, 3) := by decide +kernel
theorem dX10_tie_5 : decode cX10_tie 5 = .ok (.ifCond .eq 10, 3) := by decide +kernel
theorem dX10_tie_8 : decode cX10_tie 8 = .ok (.iload_n 3, 1) := by decide +kernel
theorem dX10_tie_9 : decode cX10_tie 9 = .ok (.invokestatic 78, 3) := by decide +kernel
theorem dX10_tie_12 : decode cX10_tie 12 = .ok (.ifCond .ne 6, 3) := by decide +kernel
theorem dX10_tie_15 : decode cX10_tie 15 = .ok (.ldc 58, 2) := by decide +kernel
theorem dX10_tie_17 : decode cX10_tie 17 = .ok (.ireturn, 1) := by decide +kernel
theorem dX10_tie_18 : decode cX10_tie 18 = .ok (.aload_n 0, 1) := by decide +kernel
theorem dX10_tie_19 : decode cX10_tie 19 = .ok (.getfield 40, 3) := by decide +kernel
theorem dX10_tie_22 : decode cX10_tie 22 = .ok (.invokevirtual 59, 3) := by decide +kernel
theorem dX10_tie_25 : decode cX10_tie 25 = .ok (.aload_n 0, 1) := by decide +kernel
theorem dX10_tie_26 : decode cX10_tie 26 = .ok (.getfield 10, 3) := by decide +kernel
theorem dX10_tie_29 : decode cX10_tie 29 = .ok (.iload_n 1, 1) := by decide +kernel
theorem dX10_tie_30 : decode cX10_tie 30 = .ok (.iload_n 2, 1) := by decide +kernel
theorem dX10_tie_31 : decode cX10_tie 31 = .ok (.iload_n 3, 1) := by decide +kernel
theorem dX10_tie_32 : decode cX10_tie 32 = .ok (.invokevirtual 82, 3) := by decide +kernel
theorem dX10_tie_35 : decode cX10_tie 35 = .ok (.aload_n 0, 1) := by decide +kernel
theorem dX10_tie_36 : decode cX10_tie 36 = .ok (.getfield 10, 3) := by decide +kernel
theorem dX10_tie_39 : decode cX10_tie 39 = .ok (.iload_n 1, 1) := by decide +kernel
theorem dX10_tie_40 : decode cX10_tie 40 = .ok (.iload_n 2, 1) := by decide +kernel
theorem dX10_tie_41 : decode cX10_tie 41 = .ok (.invokevirtual 70, 3) := by decide +kernel
theorem dX10_tie_44 : decode cX10_tie 44 = .ok (.astore 4, 2) := by decide +kernel
theorem dX10_tie_46 : decode cX10_tie 46 = .ok (.aload 4, 2) := by decide +kernel
theorem dX10_tie_48 : decode cX10_tie 48 = .ok (.ifnonnull 7, 3) := by decide +kernel
theorem dX10_tie_51 : decode cX10_tie 51 = .ok (.iconst 0, 1) := by decide +kernel
theorem dX10_tie_52 : decode cX10_tie 52 = .ok (.goto 8, 3) := by decide +kernel
theorem dX10_tie_55 : decode cX10_tie 55 = .ok (.aload 4, 2) := by decide +kernel
theorem dX10_tie_57 : decode cX10_tie 57 = .ok (.invokevirtual 85, 3) := by decide +kernel
theorem dX10_tie_60 : decode cX10_tie 60 = .ok (.ireturn, 1) := by decide +kernel
theorem dX10_ends_0 : decode cX10_ends 0 = .ok (.iload_n 1, 1) := by decide +kernel
theorem dX10_ends_1 : decode cX10_ends 1 = .ok (.iload_n 2, 1) := by decide +kernel
theorem dX10_ends_2 : decode cX10_ends 2 = .ok (.invokestatic 54, 3) := by decide +kernel
theorem dX10_ends_5 : decode cX10_ends 5 = .ok (.ifCond .ne 6, 3) := by decide +kernel
theorem dX10_ends_8 : decode cX10_ends 8 = .ok (.ldc 58, 2) := by decide +kernel
theorem dX10_ends_10 : decode cX10_ends 10 = .ok (.ireturn, 1) := by decide +kernel
theorem dX10_ends_11 : decode cX10_ends 11 = .ok (.aload_n 0, 1) := by decide +kernel
theorem dX10_ends_12 : decode cX10_ends 12 = .ok (.getfield 40, 3) := by decide +kernel
theorem dX10_ends_15 : decode cX10_ends 15 = .ok (.invokevirtual 59, 3) := by decide +kernel
theorem dX10_ends_18 : decode cX10_ends 18 = .ok (.aload_n 0, 1) := by decide +kernel
theorem dX10_ends_19 : decode cX10_ends 19 = .ok (.getfield 10, 3) := by decide +kernel
theorem dX10_ends_22 : decode cX10_ends 22 = .ok (.iload_n 1, 1) := by decide +kernel
theorem dX10_ends_23 : decode cX10_ends 23 = .ok (.iload_n 2, 1) := by decide +kernel
theorem dX10_ends_24 : decode cX10_ends 24 = .ok (.invokevirtual 70, 3) := by decide +kernel
theorem dX10_ends_27 : decode cX10_ends 27 = .ok (.astore_n 3, 1) := by decide +kernel
theorem dX10_ends_28 : decode cX10_ends 28 = .ok (.aload_n 3, 1) := by decide +kernel
theorem dX10_ends_29 : decode cX10_ends 29 = .ok (.ifnonnull 14, 3) := by decide +kernel
theorem dX10_ends_32 : decode cX10_ends 32 = .ok (.aload_n 0, 1) := by decide +kernel
theorem dX10_ends_33 : decode cX10_ends 33 = .ok (.getfield 40, 3) := by decide +kernel
theorem dX10_ends_36 : decode cX10_ends 36 = .ok (.iconst 1, 1) := by decide +kernel
theorem dX10_ends_37 : decode cX10_ends 37 = .ok (.invokevirtual 62, 3) := by decide +kernel
theorem dX10_ends_40 : decode cX10_ends 40 = .ok (.goto 7, 3) := by decide +kernel
theorem dX10_ends_43 : decode cX10_ends 43 = .ok (.aload_n 3, 1) := by decide +kernel
theorem dX10_ends_44 : decode cX10_ends 44 = .ok (.invokevirtual 85, 3) := by decide +kernel
theorem dX10_ends_47 : decode cX10_ends 47 = .ok (.ireturn, 1) := by decide +kernel
theorem dX10_spool_0 : decode cX10_spool 0 = .ok (.aload_n 0, 1) := by decide +kernel
theorem dX10_spool_1 : decode cX10_spool 1 = .ok (.getfield 19, 3) := by decide +kernel
theorem dX10_spool_4 : decode cX10_spool 4 = .ok (.invokevirtual 91, 3) := by decide +kernel
theorem dX10_spool_7 : decode cX10_spool 7 = .ok (.ifCond .eq 6, 3) := by decide +kernel
theorem dX10_spool_10 : decode cX10_spool 10 = .ok (.ldc 58, 2) := by decide +kernel
theorem dX10_spool_12 : decode cX10_spool 12 = .ok (.ireturn, 1) := by decide +kernel
theorem dX10_spool_13 : decode cX10_spool 13 = .ok (.aload_n 0, 1) := by decide +kernel
theorem dX10_spool_14 : decode cX10_spool 14 = .ok (.getfield 19, 3) := by decide +kernel
theorem dX10_spool_17 : decode cX10_spool 17 = .ok (.iload_n 1, 1) := by decide +kernel
theorem dX10_spool_18 : decode cX10_spool 18 = .ok (.invokevirtual 95, 3) := by decide +kernel
theorem dX10_spool_21 : decode cX10_spool 21 = .ok (.aload_n 0, 1) := by decide +kernel
theorem dX10_spool_22 : decode cX10_spool 22 = .ok (.getfield 19, 3) := by decide +kernel
theorem dX10_spool_25 : decode cX10_spool 25 = .ok (.invokevirtual 99, 3) := by decide +kernel
theorem dX10_spool_28 : decode cX10_spool 28 = .ok (.ireturn, 1) := by decide +kernel
theorem dX10_act_0 : decode cX10_act 0 = .ok (.iload_n 1, 1) := by decide +kernel
theorem dX10_act_1 : decode cX10_act 1 = .ok (.invokestatic 100, 3) := by decide +kernel
theorem dX10_act_4 : decode cX10_act 4 = .ok (.ifCond .eq 11, 3) := by decide +kernel
theorem dX10_act_7 : decode cX10_act 7 = .ok (.iload_n 2, 1) := by decide +kernel
theorem dX10_act_8 : decode cX10_act 8 = .ok (.iload_n 3, 1) := by decide +kernel
theorem dX10_act_9 : decode cX10_act 9 = .ok (.invokestatic 54, 3) := by decide +kernel
theorem dX10_act_12 : decode cX10_act 12 = .ok (.ifCond .ne 6, 3) := by decide +kernel
theorem dX10_act_15 : decode cX10_act 15 = .ok (.ldc 58, 2) := by decide +kernel
theorem dX10_act_17 : decode cX10_act 17 = .ok (.ireturn, 1) := by decide +kernel
theorem dX10_act_18 : decode cX10_act 18 = .ok (.aload_n 0, 1) := by decide +kernel
theorem dX10_act_19 : decode cX10_act 19 = .ok (.iload_n 1, 1) := by decide +kernel
theorem dX10_act_20 : decode cX10_act 20 = .ok (.aload_n 0, 1) := by decide +kernel
theorem dX10_act_21 : decode cX10_act 21 = .ok (.getfield 10, 3) := by decide +kernel
theorem dX10_act_24 : decode cX10_act 24 = .ok (.iload_n 2, 1) := by decide +kernel
theorem dX10_act_25 : decode cX10_act 25 = .ok (.iload_n 3, 1) := by decide +kernel
theorem dX10_act_26 : decode cX10_act 26 = .ok (.invokevirtual 70, 3) := by decide +kernel
theorem dX10_act_29 : decode cX10_act 29 = .ok (.iload 4, 2) := by decide +kernel
theorem dX10_act_31 : decode cX10_act 31 = .ok (.iload 5, 2) := by decide +kernel
theorem dX10_act_33 : decode cX10_act 33 = .ok (.invokevirtual 103, 3) := by decide +kernel
theorem dX10_act_36 : decode cX10_act 36 = .ok (.ireturn, 1) := by decide +kernel
theorem dX10_swap_0 : decode cX10_swap 0 = .ok (.iload_n 1, 1) := by decide +kernel
theorem dX10_swap_1 : decode cX10_swap 1 = .ok (.iload_n 2, 1) := by decide +kernel
theorem dX10_swap_2 : decode cX10_swap 2 = .ok (.invokestatic 54, 3) := by decide +kernel
theorem dX10_swap_5 : decode cX10_swap 5 = .ok (.ifCond .ne 6, 3) := by decide +kernel
theorem dX10_swap_8 : decode cX10_swap 8 = .ok (.ldc 58, 2) := by decide +kernel
theorem dX10_swap_10 : decode cX10_swap 10 = .ok (.ireturn, 1) := by decide +kernel
theorem dX10_swap_11 : decode cX10_swap 11 = .ok (.aload_n 0, 1) := by decide +kernel
theorem dX10_swap_12 : decode cX10_swap 12 = .ok (.getfield 40, 3) := by decide +kernel
theorem dX10_swap_15 : decode cX10_swap 15 = .ok (.invokevirtual 59, 3) := by decide +kernel
theorem dX10_swap_18 : decode cX10_swap 18 = .ok (.aload_n 0, 1) := by decide +kernel
theorem dX10_swap_19 : decode cX10_swap 19 = .ok (.getfield 10, 3) := by decide +kernel
theorem dX10_swap_22 : decode cX10_swap 22 = .ok (.iload_n 1, 1) := by decide +kernel
theorem dX10_swap_23 : decode cX10_swap 23 = .ok (.iload_n 2, 1) := by decide +kernel
theorem dX10_swap_24 : decode cX10_swap 24 = .ok (.invokevirtual 70, 3) := by decide +kernel
theorem dX10_swap_27 : decode cX10_swap 27 = .ok (.astore 5, 2) := by decide +kernel
theorem dX10_swap_29 : decode cX10_swap 29 = .ok (.aload 5, 2) := by decide +kernel
theorem dX10_swap_31 : decode cX10_swap 31 = .ok (.ifnonnull 12, 3) := by decide +kernel
theorem dX10_swap_34 : decode cX10_swap 34 = .ok (.aload_n 0, 1) := by decide +kernel
theorem dX10_swap_35 : decode cX10_swap 35 = .ok (.getfield 40, 3) := by decide +kernel
theorem dX10_swap_38 : decode cX10_swap 38 = .ok (.iconst 1, 1) := by decide +kernel
theorem dX10_swap_39 : decode cX10_swap 39 = .ok (.invokevirtual 62, 3) := by decide +kernel
theorem dX10_swap_42 : decode cX10_swap 42 = .ok (.ireturn, 1) := by decide +kernel
theorem dX10_swap_43 : decode cX10_swap 43 = .ok (.aload 5, 2) := by decide +kernel
theorem dX10_swap_45 : decode cX10_swap 45 = .ok (.iload_n 3, 1) := by decide +kernel
theorem dX10_swap_46 : decode cX10_swap 46 = .ok (.invokevirtual 107, 3) := by decide +kernel
theorem dX10_swap_49 : decode cX10_swap 49 = .ok (.ifCond .eq 13, 3) := by decide +kernel
theorem dX10_swap_52 : decode cX10_swap 52 = .ok (.aload 5, 2) := by decide +kernel
theorem dX10_swap_54 : decode cX10_swap 54 = .ok (.iload 4, 2) := by decide +kernel
theorem dX10_swap_56 : decode cX10_swap 56 = .ok (.invokevirtual 107, 3) := by decide +kernel
theorem dX10_swap_59 : decode cX10_swap 59 = .ok (.ifCond .ne 12, 3) := by decide +kernel
theorem dX10_swap_62 : decode cX10_swap 62 = .ok (.aload_n 0, 1) := by decide +kernel
theorem dX10_swap_63 : decode cX10_swap 63 = .ok (.getfield 40, 3) := by decide +kernel
theorem dX10_swap_66 : decode cX10_swap 66 = .ok (.iconst 2, 1) := by decide +kernel
theorem dX10_swap_67 : decode cX10_swap 67 = .ok (.invokevirtual 62, 3) := by decide +kernel
theorem dX10_swap_70 : decode cX10_swap 70 = .ok (.ireturn, 1) := by decide +kernel
theorem dX10_swap_71 : decode cX10_swap 71 = .ok (.aload 5, 2) := by decide +kernel
theorem dX10_swap_73 : decode cX10_swap 73 = .ok (.iload_n 3, 1) := by decide +kernel
theorem dX10_swap_74 : decode cX10_swap 74 = .ok (.invokevirtual 110, 3) := by decide +kernel
theorem dX10_swap_77 : decode cX10_swap 77 = .ok (.istore 6, 2) := by decide +kernel
theorem dX10_swap_79 : decode cX10_swap 79 = .ok (.aload 5, 2) := by decide +kernel
theorem dX10_swap_81 : decode cX10_swap 81 = .ok (.iload_n 3, 1) := by decide +kernel
theorem dX10_swap_82 : decode cX10_swap 82 = .ok (.iload 4, 2) := by decide +kernel
theorem dX10_swap_84 : decode cX10_swap 84 = .ok (.invokevirtual 113, 3) := by decide +kernel
theorem dX10_swap_87 : decode cX10_swap 87 = .ok (.iload 6, 2) := by decide +kernel
theorem dX10_swap_89 : decode cX10_swap 89 = .ok (.ireturn, 1) := by decide +kernel
theorem dX10_cloth_0 : decode cX10_cloth 0 = .ok (.iload_n 1, 1) := by decide +kernel
theorem dX10_cloth_1 : decode cX10_cloth 1 = .ok (.bipush 24, 2) := by decide +kernel
theorem dX10_cloth_3 : decode cX10_cloth 3 = .ok (.if_icmp .gt 9, 3) := by decide +kernel
theorem dX10_cloth_6 : decode cX10_cloth 6 = .ok (.iload_n 2, 1) := by decide +kernel
theorem dX10_cloth_7 : decode cX10_cloth 7 = .ok (.bipush 24, 2) := by decide +kernel
theorem dX10_cloth_9 : decode cX10_cloth 9 = .ok (.if_icmp .le 6, 3) := by decide +kernel
theorem dX10_cloth_12 : decode cX10_cloth 12 = .ok (.ldc 58, 2) := by decide +kernel
theorem dX10_cloth_14 : decode cX10_cloth 14 = .ok (.ireturn, 1) := by decide +kernel
theorem dX10_cloth_15 : decode cX10_cloth 15 = .ok (.aload_n 0, 1) := by decide +kernel
theorem dX10_cloth_16 : decode cX10_cloth 16 = .ok (.getfield 40, 3) := by decide +kernel
theorem dX10_cloth_19 : decode cX10_cloth 19 = .ok (.invokevirtual 59, 3) := by decide +kernel
theorem dX10_cloth_22 : decode cX10_cloth 22 = .ok (.iload_n 1, 1) := by decide +kernel
theorem dX10_cloth_23 : decode cX10_cloth 23 = .ok (.ifCond .lt 7, 3) := by decide +kernel
theorem dX10_cloth_26 : decode cX10_cloth 26 = .ok (.iload_n 2, 1) := by decide +kernel
theorem dX10_cloth_27 : decode cX10_cloth 27 = .ok (.ifCond .ge 12, 3) := by decide +kernel
theorem dX10_cloth_30 : decode cX10_cloth 30 = .ok (.aload_n 0, 1) := by decide +kernel
theorem dX10_cloth_31 : decode cX10_cloth 31 = .ok (.getfield 40, 3) := by decide +kernel
theorem dX10_cloth_34 : decode cX10_cloth 34 = .ok (.iconst 3, 1) := by decide +kernel
theorem dX10_cloth_35 : decode cX10_cloth 35 = .ok (.invokevirtual 62, 3) := by decide +kernel
theorem dX10_cloth_38 : decode cX10_cloth 38 = .ok (.ireturn, 1) := by decide +kernel
theorem dX10_cloth_39 : decode cX10_cloth 39 = .ok (.aload_n 0, 1) := by decide +kernel
theorem dX10_cloth_40 : decode cX10_cloth 40 = .ok (.getfield 26, 3) := by decide +kernel
theorem dX10_cloth_43 : decode cX10_cloth 43 = .ok (.iload_n 1, 1) := by decide +kernel
theorem dX10_cloth_44 : decode cX10_cloth 44 = .ok (.iload_n 2, 1) := by decide +kernel
theorem dX10_cloth_45 : decode cX10_cloth 45 = .ok (.invokevirtual 116, 3) := by decide +kernel
theorem dX10_cloth_48 : decode cX10_cloth 48 = .ok (.iload_n 1, 1) := by decide +kernel
theorem dX10_cloth_49 : decode cX10_cloth 49 = .ok (.iload_n 2, 1) := by decide +kernel
theorem dX10_cloth_50 : decode cX10_cloth 50 = .ok (.imul, 1) := by decide +kernel
theorem dX10_cloth_51 : decode cX10_cloth 51 = .ok (.ireturn, 1) := by decide +kernel
theorem dX10_snip_0 : decode cX10_snip 0 = .ok (.aload_n 0, 1) := by decide +kernel
theorem dX10_snip_1 : decode cX10_snip 1 = .ok (.getfield 40, 3) := by decide +kernel
theorem dX10_snip_4 : decode cX10_snip 4 = .ok (.invokevirtual 59, 3) := by decide +kernel
theorem dX10_snip_7 : decode cX10_snip 7 = .ok (.aload_n 0, 1) := by decide +kernel
theorem dX10_snip_8 : decode cX10_snip 8 = .ok (.getfield 26, 3) := by decide +kernel
theorem dX10_snip_11 : decode cX10_snip 11 = .ok (.iload_n 1, 1) := by decide +kernel
theorem dX10_snip_12 : decode cX10_snip 12 = .ok (.invokevirtual 119, 3) := by decide +kernel
theorem dX10_snip_15 : decode cX10_snip 15 = .ok (.istore_n 2, 1) := by decide +kernel
theorem dX10_snip_16 : decode cX10_snip 16 = .ok (.iload_n 2, 1) := by decide +kernel
theorem dX10_snip_17 : decode cX10_snip 17 = .ok (.ifCond .eq 12, 3) := by decide +kernel
theorem dX10_snip_20 : decode cX10_snip 20 = .ok (.aload_n 0, 1) := by decide +kernel
theorem dX10_snip_21 : decode cX10_snip 21 = .ok (.getfield 40, 3) := by decide +kernel
theorem dX10_snip_24 : decode cX10_snip 24 = .ok (.iload_n 2, 1) := by decide +kernel
theorem dX10_snip_25 : decode cX10_snip 25 = .ok (.invokevirtual 62, 3) := by decide +kernel
theorem dX10_snip_28 : decode cX10_snip 28 = .ok (.ireturn, 1) := by decide +kernel
theorem dX10_snip_29 : decode cX10_snip 29 = .ok (.aload_n 0, 1) := by decide +kernel
theorem dX10_snip_30 : decode cX10_snip 30 = .ok (.getfield 26, 3) := by decide +kernel
theorem dX10_snip_33 : decode cX10_snip 33 = .ok (.iload_n 1, 1) := by decide +kernel
theorem dX10_snip_34 : decode cX10_snip 34 = .ok (.invokevirtual 122, 3) := by decide +kernel
theorem dX10_snip_37 : decode cX10_snip 37 = .ok (.istore_n 3, 1) := by decide +kernel
theorem dX10_snip_38 : decode cX10_snip 38 = .ok (.aload_n 0, 1) := by decide +kernel
theorem dX10_snip_39 : decode cX10_snip 39 = .ok (.getfield 26, 3) := by decide +kernel
theorem dX10_snip_42 : decode cX10_snip 42 = .ok (.iload_n 1, 1) := by decide +kernel
theorem dX10_snip_43 : decode cX10_snip 43 = .ok (.invokevirtual 125, 3) := by decide +kernel
theorem dX10_snip_46 : decode cX10_snip 46 = .ok (.iload_n 3, 1) := by decide +kernel
theorem dX10_snip_47 : decode cX10_snip 47 = .ok (.ifCond .eq 7, 3) := by decide +kernel
theorem dX10_snip_50 : decode cX10_snip 50 = .ok (.iconst 1, 1) := by decide +kernel
theorem dX10_snip_51 : decode cX10_snip 51 = .ok (.goto 4, 3) := by decide +kernel
theorem dX10_snip_54 : decode cX10_snip 54 = .ok (.iconst 0, 1) := by decide +kernel
theorem dX10_snip_55 : decode cX10_snip 55 = .ok (.ireturn, 1) := by decide +kernel
theorem dX10_hang_0 : decode cX10_hang 0 = .ok (.aload_n 0, 1) := by decide +kernel
theorem dX10_hang_1 : decode cX10_hang 1 = .ok (.getfield 40, 3) := by decide +kernel
theorem dX10_hang_4 : decode cX10_hang 4 = .ok (.invokevirtual 59, 3) := by decide +kernel
theorem dX10_hang_7 : decode cX10_hang 7 = .ok (.aload_n 0, 1) := by decide +kernel
theorem dX10_hang_8 : decode cX10_hang 8 = .ok (.getfield 26, 3) := by decide +kernel
theorem dX10_hang_11 : decode cX10_hang 11 = .ok (.iload_n 2, 1) := by decide +kernel
theorem dX10_hang_12 : decode cX10_hang 12 = .ok (.invokevirtual 119, 3) := by decide +kernel
theorem dX10_hang_15 : decode cX10_hang 15 = .ok (.istore_n 3, 1) := by decide +kernel
theorem dX10_hang_16 : decode cX10_hang 16 = .ok (.iload_n 3, 1) := by decide +kernel
theorem dX10_hang_17 : decode cX10_hang 17 = .ok (.ifCond .ne 12, 3) := by decide +kernel
theorem dX10_hang_20 : decode cX10_hang 20 = .ok (.aload_n 0, 1) := by decide +kernel
theorem dX10_hang_21 : decode cX10_hang 21 = .ok (.getfield 26, 3) := by decide +kernel
theorem dX10_hang_24 : decode cX10_hang 24 = .ok (.iload_n 1, 1) := by decide +kernel
theorem dX10_hang_25 : decode cX10_hang 25 = .ok (.invokevirtual 119, 3) := by decide +kernel
theorem dX10_hang_28 : decode cX10_hang 28 = .ok (.istore_n 3, 1) := by decide +kernel
theorem dX10_hang_29 : decode cX10_hang 29 = .ok (.iload_n 3, 1) := by decide +kernel
theorem dX10_hang_30 : decode cX10_hang 30 = .ok (.ifCond .eq 12, 3) := by decide +kernel
theorem dX10_hang_33 : decode cX10_hang 33 = .ok (.aload_n 0, 1) := by decide +kernel
theorem dX10_hang_34 : decode cX10_hang 34 = .ok (.getfield 40, 3) := by decide +kernel
theorem dX10_hang_37 : decode cX10_hang 37 = .ok (.iload_n 3, 1) := by decide +kernel
theorem dX10_hang_38 : decode cX10_hang 38 = .ok (.invokevirtual 62, 3) := by decide +kernel
theorem dX10_hang_41 : decode cX10_hang 41 = .ok (.ireturn, 1) := by decide +kernel
theorem dX10_hang_42 : decode cX10_hang 42 = .ok (.aload_n 0, 1) := by decide +kernel
theorem dX10_hang_43 : decode cX10_hang 43 = .ok (.getfield 26, 3) := by decide +kernel
theorem dX10_hang_46 : decode cX10_hang 46 = .ok (.iload_n 1, 1) := by decide +kernel
theorem dX10_hang_47 : decode cX10_hang 47 = .ok (.iload_n 2, 1) := by decide +kernel
theorem dX10_hang_48 : decode cX10_hang 48 = .ok (.invokevirtual 128, 3) := by decide +kernel
theorem dX10_hang_51 : decode cX10_hang 51 = .ok (.aload_n 0, 1) := by decide +kernel
theorem dX10_hang_52 : decode cX10_hang 52 = .ok (.getfield 26, 3) := by decide +kernel
theorem dX10_hang_55 : decode cX10_hang 55 = .ok (.iload_n 1, 1) := by decide +kernel
theorem dX10_hang_56 : decode cX10_hang 56 = .ok (.invokevirtual 122, 3) := by decide +kernel
theorem dX10_hang_59 : decode cX10_hang 59 = .ok (.ifCond .eq 13, 3) := by decide +kernel
theorem dX10_hang_62 : decode cX10_hang 62 = .ok (.aload_n 0, 1) := by decide +kernel
theorem dX10_hang_63 : decode cX10_hang 63 = .ok (.getfield 26, 3) := by decide +kernel
theorem dX10_hang_66 : decode cX10_hang 66 = .ok (.invokevirtual 130, 3) := by decide +kernel
theorem dX10_hang_69 : decode cX10_hang 69 = .ok (.goto 4, 3) := by decide +kernel
theorem dX10_hang_72 : decode cX10_hang 72 = .ok (.iconst 0, 1) := by decide +kernel
theorem dX10_hang_73 : decode cX10_hang 73 = .ok (.ireturn, 1) := by decide +kernel
theorem dX10_cell_0 : decode cX10_cell 0 = .ok (.aload_n 0, 1) := by decide +kernel
theorem dX10_cell_1 : decode cX10_cell 1 = .ok (.getfield 40, 3) := by decide +kernel
theorem dX10_cell_4 : decode cX10_cell 4 = .ok (.invokevirtual 59, 3) := by decide +kernel
theorem dX10_cell_7 : decode cX10_cell 7 = .ok (.aload_n 0, 1) := by decide +kernel
theorem dX10_cell_8 : decode cX10_cell 8 = .ok (.getfield 26, 3) := by decide +kernel
theorem dX10_cell_11 : decode cX10_cell 11 = .ok (.iload_n 1, 1) := by decide +kernel
theorem dX10_cell_12 : decode cX10_cell 12 = .ok (.invokevirtual 133, 3) := by decide +kernel
theorem dX10_cell_15 : decode cX10_cell 15 = .ok (.istore_n 3, 1) := by decide +kernel
theorem dX10_cell_16 : decode cX10_cell 16 = .ok (.iload_n 3, 1) := by decide +kernel
theorem dX10_cell_17 : decode cX10_cell 17 = .ok (.ifCond .ne 16, 3) := by decide +kernel
theorem dX10_cell_20 : decode cX10_cell 20 = .ok (.aload_n 0, 1) := by decide +kernel
theorem dX10_cell_21 : decode cX10_cell 21 = .ok (.getfield 26, 3) := by decide +kernel
theorem dX10_cell_24 : decode cX10_cell 24 = .ok (.iload_n 2, 1) := by decide +kernel
theorem dX10_cell_25 : decode cX10_cell 25 = .ok (.invokevirtual 136, 3) := by decide +kernel
theorem dX10_cell_28 : decode cX10_cell 28 = .ok (.ifCond .ne 5, 3) := by decide +kernel
theorem dX10_cell_31 : decode cX10_cell 31 = .ok (.iconst 2, 1) := by decide +kernel
theorem dX10_cell_32 : decode cX10_cell 32 = .ok (.istore_n 3, 1) := by decide +kernel
theorem dX10_cell_33 : decode cX10_cell 33 = .ok (.iload_n 3, 1) := by decide +kernel
theorem dX10_cell_34 : decode cX10_cell 34 = .ok (.ifCond .ne 15, 3) := by decide +kernel
theorem dX10_cell_37 : decode cX10_cell 37 = .ok (.aload_n 0, 1) := by decide +kernel
theorem dX10_cell_38 : decode cX10_cell 38 = .ok (.getfield 26, 3) := by decide +kernel
theorem dX10_cell_41 : decode cX10_cell 41 = .ok (.iload_n 1, 1) := by decide +kernel
theorem dX10_cell_42 : decode cX10_cell 42 = .ok (.iload_n 2, 1) := by decide +kernel
theorem dX10_cell_43 : decode cX10_cell 43 = .ok (.invokevirtual 139, 3) := by decide +kernel
theorem dX10_cell_46 : decode cX10_cell 46 = .ok (.goto 11, 3) := by decide +kernel
theorem dX10_cell_49 : decode cX10_cell 49 = .ok (.aload_n 0, 1) := by decide +kernel
theorem dX10_cell_50 : decode cX10_cell 50 = .ok (.getfield 40, 3) := by decide +kernel
theorem dX10_cell_53 : decode cX10_cell 53 = .ok (.iload_n 3, 1) := by decide +kernel
theorem dX10_cell_54 : decode cX10_cell 54 = .ok (.invokevirtual 62, 3) := by decide +kernel
theorem dX10_cell_57 : decode cX10_cell 57 = .ok (.ireturn, 1) := by decide +kernel
theorem dX10_weave_0 : decode cX10_weave 0 = .ok (.iload_n 1, 1) := by decide +kernel
theorem dX10_weave_1 : decode cX10_weave 1 = .ok (.invokestatic 78, 3) := by decide +kernel
theorem dX10_weave_4 : decode cX10_weave 4 = .ok (.ifCond .ne 6, 3) := by decide +kernel
theorem dX10_weave_7 : decode cX10_weave 7 = .ok (.ldc 58, 2) := by decide +kernel
theorem dX10_weave_9 : decode cX10_weave 9 = .ok (.ireturn, 1) := by decide +kernel
theorem dX10_weave_10 : decode cX10_weave 10 = .ok (.aload_n 0, 1) := by decide +kernel
theorem dX10_weave_11 : decode cX10_weave 11 = .ok (.getfield 40, 3) := by decide +kernel
theorem dX10_weave_14 : decode cX10_weave 14 = .ok (.invokevirtual 59, 3) := by decide +kernel
theorem dX10_weave_17 : decode cX10_weave 17 = .ok (.aload_n 0, 1) := by decide +kernel
theorem dX10_weave_18 : decode cX10_weave 18 = .ok (.getfield 26, 3) := by decide +kernel
theorem dX10_weave_21 : decode cX10_weave 21 = .ok (.iload_n 2, 1) := by decide +kernel
theorem dX10_weave_22 : decode cX10_weave 22 = .ok (.invokevirtual 133, 3) := by decide +kernel
theorem dX10_weave_25 : decode cX10_weave 25 = .ok (.istore 4, 2) := by decide +kernel
theorem dX10_weave_27 : decode cX10_weave 27 = .ok (.iload 4, 2) := by decide +kernel
theorem dX10_weave_29 : decode cX10_weave 29 = .ok (.ifCond .eq 13, 3) := by decide +kernel
theorem dX10_weave_32 : decode cX10_weave 32 = .ok (.aload_n 0, 1) := by decide +kernel
theorem dX10_weave_33 : decode cX10_weave 33 = .ok (.getfield 40, 3) := by decide +kernel
theorem dX10_weave_36 : decode cX10_weave 36 = .ok (.iload 4, 2) := by decide +kernel
theorem dX10_weave_38 : decode cX10_weave 38 = .ok (.invokevirtual 62, 3) := by decide +kernel
theorem dX10_weave_41 : decode cX10_weave 41 = .ok (.ireturn, 1) := by decide +kernel
theorem dX10_weave_42 : decode cX10_weave 42 = .ok (.iconst 0, 1) := by decide +kernel
theorem dX10_weave_43 : decode cX10_weave 43 = .ok (.istore 5, 2) := by decide +kernel
theorem dX10_weave_45 : decode cX10_weave 45 = .ok (.iload 5, 2) := by decide +kernel
theorem dX10_weave_47 : decode cX10_weave 47 = .ok (.aload_n 0, 1) := by decide +kernel
theorem dX10_weave_48 : decode cX10_weave 48 = .ok (.getfield 26, 3) := by decide +kernel
theorem dX10_weave_51 : decode cX10_weave 51 = .ok (.invokevirtual 130, 3) := by decide +kernel
theorem dX10_weave_54 : decode cX10_weave 54 = .ok (.if_icmp .ge 38, 3) := by decide +kernel
theorem dX10_weave_57 : decode cX10_weave 57 = .ok (.aload_n 0, 1) := by decide +kernel
theorem dX10_weave_58 : decode cX10_weave 58 = .ok (.iload_n 1, 1) := by decide +kernel
theorem dX10_weave_59 : decode cX10_weave 59 = .ok (.iload_n 2, 1) := by decide +kernel
theorem dX10_weave_60 : decode cX10_weave 60 = .ok (.iload 5, 2) := by decide +kernel
theorem dX10_weave_62 : decode cX10_weave 62 = .ok (.iload_n 3, 1) := by decide +kernel
theorem dX10_weave_63 : decode cX10_weave 63 = .ok (.invokevirtual 143, 3) := by decide +kernel
theorem dX10_weave_66 : decode cX10_weave 66 = .ok (.istore 6, 2) := by decide +kernel
theorem dX10_weave_68 : decode cX10_weave 68 = .ok (.iload 6, 2) := by decide +kernel
theorem dX10_weave_70 : decode cX10_weave 70 = .ok (.ifCond .eq 16, 3) := by decide +kernel
theorem dX10_weave_73 : decode cX10_weave 73 = .ok (.aload_n 0, 1) := by decide +kernel
theorem dX10_weave_74 : decode cX10_weave 74 = .ok (.getfield 40, 3) := by decide +kernel
theorem dX10_weave_77 : decode cX10_weave 77 = .ok (.iload 6, 2) := by decide +kernel
theorem dX10_weave_79 : decode cX10_weave 79 = .ok (.invokevirtual 62, 3) := by decide +kernel
theorem dX10_weave_82 : decode cX10_weave 82 = .ok (.pop, 1) := by decide +kernel
theorem dX10_weave_83 : decode cX10_weave 83 = .ok (.iload 5, 2) := by decide +kernel
theorem dX10_weave_85 : decode cX10_weave 85 = .ok (.ireturn, 1) := by decide +kernel
theorem dX10_weave_86 : decode cX10_weave 86 = .ok (.iinc 5 1, 3) := by decide +kernel
theorem dX10_weave_89 : decode cX10_weave 89 = .ok (.goto (-44), 3) := by decide +kernel
theorem dX10_weave_92 : decode cX10_weave 92 = .ok (.aload_n 0, 1) := by decide +kernel
theorem dX10_weave_93 : decode cX10_weave 93 = .ok (.dup, 1) := by decide +kernel
theorem dX10_weave_94 : decode cX10_weave 94 = .ok (.getfield 51, 3) := by decide +kernel
theorem dX10_weave_97 : decode cX10_weave 97 = .ok (.iconst 1, 1) := by decide +kernel
theorem dX10_weave_98 : decode cX10_weave 98 = .ok (.iadd, 1) := by decide +kernel
theorem dX10_weave_99 : decode cX10_weave 99 = .ok (.putfield 51, 3) := by decide +kernel
theorem dX10_weave_102 : decode cX10_weave 102 = .ok (.aload_n 0, 1) := by decide +kernel
theorem dX10_weave_103 : decode cX10_weave 103 = .ok (.getfield 26, 3) := by decide +kernel
theorem dX10_weave_106 : decode cX10_weave 106 = .ok (.invokevirtual 130, 3) := by decide +kernel
theorem dX10_weave_109 : decode cX10_weave 109 = .ok (.ireturn, 1) := by decide +kernel
theorem dX10_card_0 : decode cX10_card 0 = .ok (.iload_n 1, 1) := by decide +kernel
theorem dX10_card_1 : decode cX10_card 1 = .ok (.invokestatic 100, 3) := by decide +kernel
theorem dX10_card_4 : decode cX10_card 4 = .ok (.ifCond .eq 21, 3) := by decide +kernel
theorem dX10_card_7 : decode cX10_card 7 = .ok (.iload_n 2, 1) := by decide +kernel
theorem dX10_card_8 : decode cX10_card 8 = .ok (.iload_n 3, 1) := by decide +kernel
theorem dX10_card_9 : decode cX10_card 9 = .ok (.invokestatic 54, 3) := by decide +kernel
theorem dX10_card_12 : decode cX10_card 12 = .ok (.ifCond .eq 13, 3) := by decide +kernel
theorem dX10_card_15 : decode cX10_card 15 = .ok (.aload_n 0, 1) := by decide +kernel
theorem dX10_card_16 : decode cX10_card 16 = .ok (.getfield 33, 3) := by decide +kernel
theorem dX10_card_19 : decode cX10_card 19 = .ok (.invokevirtual 147, 3) := by decide +kernel
theorem dX10_card_22 : decode cX10_card 22 = .ok (.ifCond .eq 6, 3) := by decide +kernel
theorem dX10_card_25 : decode cX10_card 25 = .ok (.ldc 58, 2) := by decide +kernel
theorem dX10_card_27 : decode cX10_card 27 = .ok (.ireturn, 1) := by decide +kernel
theorem dX10_card_28 : decode cX10_card 28 = .ok (.aload_n 0, 1) := by decide +kernel
theorem dX10_card_29 : decode cX10_card 29 = .ok (.getfield 33, 3) := by decide +kernel
theorem dX10_card_32 : decode cX10_card 32 = .ok (.iload_n 1, 1) := by decide +kernel
theorem dX10_card_33 : decode cX10_card 33 = .ok (.iload_n 2, 1) := by decide +kernel
theorem dX10_card_34 : decode cX10_card 34 = .ok (.iload_n 3, 1) := by decide +kernel
theorem dX10_card_35 : decode cX10_card 35 = .ok (.iload 4, 2) := by decide +kernel
theorem dX10_card_37 : decode cX10_card 37 = .ok (.iload 5, 2) := by decide +kernel
theorem dX10_card_39 : decode cX10_card 39 = .ok (.invokevirtual 148, 3) := by decide +kernel
theorem dX10_card_42 : decode cX10_card 42 = .ok (.aload_n 0, 1) := by decide +kernel
theorem dX10_card_43 : decode cX10_card 43 = .ok (.getfield 33, 3) := by decide +kernel
theorem dX10_card_46 : decode cX10_card 46 = .ok (.invokevirtual 152, 3) := by decide +kernel
theorem dX10_card_49 : decode cX10_card 49 = .ok (.ireturn, 1) := by decide +kernel
theorem dX10_unhook_0 : decode cX10_unhook 0 = .ok (.aload_n 0, 1) := by decide +kernel
theorem dX10_unhook_1 : decode cX10_unhook 1 = .ok (.getfield 33, 3) := by decide +kernel
theorem dX10_unhook_4 : decode cX10_unhook 4 = .ok (.invokevirtual 152, 3) := by decide +kernel
theorem dX10_unhook_7 : decode cX10_unhook 7 = .ok (.istore_n 1, 1) := by decide +kernel
theorem dX10_unhook_8 : decode cX10_unhook 8 = .ok (.aload_n 0, 1) := by decide +kernel
theorem dX10_unhook_9 : decode cX10_unhook 9 = .ok (.getfield 33, 3) := by decide +kernel
theorem dX10_unhook_12 : decode cX10_unhook 12 = .ok (.invokevirtual 153, 3) := by decide +kernel
theorem dX10_unhook_15 : decode cX10_unhook 15 = .ok (.iload_n 1, 1) := by decide +kernel
theorem dX10_unhook_16 : decode cX10_unhook 16 = .ok (.ireturn, 1) := by decide +kernel
theorem dX10_keeper_0 : decode cX10_keeper 0 = .ok (.iload_n 1, 1) := by decide +kernel
theorem dX10_keeper_1 : decode cX10_keeper 1 = .ok (.bipush (-63), 2) := by decide +kernel
theorem dX10_keeper_3 : decode cX10_keeper 3 = .ok (.iand, 1) := by decide +kernel
theorem dX10_keeper_4 : decode cX10_keeper 4 = .ok (.ifCond .eq 5, 3) := by decide +kernel
theorem dX10_keeper_7 : decode cX10_keeper 7 = .ok (.iconst 0, 1) := by decide +kernel
theorem dX10_keeper_8 : decode cX10_keeper 8 = .ok (.ireturn, 1) := by decide +kernel
theorem dX10_keeper_9 : decode cX10_keeper 9 = .ok (.aload_n 0, 1) := by decide +kernel
theorem dX10_keeper_10 : decode cX10_keeper 10 = .ok (.iload_n 1, 1) := by decide +kernel
theorem dX10_keeper_11 : decode cX10_keeper 11 = .ok (.putfield 44, 3) := by decide +kernel
theorem dX10_keeper_14 : decode cX10_keeper 14 = .ok (.iconst 1, 1) := by decide +kernel
theorem dX10_keeper_15 : decode cX10_keeper 15 = .ok (.ireturn, 1) := by decide +kernel
theorem dX10_run_0 : decode cX10_run 0 = .ok (.iload_n 1, 1) := by decide +kernel
theorem dX10_run_1 : decode cX10_run 1 = .ok (.iconst 1, 1) := by decide +kernel
theorem dX10_run_2 : decode cX10_run 2 = .ok (.if_icmp .lt 19, 3) := by decide +kernel
theorem dX10_run_5 : decode cX10_run 5 = .ok (.iload_n 1, 1) := by decide +kernel
theorem dX10_run_6 : decode cX10_run 6 = .ok (.bipush 12, 2) := by decide +kernel
theorem dX10_run_8 : decode cX10_run 8 = .ok (.if_icmp .gt 13, 3) := by decide +kernel
theorem dX10_run_11 : decode cX10_run 11 = .ok (.aload_n 0, 1) := by decide +kernel
theorem dX10_run_12 : decode cX10_run 12 = .ok (.getfield 33, 3) := by decide +kernel
theorem dX10_run_15 : decode cX10_run 15 = .ok (.invokevirtual 152, 3) := by decide +kernel
theorem dX10_run_18 : decode cX10_run 18 = .ok (.ifCond .ne 6, 3) := by decide +kernel
theorem dX10_run_21 : decode cX10_run 21 = .ok (.ldc 58, 2) := by decide +kernel
theorem dX10_run_23 : decode cX10_run 23 = .ok (.ireturn, 1) := by decide +kernel
theorem dX10_run_24 : decode cX10_run 24 = .ok (.aload_n 0, 1) := by decide +kernel
theorem dX10_run_25 : decode cX10_run 25 = .ok (.iconst 0, 1) := by decide +kernel
theorem dX10_run_26 : decode cX10_run 26 = .ok (.putfield 48, 3) := by decide +kernel
theorem dX10_run_29 : decode cX10_run 29 = .ok (.iconst 0, 1) := by decide +kernel
theorem dX10_run_30 : decode cX10_run 30 = .ok (.istore_n 2, 1) := by decide +kernel
theorem dX10_run_31 : decode cX10_run 31 = .ok (.iload_n 2, 1) := by decide +kernel
theorem dX10_run_32 : decode cX10_run 32 = .ok (.iload_n 1, 1) := by decide +kernel
theorem dX10_run_33 : decode cX10_run 33 = .ok (.if_icmp .ge 82, 3) := by decide +kernel
theorem dX10_run_36 : decode cX10_run 36 = .ok (.aload_n 0, 1) := by decide +kernel
theorem dX10_run_37 : decode cX10_run 37 = .ok (.getfield 33, 3) := by decide +kernel
theorem dX10_run_40 : decode cX10_run 40 = .ok (.iload_n 2, 1) := by decide +kernel
theorem dX10_run_41 : decode cX10_run 41 = .ok (.aload_n 0, 1) := by decide +kernel
theorem dX10_run_42 : decode cX10_run 42 = .ok (.getfield 33, 3) := by decide +kernel
theorem dX10_run_45 : decode cX10_run 45 = .ok (.invokevirtual 152, 3) := by decide +kernel
theorem dX10_run_48 : decode cX10_run 48 = .ok (.irem, 1) := by decide +kernel
theorem dX10_run_49 : decode cX10_run 49 = .ok (.invokevirtual 156, 3) := by decide +kernel
theorem dX10_run_52 : decode cX10_run 52 = .ok (.astore_n 3, 1) := by decide +kernel
theorem dX10_run_53 : decode cX10_run 53 = .ok (.aload_n 0, 1) := by decide +kernel
theorem dX10_run_54 : decode cX10_run 54 = .ok (.dup, 1) := by decide +kernel
theorem dX10_run_55 : decode cX10_run 55 = .ok (.getfield 48, 3) := by decide +kernel
theorem dX10_run_58 : decode cX10_run 58 = .ok (.aload_n 0, 1) := by decide +kernel
theorem dX10_run_59 : decode cX10_run 59 = .ok (.aload_n 3, 1) := by decide +kernel
theorem dX10_run_60 : decode cX10_run 60 = .ok (.getfield 160, 3) := by decide +kernel
theorem dX10_run_63 : decode cX10_run 63 = .ok (.aload_n 0, 1) := by decide +kernel
theorem dX10_run_64 : decode cX10_run 64 = .ok (.getfield 10, 3) := by decide +kernel
theorem dX10_run_67 : decode cX10_run 67 = .ok (.aload_n 3, 1) := by decide +kernel
theorem dX10_run_68 : decode cX10_run 68 = .ok (.getfield 165, 3) := by decide +kernel
theorem dX10_run_71 : decode cX10_run 71 = .ok (.aload_n 3, 1) := by decide +kernel
theorem dX10_run_72 : decode cX10_run 72 = .ok (.getfield 168, 3) := by decide +kernel
theorem dX10_run_75 : decode cX10_run 75 = .ok (.invokevirtual 70, 3) := by decide +kernel
theorem dX10_run_78 : decode cX10_run 78 = .ok (.aload_n 3, 1) := by decide +kernel
theorem dX10_run_79 : decode cX10_run 79 = .ok (.getfield 171, 3) := by decide +kernel
theorem dX10_run_82 : decode cX10_run 82 = .ok (.aload_n 3, 1) := by decide +kernel
theorem dX10_run_83 : decode cX10_run 83 = .ok (.getfield 174, 3) := by decide +kernel
theorem dX10_run_86 : decode cX10_run 86 = .ok (.invokevirtual 103, 3) := by decide +kernel
theorem dX10_run_89 : decode cX10_run 89 = .ok (.iadd, 1) := by decide +kernel
theorem dX10_run_90 : decode cX10_run 90 = .ok (.putfield 48, 3) := by decide +kernel
theorem dX10_run_93 : decode cX10_run 93 = .ok (.aload_n 0, 1) := by decide +kernel
theorem dX10_run_94 : decode cX10_run 94 = .ok (.aload_n 0, 1) := by decide +kernel
theorem dX10_run_95 : decode cX10_run 95 = .ok (.getfield 40, 3) := by decide +kernel
theorem dX10_run_98 : decode cX10_run 98 = .ok (.invokevirtual 177, 3) := by decide +kernel
theorem dX10_run_101 : decode cX10_run 101 = .ok (.invokevirtual 180, 3) := by decide +kernel
theorem dX10_run_104 : decode cX10_run 104 = .ok (.ifCond .eq 5, 3) := by decide +kernel
theorem dX10_run_107 : decode cX10_run 107 = .ok (.iload_n 2, 1) := by decide +kernel
theorem dX10_run_108 : decode cX10_run 108 = .ok (.ireturn, 1) := by decide +kernel
theorem dX10_run_109 : decode cX10_run 109 = .ok (.iinc 2 1, 3) := by decide +kernel
theorem dX10_run_112 : decode cX10_run 112 = .ok (.goto (-81), 3) := by decide +kernel
theorem dX10_run_115 : decode cX10_run 115 = .ok (.aload_n 0, 1) := by decide +kernel
theorem dX10_run_116 : decode cX10_run 116 = .ok (.getfield 40, 3) := by decide +kernel
theorem dX10_run_119 : decode cX10_run 119 = .ok (.invokevirtual 59, 3) := by decide +kernel
theorem dX10_run_122 : decode cX10_run 122 = .ok (.iload_n 1, 1) := by decide +kernel
theorem dX10_run_123 : decode cX10_run 123 = .ok (.ireturn, 1) := by decide +kernel
theorem dX10_told_0 : decode cX10_told 0 = .ok (.iload_n 1, 1) := by decide +kernel
theorem dX10_told_1 : decode cX10_told 1 = .ok (.iconst 1, 1) := by decide +kernel
theorem dX10_told_2 : decode cX10_told 2 = .ok (.if_icmp .lt 17, 3) := by decide +kernel
theorem dX10_told_5 : decode cX10_told 5 = .ok (.iload_n 1, 1) := by decide +kernel
theorem dX10_told_6 : decode cX10_told 6 = .ok (.iconst 5, 1) := by decide +kernel
theorem dX10_told_7 : decode cX10_told 7 = .ok (.if_icmp .gt 12, 3) := by decide +kernel
theorem dX10_told_10 : decode cX10_told 10 = .ok (.aload_n 0, 1) := by decide +kernel
theorem dX10_told_11 : decode cX10_told 11 = .ok (.getfield 40, 3) := by decide +kernel
theorem dX10_told_14 : decode cX10_told 14 = .ok (.iload_n 1, 1) := by decide +kernel
theorem dX10_told_15 : decode cX10_told 15 = .ok (.invokevirtual 183, 3) := by decide +kernel
theorem dX10_told_18 : decode cX10_told 18 = .ok (.ireturn, 1) := by decide +kernel
theorem dX10_told_19 : decode cX10_told 19 = .ok (.iload_n 1, 1) := by decide +kernel
theorem dX10_told_20 : decode cX10_told 20 = .ok (.tableswitch 90 0 9 #[56, 90, 90, 90, 90, 90, 64, 72, 80, 85], 56) := by decide +kernel
theorem dX10_told_76 : decode cX10_told 76 = .ok (.aload_n 0, 1) := by decide +kernel
theorem dX10_told_77 : decode cX10_told 77 = .ok (.getfield 40, 3) := by decide +kernel
theorem dX10_told_80 : decode cX10_told 80 = .ok (.invokevirtual 177, 3) := by decide +kernel
theorem dX10_told_83 : decode cX10_told 83 = .ok (.ireturn, 1) := by decide +kernel
theorem dX10_told_84 : decode cX10_told 84 = .ok (.aload_n 0, 1) := by decide +kernel
theorem dX10_told_85 : decode cX10_told 85 = .ok (.getfield 19, 3) := by decide +kernel
theorem dX10_told_88 : decode cX10_told 88 = .ok (.invokevirtual 99, 3) := by decide +kernel
theorem dX10_told_91 : decode cX10_told 91 = .ok (.ireturn, 1) := by decide +kernel
theorem dX10_told_92 : decode cX10_told 92 = .ok (.aload_n 0, 1) := by decide +kernel
theorem dX10_told_93 : decode cX10_told 93 = .ok (.getfield 33, 3) := by decide +kernel
theorem dX10_told_96 : decode cX10_told 96 = .ok (.invokevirtual 152, 3) := by decide +kernel
theorem dX10_told_99 : decode cX10_told 99 = .ok (.ireturn, 1) := by decide +kernel
theorem dX10_told_100 : decode cX10_told 100 = .ok (.aload_n 0, 1) := by decide +kernel
theorem dX10_told_101 : decode cX10_told 101 = .ok (.getfield 48, 3) := by decide +kernel
theorem dX10_told_104 : decode cX10_told 104 = .ok (.ireturn, 1) := by decide +kernel
theorem dX10_told_105 : decode cX10_told 105 = .ok (.aload_n 0, 1) := by decide +kernel
theorem dX10_told_106 : decode cX10_told 106 = .ok (.getfield 51, 3) := by decide +kernel
theorem dX10_told_109 : decode cX10_told 109 = .ok (.ireturn, 1) := by decide +kernel
theorem dX10_told_110 : decode cX10_told 110 = .ok (.ldc 58, 2) := by decide +kernel
theorem dX10_told_112 : decode cX10_told 112 = .ok (.ireturn, 1) := by decide +kernel
theorem dX10_isAct_0 : decode cX10_isAct 0 = .ok (.iload_n 0, 1) := by decide +kernel
theorem dX10_isAct_1 : decode cX10_isAct 1 = .ok (.ifCond .lt 12, 3) := by decide +kernel
theorem dX10_isAct_4 : decode cX10_isAct 4 = .ok (.iload_n 0, 1) := by decide +kernel
theorem dX10_isAct_5 : decode cX10_isAct 5 = .ok (.iconst 4, 1) := by decide +kernel
theorem dX10_isAct_6 : decode cX10_isAct 6 = .ok (.if_icmp .gt 7, 3) := by decide +kernel
theorem dX10_isAct_9 : decode cX10_isAct 9 = .ok (.iconst 1, 1) := by decide +kernel
theorem dX10_isAct_10 : decode cX10_isAct 10 = .ok (.goto 4, 3) := by decide +kernel
theorem dX10_isAct_13 : decode cX10_isAct 13 = .ok (.iconst 0, 1) := by decide +kernel
theorem dX10_isAct_14 : decode cX10_isAct 14 = .ok (.ireturn, 1) := by decide +kernel
theorem dX10_isEndedBy_0 : decode cX10_isEndedBy 0 = .ok (.iload_n 1, 1) := by decide +kernel
theorem dX10_isEndedBy_1 : decode cX10_isEndedBy 1 = .ok (.ifCond .eq 18, 3) := by decide +kernel
theorem dX10_isEndedBy_4 : decode cX10_isEndedBy 4 = .ok (.aload_n 0, 1) := by decide +kernel
theorem dX10_isEndedBy_5 : decode cX10_isEndedBy 5 = .ok (.getfield 44, 3) := by decide +kernel
theorem dX10_isEndedBy_8 : decode cX10_isEndedBy 8 = .ok (.iload_n 1, 1) := by decide +kernel
theorem dX10_isEndedBy_9 : decode cX10_isEndedBy 9 = .ok (.ishr, 1) := by decide +kernel
theorem dX10_isEndedBy_10 : decode cX10_isEndedBy 10 = .ok (.iconst 1, 1) := by decide +kernel
theorem dX10_isEndedBy_11 : decode cX10_isEndedBy 11 = .ok (.iand, 1) := by decide +kernel
theorem dX10_isEndedBy_12 : decode cX10_isEndedBy 12 = .ok (.ifCond .ne 7, 3) := by decide +kernel
theorem dX10_isEndedBy_15 : decode cX10_isEndedBy 15 = .ok (.iconst 1, 1) := by decide +kernel
theorem dX10_isEndedBy_16 : decode cX10_isEndedBy 16 = .ok (.goto 4, 3) := by decide +kernel
theorem dX10_isEndedBy_19 : decode cX10_isEndedBy 19 = .ok (.iconst 0, 1) := by decide +kernel
theorem dX10_isEndedBy_20 : decode cX10_isEndedBy 20 = .ok (.ireturn, 1) := by decide +kernel
theorem dX10_work_0 : decode cX10_work 0 = .ok (.aload_n 0, 1) := by decide +kernel
theorem dX10_work_1 : decode cX10_work 1 = .ok (.getfield 40, 3) := by decide +kernel
theorem dX10_work_4 : decode cX10_work 4 = .ok (.invokevirtual 59, 3) := by decide +kernel
theorem dX10_work_7 : decode cX10_work 7 = .ok (.iload 4, 2) := by decide +kernel
theorem dX10_work_9 : decode cX10_work 9 = .ok (.istore 5, 2) := by decide +kernel
theorem dX10_work_11 : decode cX10_work 11 = .ok (.iload_n 1, 1) := by decide +kernel
theorem dX10_work_12 : decode cX10_work 12 = .ok (.iconst 1, 1) := by decide +kernel
theorem dX10_work_13 : decode cX10_work 13 = .ok (.if_icmp .ne 31, 3) := by decide +kernel
theorem dX10_work_16 : decode cX10_work 16 = .ok (.aload_n 0, 1) := by decide +kernel
theorem dX10_work_17 : decode cX10_work 17 = .ok (.getfield 19, 3) := by decide +kernel
theorem dX10_work_20 : decode cX10_work 20 = .ok (.invokevirtual 186, 3) := by decide +kernel
theorem dX10_work_23 : decode cX10_work 23 = .ok (.ifCond .eq 12, 3) := by decide +kernel
theorem dX10_work_26 : decode cX10_work 26 = .ok (.aload_n 0, 1) := by decide +kernel
theorem dX10_work_27 : decode cX10_work 27 = .ok (.getfield 40, 3) := by decide +kernel
theorem dX10_work_30 : decode cX10_work 30 = .ok (.iconst 4, 1) := by decide +kernel
theorem dX10_work_31 : decode cX10_work 31 = .ok (.invokevirtual 62, 3) := by decide +kernel
theorem dX10_work_34 : decode cX10_work 34 = .ok (.ireturn, 1) := by decide +kernel
theorem dX10_work_35 : decode cX10_work 35 = .ok (.aload_n 0, 1) := by decide +kernel
theorem dX10_work_36 : decode cX10_work 36 = .ok (.getfield 19, 3) := by decide +kernel
theorem dX10_work_39 : decode cX10_work 39 = .ok (.invokevirtual 189, 3) := by decide +kernel
theorem dX10_work_42 : decode cX10_work 42 = .ok (.istore 5, 2) := by decide +kernel
theorem dX10_work_44 : decode cX10_work 44 = .ok (.aload_n 2, 1) := by decide +kernel
theorem dX10_work_45 : decode cX10_work 45 = .ok (.ifnonnull 12, 3) := by decide +kernel
theorem dX10_work_48 : decode cX10_work 48 = .ok (.aload_n 0, 1) := by decide +kernel
theorem dX10_work_49 : decode cX10_work 49 = .ok (.getfield 40, 3) := by decide +kernel
theorem dX10_work_52 : decode cX10_work 52 = .ok (.iconst 1, 1) := by decide +kernel
theorem dX10_work_53 : decode cX10_work 53 = .ok (.invokevirtual 62, 3) := by decide +kernel
theorem dX10_work_56 : decode cX10_work 56 = .ok (.ireturn, 1) := by decide +kernel
theorem dX10_work_57 : decode cX10_work 57 = .ok (.aload_n 2, 1) := by decide +kernel
theorem dX10_work_58 : decode cX10_work 58 = .ok (.iload_n 3, 1) := by decide +kernel
theorem dX10_work_59 : decode cX10_work 59 = .ok (.invokevirtual 107, 3) := by decide +kernel
theorem dX10_work_62 : decode cX10_work 62 = .ok (.ifCond .ne 12, 3) := by decide +kernel
theorem dX10_work_65 : decode cX10_work 65 = .ok (.aload_n 0, 1) := by decide +kernel
theorem dX10_work_66 : decode cX10_work 66 = .ok (.getfield 40, 3) := by decide +kernel
theorem dX10_work_69 : decode cX10_work 69 = .ok (.iconst 2, 1) := by decide +kernel
theorem dX10_work_70 : decode cX10_work 70 = .ok (.invokevirtual 62, 3) := by decide +kernel
theorem dX10_work_73 : decode cX10_work 73 = .ok (.ireturn, 1) := by decide +kernel
theorem dX10_work_74 : decode cX10_work 74 = .ok (.aload_n 0, 1) := by decide +kernel
theorem dX10_work_75 : decode cX10_work 75 = .ok (.iload_n 1, 1) := by decide +kernel
theorem dX10_work_76 : decode cX10_work 76 = .ok (.aload_n 2, 1) := by decide +kernel
theorem dX10_work_77 : decode cX10_work 77 = .ok (.iload_n 3, 1) := by decide +kernel
theorem dX10_work_78 : decode cX10_work 78 = .ok (.iload 5, 2) := by decide +kernel
theorem dX10_work_80 : decode cX10_work 80 = .ok (.invokevirtual 192, 3) := by decide +kernel
theorem dX10_work_83 : decode cX10_work 83 = .ok (.istore 6, 2) := by decide +kernel
theorem dX10_work_85 : decode cX10_work 85 = .ok (.iload 6, 2) := by decide +kernel
theorem dX10_work_87 : decode cX10_work 87 = .ok (.ifCond .ne 11, 3) := by decide +kernel
theorem dX10_work_90 : decode cX10_work 90 = .ok (.aload_n 2, 1) := by decide +kernel
theorem dX10_work_91 : decode cX10_work 91 = .ok (.iload_n 3, 1) := by decide +kernel
theorem dX10_work_92 : decode cX10_work 92 = .ok (.invokevirtual 110, 3) := by decide +kernel
theorem dX10_work_95 : decode cX10_work 95 = .ok (.goto 12, 3) := by decide +kernel
theorem dX10_work_98 : decode cX10_work 98 = .ok (.aload_n 0, 1) := by decide +kernel
theorem dX10_work_99 : decode cX10_work 99 = .ok (.getfield 40, 3) := by decide +kernel
theorem dX10_work_102 : decode cX10_work 102 = .ok (.iload 6, 2) := by decide +kernel
theorem dX10_work_104 : decode cX10_work 104 = .ok (.invokevirtual 62, 3) := by decide +kernel
theorem dX10_work_107 : decode cX10_work 107 = .ok (.ireturn, 1) := by decide +kernel
theorem dX10_change_0 : decode cX10_change 0 = .ok (.iload_n 1, 1) := by decide +kernel
theorem dX10_change_1 : decode cX10_change 1 = .ok (.tableswitch 89 1 4 #[31, 40, 66, 73], 31) := by decide +kernel
theorem dX10_change_32 : decode cX10_change 32 = .ok (.aload_n 2, 1) := by decide +kernel
theorem dX10_change_33 : decode cX10_change 33 = .ok (.iload_n 3, 1) := by decide +kernel
theorem dX10_change_34 : decode cX10_change 34 = .ok (.iload 4, 2) := by decide +kernel
theorem dX10_change_36 : decode cX10_change 36 = .ok (.invokevirtual 195, 3) := by decide +kernel
theorem dX10_change_39 : decode cX10_change 39 = .ok (.iconst 0, 1) := by decide +kernel
theorem dX10_change_40 : decode cX10_change 40 = .ok (.ireturn, 1) := by decide +kernel
theorem dX10_change_41 : decode cX10_change 41 = .ok (.aload_n 0, 1) := by decide +kernel
theorem dX10_change_42 : decode cX10_change 42 = .ok (.getfield 19, 3) := by decide +kernel
theorem dX10_change_45 : decode cX10_change 45 = .ok (.invokevirtual 186, 3) := by decide +kernel
theorem dX10_change_48 : decode cX10_change 48 = .ok (.ifCond .eq 5, 3) := by decide +kernel
theorem dX10_change_51 : decode cX10_change 51 = .ok (.iconst 4, 1) := by decide +kernel
theorem dX10_change_52 : decode cX10_change 52 = .ok (.ireturn, 1) := by decide +kernel
theorem dX10_change_53 : decode cX10_change 53 = .ok (.aload_n 2, 1) := by decide +kernel
theorem dX10_change_54 : decode cX10_change 54 = .ok (.iload_n 3, 1) := by decide +kernel
theorem dX10_change_55 : decode cX10_change 55 = .ok (.aload_n 0, 1) := by decide +kernel
theorem dX10_change_56 : decode cX10_change 56 = .ok (.getfield 19, 3) := by decide +kernel
theorem dX10_change_59 : decode cX10_change 59 = .ok (.invokevirtual 189, 3) := by decide +kernel
theorem dX10_change_62 : decode cX10_change 62 = .ok (.invokevirtual 198, 3) := by decide +kernel
theorem dX10_change_65 : decode cX10_change 65 = .ok (.iconst 0, 1) := by decide +kernel
theorem dX10_change_66 : decode cX10_change 66 = .ok (.ireturn, 1) := by decide +kernel
theorem dX10_change_67 : decode cX10_change 67 = .ok (.aload_n 2, 1) := by decide +kernel
theorem dX10_change_68 : decode cX10_change 68 = .ok (.iload_n 3, 1) := by decide +kernel
theorem dX10_change_69 : decode cX10_change 69 = .ok (.invokevirtual 201, 3) := by decide +kernel
theorem dX10_change_72 : decode cX10_change 72 = .ok (.iconst 0, 1) := by decide +kernel
theorem dX10_change_73 : decode cX10_change 73 = .ok (.ireturn, 1) := by decide +kernel
theorem dX10_change_74 : decode cX10_change 74 = .ok (.aload_n 2, 1) := by decide +kernel
theorem dX10_change_75 : decode cX10_change 75 = .ok (.iload_n 3, 1) := by decide +kernel
theorem dX10_change_76 : decode cX10_change 76 = .ok (.iload 4, 2) := by decide +kernel
theorem dX10_change_78 : decode cX10_change 78 = .ok (.invokevirtual 204, 3) := by decide +kernel
theorem dX10_change_81 : decode cX10_change 81 = .ok (.ifCond .eq 7, 3) := by decide +kernel
theorem dX10_change_84 : decode cX10_change 84 = .ok (.iconst 0, 1) := by decide +kernel
theorem dX10_change_85 : decode cX10_change 85 = .ok (.goto 4, 3) := by decide +kernel
theorem dX10_change_88 : decode cX10_change 88 = .ok (.iconst 5, 1) := by decide +kernel
theorem dX10_change_89 : decode cX10_change 89 = .ok (.ireturn, 1) := by decide +kernel
theorem dX10_change_90 : decode cX10_change 90 = .ok (.iconst 0, 1) := by decide +kernel
theorem dX10_change_91 : decode cX10_change 91 = .ok (.ireturn, 1) := by decide +kernel
theorem dX10_weaveCell_0 : decode cX10_weaveCell 0 = .ok (.aload_n 0, 1) := by decide +kernel
theorem dX10_weaveCell_1 : decode cX10_weaveCell 1 = .ok (.getfield 10, 3) := by decide +kernel
theorem dX10_weaveCell_4 : decode cX10_weaveCell 4 = .ok (.iload_n 1, 1) := by decide +kernel
theorem dX10_weaveCell_5 : decode cX10_weaveCell 5 = .ok (.iconst 3, 1) := by decide +kernel
theorem dX10_weaveCell_6 : decode cX10_weaveCell 6 = .ok (.invokevirtual 70, 3) := by decide +kernel
theorem dX10_weaveCell_9 : decode cX10_weaveCell 9 = .ok (.astore 5, 2) := by decide +kernel
theorem dX10_weaveCell_11 : decode cX10_weaveCell 11 = .ok (.aload 5, 2) := by decide +kernel
theorem dX10_weaveCell_13 : decode cX10_weaveCell 13 = .ok (.ifnull 12, 3) := by decide +kernel
theorem dX10_weaveCell_16 : decode cX10_weaveCell 16 = .ok (.aload 5, 2) := by decide +kernel
theorem dX10_weaveCell_18 : decode cX10_weaveCell 18 = .ok (.iload_n 3, 1) := by decide +kernel
theorem dX10_weaveCell_19 : decode cX10_weaveCell 19 = .ok (.invokevirtual 107, 3) := by decide +kernel
theorem dX10_weaveCell_22 : decode cX10_weaveCell 22 = .ok (.ifCond .ne 9, 3) := by decide +kernel
theorem dX10_weaveCell_25 : decode cX10_weaveCell 25 = .ok (.aload 5, 2) := by decide +kernel
theorem dX10_weaveCell_27 : decode cX10_weaveCell 27 = .ok (.invokestatic 207, 3) := by decide +kernel
theorem dX10_weaveCell_30 : decode cX10_weaveCell 30 = .ok (.ireturn, 1) := by decide +kernel
theorem dX10_weaveCell_31 : decode cX10_weaveCell 31 = .ok (.iload 4, 2) := by decide +kernel
theorem dX10_weaveCell_33 : decode cX10_weaveCell 33 = .ok (.istore 6, 2) := by decide +kernel
theorem dX10_weaveCell_35 : decode cX10_weaveCell 35 = .ok (.aload 5, 2) := by decide +kernel
theorem dX10_weaveCell_37 : decode cX10_weaveCell 37 = .ok (.iload_n 3, 1) := by decide +kernel
theorem dX10_weaveCell_38 : decode cX10_weaveCell 38 = .ok (.invokevirtual 110, 3) := by decide +kernel
theorem dX10_weaveCell_41 : decode cX10_weaveCell 41 = .ok (.iconst 1, 1) := by decide +kernel
theorem dX10_weaveCell_42 : decode cX10_weaveCell 42 = .ok (.if_icmp .ne 42, 3) := by decide +kernel
theorem dX10_weaveCell_45 : decode cX10_weaveCell 45 = .ok (.aload_n 0, 1) := by decide +kernel
theorem dX10_weaveCell_46 : decode cX10_weaveCell 46 = .ok (.getfield 10, 3) := by decide +kernel
theorem dX10_weaveCell_49 : decode cX10_weaveCell 49 = .ok (.iload_n 1, 1) := by decide +kernel
theorem dX10_weaveCell_50 : decode cX10_weaveCell 50 = .ok (.iconst 0, 1) := by decide +kernel
theorem dX10_weaveCell_51 : decode cX10_weaveCell 51 = .ok (.invokevirtual 70, 3) := by decide +kernel
theorem dX10_weaveCell_54 : decode cX10_weaveCell 54 = .ok (.astore 7, 2) := by decide +kernel
theorem dX10_weaveCell_56 : decode cX10_weaveCell 56 = .ok (.aload 7, 2) := by decide +kernel
theorem dX10_weaveCell_58 : decode cX10_weaveCell 58 = .ok (.ifnull 12, 3) := by decide +kernel
theorem dX10_weaveCell_61 : decode cX10_weaveCell 61 = .ok (.aload 7, 2) := by decide +kernel
theorem dX10_weaveCell_63 : decode cX10_weaveCell 63 = .ok (.iload_n 3, 1) := by decide +kernel
theorem dX10_weaveCell_64 : decode cX10_weaveCell 64 = .ok (.invokevirtual 107, 3) := by decide +kernel
theorem dX10_weaveCell_67 : decode cX10_weaveCell 67 = .ok (.ifCond .ne 9, 3) := by decide +kernel
theorem dX10_weaveCell_70 : decode cX10_weaveCell 70 = .ok (.aload 7, 2) := by decide +kernel
theorem dX10_weaveCell_72 : decode cX10_weaveCell 72 = .ok (.invokestatic 207, 3) := by decide +kernel
theorem dX10_weaveCell_75 : decode cX10_weaveCell 75 = .ok (.ireturn, 1) := by decide +kernel
theorem dX10_weaveCell_76 : decode cX10_weaveCell 76 = .ok (.aload 7, 2) := by decide +kernel
theorem dX10_weaveCell_78 : decode cX10_weaveCell 78 = .ok (.iload_n 3, 1) := by decide +kernel
theorem dX10_weaveCell_79 : decode cX10_weaveCell 79 = .ok (.invokevirtual 110, 3) := by decide +kernel
theorem dX10_weaveCell_82 : decode cX10_weaveCell 82 = .ok (.istore 6, 2) := by decide +kernel
theorem dX10_weaveCell_84 : decode cX10_weaveCell 84 = .ok (.aload_n 0, 1) := by decide +kernel
theorem dX10_weaveCell_85 : decode cX10_weaveCell 85 = .ok (.getfield 10, 3) := by decide +kernel
theorem dX10_weaveCell_88 : decode cX10_weaveCell 88 = .ok (.iload_n 1, 1) := by decide +kernel
theorem dX10_weaveCell_89 : decode cX10_weaveCell 89 = .ok (.iconst 1, 1) := by decide +kernel
theorem dX10_weaveCell_90 : decode cX10_weaveCell 90 = .ok (.invokevirtual 70, 3) := by decide +kernel
theorem dX10_weaveCell_93 : decode cX10_weaveCell 93 = .ok (.astore 7, 2) := by decide +kernel
theorem dX10_weaveCell_95 : decode cX10_weaveCell 95 = .ok (.aload 7, 2) := by decide +kernel
theorem dX10_weaveCell_97 : decode cX10_weaveCell 97 = .ok (.ifnull 12, 3) := by decide +kernel
theorem dX10_weaveCell_100 : decode cX10_weaveCell 100 = .ok (.aload 7, 2) := by decide +kernel
theorem dX10_weaveCell_102 : decode cX10_weaveCell 102 = .ok (.iload_n 3, 1) := by decide +kernel
theorem dX10_weaveCell_103 : decode cX10_weaveCell 103 = .ok (.invokevirtual 107, 3) := by decide +kernel
theorem dX10_weaveCell_106 : decode cX10_weaveCell 106 = .ok (.ifCond .ne 9, 3) := by decide +kernel
theorem dX10_weaveCell_109 : decode cX10_weaveCell 109 = .ok (.aload 7, 2) := by decide +kernel
theorem dX10_weaveCell_111 : decode cX10_weaveCell 111 = .ok (.invokestatic 207, 3) := by decide +kernel
theorem dX10_weaveCell_114 : decode cX10_weaveCell 114 = .ok (.ireturn, 1) := by decide +kernel
theorem dX10_weaveCell_115 : decode cX10_weaveCell 115 = .ok (.aload 7, 2) := by decide +kernel
theorem dX10_weaveCell_117 : decode cX10_weaveCell 117 = .ok (.iload_n 3, 1) := by decide +kernel
theorem dX10_weaveCell_118 : decode cX10_weaveCell 118 = .ok (.iconst (-1), 1) := by decide +kernel
theorem dX10_weaveCell_119 : decode cX10_weaveCell 119 = .ok (.invokevirtual 198, 3) := by decide +kernel
theorem dX10_weaveCell_122 : decode cX10_weaveCell 122 = .ok (.aload_n 0, 1) := by decide +kernel
theorem dX10_weaveCell_123 : decode cX10_weaveCell 123 = .ok (.getfield 26, 3) := by decide +kernel
theorem dX10_weaveCell_126 : decode cX10_weaveCell 126 = .ok (.iload_n 2, 1) := by decide +kernel
theorem dX10_weaveCell_127 : decode cX10_weaveCell 127 = .ok (.iload_n 3, 1) := by decide +kernel
theorem dX10_weaveCell_128 : decode cX10_weaveCell 128 = .ok (.iload 6, 2) := by decide +kernel
theorem dX10_weaveCell_130 : decode cX10_weaveCell 130 = .ok (.invokevirtual 211, 3) := by decide +kernel
theorem dX10_weaveCell_133 : decode cX10_weaveCell 133 = .ok (.iconst 0, 1) := by decide +kernel
theorem dX10_weaveCell_134 : decode cX10_weaveCell 134 = .ok (.ireturn, 1) := by decide +kernel
theorem dX10_faultAtEnd_0 : decode cX10_faultAtEnd 0 = .ok (.aload_n 0, 1) := by decide +kernel
theorem dX10_faultAtEnd_1 : decode cX10_faultAtEnd 1 = .ok (.ifnonnull 7, 3) := by decide +kernel
theorem dX10_faultAtEnd_4 : decode cX10_faultAtEnd 4 = .ok (.iconst 1, 1) := by decide +kernel
theorem dX10_faultAtEnd_5 : decode cX10_faultAtEnd 5 = .ok (.goto 4, 3) := by decide +kernel
theorem dX10_faultAtEnd_8 : decode cX10_faultAtEnd 8 = .ok (.iconst 2, 1) := by decide +kernel
theorem dX10_faultAtEnd_9 : decode cX10_faultAtEnd 9 = .ok (.ireturn, 1) := by decide +kernel
theorem dX11_init_0 : decode cX11_init 0 = .ok (.aload_n 0, 1) := by decide +kernel
theorem dX11_init_1 : decode cX11_init 1 = .ok (.invokespecial 1, 3) := by decide +kernel
theorem dX11_init_4 : decode cX11_init 4 = .ok (.aload_n 0, 1) := by decide +kernel
theorem dX11_init_5 : decode cX11_init 5 = .ok (.bipush 20, 2) := by decide +kernel
theorem dX11_init_7 : decode cX11_init 7 = .ok (.newarray .int, 2) := by decide +kernel
theorem dX11_init_9 : decode cX11_init 9 = .ok (.putfield 7, 3) := by decide +kernel
theorem dX11_init_12 : decode cX11_init 12 = .ok (.aload_n 0, 1) := by decide +kernel
theorem dX11_init_13 : decode cX11_init 13 = .ok (.bipush 20, 2) := by decide +kernel
theorem dX11_init_15 : decode cX11_init 15 = .ok (.newarray .int, 2) := by decide +kernel
theorem dX11_init_17 : decode cX11_init 17 = .ok (.putfield 13, 3) := by decide +kernel
theorem dX11_init_20 : decode cX11_init 20 = .ok (.aload_n 0, 1) := by decide +kernel
theorem dX11_init_21 : decode cX11_init 21 = .ok (.sipush 480, 3) := by decide +kernel
theorem dX11_init_24 : decode cX11_init 24 = .ok (.newarray .int, 2) := by decide +kernel
theorem dX11_init_26 : decode cX11_init 26 = .ok (.putfield 16, 3) := by decide +kernel
theorem dX11_init_29 : decode cX11_init 29 = .ok (.aload_n 0, 1) := by decide +kernel
theorem dX11_init_30 : decode cX11_init 30 = .ok (.sipush 480, 3) := by decide +kernel
theorem dX11_init_33 : decode cX11_init 33 = .ok (.newarray .float, 2) := by decide +kernel
theorem dX11_init_35 : decode cX11_init 35 = .ok (.putfield 19, 3) := by decide +kernel
theorem dX11_init_38 : decode cX11_init 38 = .ok (.aload_n 0, 1) := by decide +kernel
theorem dX11_init_39 : decode cX11_init 39 = .ok (.bipush 16, 2) := by decide +kernel
theorem dX11_init_41 : decode cX11_init 41 = .ok (.newarray .int, 2) := by decide +kernel
theorem dX11_init_43 : decode cX11_init 43 = .ok (.putfield 23, 3) := by decide +kernel
theorem dX11_init_46 : decode cX11_init 46 = .ok (.aload_n 0, 1) := by decide +kernel
theorem dX11_init_47 : decode cX11_init 47 = .ok (.bipush 24, 2) := by decide +kernel
theorem dX11_init_49 : decode cX11_init 49 = .ok (.newarray .int, 2) := by decide +kernel
theorem dX11_init_51 : decode cX11_init 51 = .ok (.putfield 26, 3) := by decide +kernel
theorem dX11_init_54 : decode cX11_init 54 = .ok (.aload_n 0, 1) := by decide +kernel
theorem dX11_init_55 : decode cX11_init 55 = .ok (.sipush 576, 3) := by decide +kernel
theorem dX11_init_58 : decode cX11_init 58 = .ok (.newarray .int, 2) := by decide +kernel
theorem dX11_init_60 : decode cX11_init 60 = .ok (.putfield 29, 3) := by decide +kernel
theorem dX11_init_63 : decode cX11_init 63 = .ok (.aload_n 0, 1) := by decide +kernel
theorem dX11_init_64 : decode cX11_init 64 = .ok (.bipush 60, 2) := by decide +kernel
theorem dX11_init_66 : decode cX11_init 66 = .ok (.newarray .int, 2) := by decide +kernel
theorem dX11_init_68 : decode cX11_init 68 = .ok (.putfield 32, 3) := by decide +kernel
theorem dX11_init_71 : decode cX11_init 71 = .ok (.aload_n 0, 1) := by decide +kernel
theorem dX11_init_72 : decode cX11_init 72 = .ok (.bipush 6, 2) := by decide +kernel
theorem dX11_init_74 : decode cX11_init 74 = .ok (.newarray .int, 2) := by decide +kernel
theorem dX11_init_76 : decode cX11_init 76 = .ok (.putfield 35, 3) := by decide +kernel
theorem dX11_init_79 : decode cX11_init 79 = .ok (.iconst 0, 1) := by decide +kernel
theorem dX11_init_80 : decode cX11_init 80 = .ok (.istore_n 1, 1) := by decide +kernel
theorem dX11_init_81 : decode cX11_init 81 = .ok (.iload_n 1, 1) := by decide +kernel
theorem dX11_init_82 : decode cX11_init 82 = .ok (.bipush 20, 2) := by decide +kernel
theorem dX11_init_84 : decode cX11_init 84 = .ok (.if_icmp .ge 16, 3) := by decide +kernel
theorem dX11_init_87 : decode cX11_init 87 = .ok (.aload_n 0, 1) := by decide +kernel
theorem dX11_init_88 : decode cX11_init 88 = .ok (.getfield 7, 3) := by decide +kernel
theorem dX11_init_91 : decode cX11_init 91 = .ok (.iload_n 1, 1) := by decide +kernel
theorem dX11_init_92 : decode cX11_init 92 = .ok (.iconst (-1), 1) := by decide +kernel
theorem dX11_init_93 : decode cX11_init 93 = .ok (.iastore, 1) := by decide +kernel
theorem dX11_init_94 : decode cX11_init 94 = .ok (.iinc 1 1, 3) := by decide +kernel
theorem dX11_init_97 : decode cX11_init 97 = .ok (.goto (-16), 3) := by decide +kernel
theorem dX11_init_100 : decode cX11_init 100 = .ok (.return_, 1) := by decide +kernel
theorem dX11_isFrame_0 : decode cX11_isFrame 0 = .ok (.iload_n 0, 1) := by decide +kernel
theorem dX11_isFrame_1 : decode cX11_isFrame 1 = .ok (.ifCond .lt 12, 3) := by decide +kernel
theorem dX11_isFrame_4 : decode cX11_isFrame 4 = .ok (.iload_n 0, 1) := by decide +kernel
theorem dX11_isFrame_5 : decode cX11_isFrame 5 = .ok (.iconst 4, 1) := by decide +kernel
theorem dX11_isFrame_6 : decode cX11_isFrame 6 = .ok (.if_icmp .ge 7, 3) := by decide +kernel
theorem dX11_isFrame_9 : decode cX11_isFrame 9 = .ok (.iconst 1, 1) := by decide +kernel
theorem dX11_isFrame_10 : decode cX11_isFrame 10 = .ok (.goto 4, 3) := by decide +kernel
theorem dX11_isFrame_13 : decode cX11_isFrame 13 = .ok (.iconst 0, 1) := by decide +kernel
theorem dX11_isFrame_14 : decode cX11_isFrame 14 = .ok (.ireturn, 1) := by decide +kernel
theorem dX11_isLane_0 : decode cX11_isLane 0 = .ok (.iload_n 0, 1) := by decide +kernel
theorem dX11_isLane_1 : decode cX11_isLane 1 = .ok (.invokestatic 38, 3) := by decide +kernel
theorem dX11_isLane_4 : decode cX11_isLane 4 = .ok (.ifCond .eq 16, 3) := by decide +kernel
theorem dX11_isLane_7 : decode cX11_isLane 7 = .ok (.iload_n 1, 1) := by decide +kernel
theorem dX11_isLane_8 : decode cX11_isLane 8 = .ok (.ifCond .lt 12, 3) := by decide +kernel
theorem dX11_isLane_11 : decode cX11_isLane 11 = .ok (.iload_n 1, 1) := by decide +kernel
theorem dX11_isLane_12 : decode cX11_isLane 12 = .ok (.iconst 5, 1) := by decide +kernel
theorem dX11_isLane_13 : decode cX11_isLane 13 = .ok (.if_icmp .ge 7, 3) := by decide +kernel
theorem dX11_isLane_16 : decode cX11_isLane 16 = .ok (.iconst 1, 1) := by decide +kernel
theorem dX11_isLane_17 : decode cX11_isLane 17 = .ok (.goto 4, 3) := by decide +kernel
theorem dX11_isLane_20 : decode cX11_isLane 20 = .ok (.iconst 0, 1) := by decide +kernel
theorem dX11_isLane_21 : decode cX11_isLane 21 = .ok (.ireturn, 1) := by decide +kernel
theorem dX11_bad_0 : decode cX11_bad 0 = .ok (.aload_n 0, 1) := by decide +kernel
theorem dX11_bad_1 : decode cX11_bad 1 = .ok (.iload_n 1, 1) := by decide +kernel
theorem dX11_bad_2 : decode cX11_bad 2 = .ok (.putfield 42, 3) := by decide +kernel
theorem dX11_bad_5 : decode cX11_bad 5 = .ok (.aload_n 0, 1) := by decide +kernel
theorem dX11_bad_6 : decode cX11_bad 6 = .ok (.getfield 35, 3) := by decide +kernel
theorem dX11_bad_9 : decode cX11_bad 9 = .ok (.iload_n 1, 1) := by decide +kernel
theorem dX11_bad_10 : decode cX11_bad 10 = .ok (.dup2, 1) := by decide +kernel
theorem dX11_bad_11 : decode cX11_bad 11 = .ok (.iaload, 1) := by decide +kernel
theorem dX11_bad_12 : decode cX11_bad 12 = .ok (.iconst 1, 1) := by decide +kernel
theorem dX11_bad_13 : decode cX11_bad 13 = .ok (.iadd, 1) := by decide +kernel
theorem dX11_bad_14 : decode cX11_bad 14 = .ok (.iastore, 1) := by decide +kernel
theorem dX11_bad_15 : decode cX11_bad 15 = .ok (.iconst 0, 1) := by decide +kernel
theorem dX11_bad_16 : decode cX11_bad 16 = .ok (.ireturn, 1) := by decide +kernel
theorem dX11_good_0 : decode cX11_good 0 = .ok (.aload_n 0, 1) := by decide +kernel
theorem dX11_good_1 : decode cX11_good 1 = .ok (.iconst 0, 1) := by decide +kernel
theorem dX11_good_2 : decode cX11_good 2 = .ok (.putfield 42, 3) := by decide +kernel
theorem dX11_good_5 : decode cX11_good 5 = .ok (.iload_n 1, 1) := by decide +kernel
theorem dX11_good_6 : decode cX11_good 6 = .ok (.ireturn, 1) := by decide +kernel
theorem dX11_wrong_0 : decode cX11_wrong 0 = .ok (.aload_n 0, 1) := by decide +kernel
theorem dX11_wrong_1 : decode cX11_wrong 1 = .ok (.getfield 7, 3) := by decide +kernel
theorem dX11_wrong_4 : decode cX11_wrong 4 = .ok (.iload_n 1, 1) := by decide +kernel
theorem dX11_wrong_5 : decode cX11_wrong 5 = .ok (.iaload, 1) := by decide +kernel
theorem dX11_wrong_6 : decode cX11_wrong 6 = .ok (.iconst (-1), 1) := by decide +kernel
theorem dX11_wrong_7 : decode cX11_wrong 7 = .ok (.if_icmp .ne 5, 3) := by decide +kernel
theorem dX11_wrong_10 : decode cX11_wrong 10 = .ok (.iconst 1, 1) := by decide +kernel
theorem dX11_wrong_11 : decode cX11_wrong 11 = .ok (.ireturn, 1) := by decide +kernel
theorem dX11_wrong_12 : decode cX11_wrong 12 = .ok (.iload_n 2, 1) := by decide +kernel
theorem dX11_wrong_13 : decode cX11_wrong 13 = .ok (.ifCond .lt 18, 3) := by decide +kernel
theorem dX11_wrong_16 : decode cX11_wrong 16 = .ok (.iload_n 2, 1) := by decide +kernel
theorem dX11_wrong_17 : decode cX11_wrong 17 = .ok (.aload_n 0, 1) := by decide +kernel
theorem dX11_wrong_18 : decode cX11_wrong 18 = .ok (.getfield 13, 3) := by decide +kernel
theorem dX11_wrong_21 : decode cX11_wrong 21 = .ok (.aload_n 0, 1) := by decide +kernel
theorem dX11_wrong_22 : decode cX11_wrong 22 = .ok (.getfield 7, 3) := by decide +kernel
theorem dX11_wrong_25 : decode cX11_wrong 25 = .ok (.iload_n 1, 1) := by decide +kernel
theorem dX11_wrong_26 : decode cX11_wrong 26 = .ok (.iaload, 1) := by decide +kernel
theorem dX11_wrong_27 : decode cX11_wrong 27 = .ok (.iaload, 1) := by decide +kernel
theorem dX11_wrong_28 : decode cX11_wrong 28 = .ok (.if_icmp .lt 7, 3) := by decide +kernel
theorem dX11_wrong_31 : decode cX11_wrong 31 = .ok (.iconst 2, 1) := by decide +kernel
theorem dX11_wrong_32 : decode cX11_wrong 32 = .ok (.goto 4, 3) := by decide +kernel
theorem dX11_wrong_35 : decode cX11_wrong 35 = .ok (.iconst 0, 1) := by decide +kernel
theorem dX11_wrong_36 : decode cX11_wrong 36 = .ok (.ireturn, 1) := by decide +kernel
theorem dX11_thread_0 : decode cX11_thread 0 = .ok (.iload_n 1, 1) := by decide +kernel
theorem dX11_thread_1 : decode cX11_thread 1 = .ok (.iload_n 2, 1) := by decide +kernel
theorem dX11_thread_2 : decode cX11_thread 2 = .ok (.invokestatic 46, 3) := by decide +kernel
theorem dX11_thread_5 : decode cX11_thread 5 = .ok (.ifCond .eq 9, 3) := by decide +kernel
theorem dX11_thread_8 : decode cX11_thread 8 = .ok (.iload_n 3, 1) := by decide +kernel
theorem dX11_thread_9 : decode cX11_thread 9 = .ok (.bipush 24, 2) := by decide +kernel
theorem dX11_thread_11 : decode cX11_thread 11 = .ok (.if_icmp .le 6, 3) := by decide +kernel
theorem dX11_thread_14 : decode cX11_thread 14 = .ok (.ldc 50, 2) := by decide +kernel
theorem dX11_thread_16 : decode cX11_thread 16 = .ok (.ireturn, 1) := by decide +kernel
theorem dX11_thread_17 : decode cX11_thread 17 = .ok (.iload_n 3, 1) := by decide +kernel
theorem dX11_thread_18 : decode cX11_thread 18 = .ok (.ifCond .ge 9, 3) := by decide +kernel
theorem dX11_thread_21 : decode cX11_thread 21 = .ok (.aload_n 0, 1) := by decide +kernel
theorem dX11_thread_22 : decode cX11_thread 22 = .ok (.iconst 3, 1) := by decide +kernel
theorem dX11_thread_23 : decode cX11_thread 23 = .ok (.invokevirtual 51, 3) := by decide +kernel
theorem dX11_thread_26 : decode cX11_thread 26 = .ok (.ireturn, 1) := by decide +kernel
theorem dX11_thread_27 : decode cX11_thread 27 = .ok (.iconst 5, 1) := by decide +kernel
theorem dX11_thread_28 : decode cX11_thread 28 = .ok (.iload_n 1, 1) := by decide +kernel
theorem dX11_thread_29 : decode cX11_thread 29 = .ok (.imul, 1) := by decide +kernel
theorem dX11_thread_30 : decode cX11_thread 30 = .ok (.iload_n 2, 1) := by decide +kernel
theorem dX11_thread_31 : decode cX11_thread 31 = .ok (.iadd, 1) := by decide +kernel
theorem dX11_thread_32 : decode cX11_thread 32 = .ok (.istore 4, 2) := by decide +kernel
theorem dX11_thread_34 : decode cX11_thread 34 = .ok (.aload_n 0, 1) := by decide +kernel
theorem dX11_thread_35 : decode cX11_thread 35 = .ok (.getfield 7, 3) := by decide +kernel
theorem dX11_thread_38 : decode cX11_thread 38 = .ok (.iload 4, 2) := by decide +kernel
theorem dX11_thread_40 : decode cX11_thread 40 = .ok (.iconst (-1), 1) := by decide +kernel
theorem dX11_thread_41 : decode cX11_thread 41 = .ok (.iastore, 1) := by decide +kernel
theorem dX11_thread_42 : decode cX11_thread 42 = .ok (.iconst 0, 1) := by decide +kernel
theorem dX11_thread_43 : decode cX11_thread 43 = .ok (.istore 5, 2) := by decide +kernel
theorem dX11_thread_45 : decode cX11_thread 45 = .ok (.aload_n 0, 1) := by decide +kernel
theorem dX11_thread_46 : decode cX11_thread 46 = .ok (.iload 5, 2) := by decide +kernel
theorem dX11_thread_48 : decode cX11_thread 48 = .ok (.invokevirtual 55, 3) := by decide +kernel
theorem dX11_thread_51 : decode cX11_thread 51 = .ok (.ifCond .eq 9, 3) := by decide +kernel
theorem dX11_thread_54 : decode cX11_thread 54 = .ok (.iinc 5 1, 3) := by decide +kernel
theorem dX11_thread_57 : decode cX11_thread 57 = .ok (.goto (-12), 3) := by decide +kernel
theorem dX11_thread_60 : decode cX11_thread 60 = .ok (.aload_n 0, 1) := by decide +kernel
theorem dX11_thread_61 : decode cX11_thread 61 = .ok (.getfield 7, 3) := by decide +kernel
theorem dX11_thread_64 : decode cX11_thread 64 = .ok (.iload 4, 2) := by decide +kernel
theorem dX11_thread_66 : decode cX11_thread 66 = .ok (.iload 5, 2) := by decide +kernel
theorem dX11_thread_68 : decode cX11_thread 68 = .ok (.iastore, 1) := by decide +kernel
theorem dX11_thread_69 : decode cX11_thread 69 = .ok (.aload_n 0, 1) := by decide +kernel
theorem dX11_thread_70 : decode cX11_thread 70 = .ok (.getfield 13, 3) := by decide +kernel
theorem dX11_thread_73 : decode cX11_thread 73 = .ok (.iload 5, 2) := by decide +kernel
theorem dX11_thread_75 : decode cX11_thread 75 = .ok (.iload_n 3, 1) := by decide +kernel
theorem dX11_thread_76 : decode cX11_thread 76 = .ok (.iastore, 1) := by decide +kernel
theorem dX11_thread_77 : decode cX11_thread 77 = .ok (.iconst 0, 1) := by decide +kernel
theorem dX11_thread_78 : decode cX11_thread 78 = .ok (.istore 6, 2) := by decide +kernel
theorem dX11_thread_80 : decode cX11_thread 80 = .ok (.iload 6, 2) := by decide +kernel
theorem dX11_thread_82 : decode cX11_thread 82 = .ok (.bipush 24, 2) := by decide +kernel
theorem dX11_thread_84 : decode cX11_thread 84 = .ok (.if_icmp .ge 37, 3) := by decide +kernel
theorem dX11_thread_87 : decode cX11_thread 87 = .ok (.aload_n 0, 1) := by decide +kernel
theorem dX11_thread_88 : decode cX11_thread 88 = .ok (.getfield 16, 3) := by decide +kernel
theorem dX11_thread_91 : decode cX11_thread 91 = .ok (.bipush 24, 2) := by decide +kernel
theorem dX11_thread_93 : decode cX11_thread 93 = .ok (.iload 5, 2) := by decide +kernel
theorem dX11_thread_95 : decode cX11_thread 95 = .ok (.imul, 1) := by decide +kernel
theorem dX11_thread_96 : decode cX11_thread 96 = .ok (.iload 6, 2) := by decide +kernel
theorem dX11_thread_98 : decode cX11_thread 98 = .ok (.iadd, 1) := by decide +kernel
theorem dX11_thread_99 : decode cX11_thread 99 = .ok (.iconst 0, 1) := by decide +kernel
theorem dX11_thread_100 : decode cX11_thread 100 = .ok (.iastore, 1) := by decide +kernel
theorem dX11_thread_101 : decode cX11_thread 101 = .ok (.aload_n 0, 1) := by decide +kernel
theorem dX11_thread_102 : decode cX11_thread 102 = .ok (.getfield 19, 3) := by decide +kernel
theorem dX11_thread_105 : decode cX11_thread 105 = .ok (.bipush 24, 2) := by decide +kernel
theorem dX11_thread_107 : decode cX11_thread 107 = .ok (.iload 5, 2) := by decide +kernel
theorem dX11_thread_109 : decode cX11_thread 109 = .ok (.imul, 1) := by decide +kernel
theorem dX11_thread_110 : decode cX11_thread 110 = .ok (.iload 6, 2) := by decide +kernel
theorem dX11_thread_112 : decode cX11_thread 112 = .ok (.iadd, 1) := by decide +kernel
theorem dX11_thread_113 : decode cX11_thread 113 = .ok (.fconst 0, 1) := by decide +kernel
theorem dX11_thread_114 : decode cX11_thread 114 = .ok (.fastore, 1) := by decide +kernel
theorem dX11_thread_115 : decode cX11_thread 115 = .ok (.iinc 6 1, 3) := by decide +kernel
theorem dX11_thread_118 : decode cX11_thread 118 = .ok (.goto (-38), 3) := by decide +kernel
theorem dX11_thread_121 : decode cX11_thread 121 = .ok (.aload_n 0, 1) := by decide +kernel
theorem dX11_thread_122 : decode cX11_thread 122 = .ok (.iload_n 3, 1) := by decide +kernel
theorem dX11_thread_123 : decode cX11_thread 123 = .ok (.invokevirtual 58, 3) := by decide +kernel
theorem dX11_thread_126 : decode cX11_thread 126 = .ok (.ireturn, 1) := by decide +kernel
theorem dX11_isUsed_0 : decode cX11_isUsed 0 = .ok (.iconst 0, 1) := by decide +kernel
theorem dX11_isUsed_1 : decode cX11_isUsed 1 = .ok (.istore_n 2, 1) := by decide +kernel
theorem dX11_isUsed_2 : decode cX11_isUsed 2 = .ok (.iconst 0, 1) := by decide +kernel
theorem dX11_isUsed_3 : decode cX11_isUsed 3 = .ok (.istore_n 3, 1) := by decide +kernel
theorem dX11_isUsed_4 : decode cX11_isUsed 4 = .ok (.iload_n 3, 1) := by decide +kernel
theorem dX11_isUsed_5 : decode cX11_isUsed 5 = .ok (.bipush 20, 2) := by decide +kernel
theorem dX11_isUsed_7 : decode cX11_isUsed 7 = .ok (.if_icmp .ge 29, 3) := by decide +kernel
theorem dX11_isUsed_10 : decode cX11_isUsed 10 = .ok (.iload_n 2, 1) := by decide +kernel
theorem dX11_isUsed_11 : decode cX11_isUsed 11 = .ok (.ifCond .ne 13, 3) := by decide +kernel
theorem dX11_isUsed_14 : decode cX11_isUsed 14 = .ok (.aload_n 0, 1) := by decide +kernel
theorem dX11_isUsed_15 : decode cX11_isUsed 15 = .ok (.getfield 7, 3) := by decide +kernel
theorem dX11_isUsed_18 : decode cX11_isUsed 18 = .ok (.iload_n 3, 1) := by decide +kernel
theorem dX11_isUsed_19 : decode cX11_isUsed 19 = .ok (.iaload, 1) := by decide +kernel
theorem dX11_isUsed_20 : decode cX11_isUsed 20 = .ok (.iload_n 1, 1) := by decide +kernel
theorem dX11_isUsed_21 : decode cX11_isUsed 21 = .ok (.if_icmp .ne 7, 3) := by decide +kernel
theorem dX11_isUsed_24 : decode cX11_isUsed 24 = .ok (.iconst 1, 1) := by decide +kernel
theorem dX11_isUsed_25 : decode cX11_isUsed 25 = .ok (.goto 4, 3) := by decide +kernel
theorem dX11_isUsed_28 : decode cX11_isUsed 28 = .ok (.iconst 0, 1) := by decide +kernel
theorem dX11_isUsed_29 : decode cX11_isUsed 29 = .ok (.istore_n 2, 1) := by decide +kernel
theorem dX11_isUsed_30 : decode cX11_isUsed 30 = .ok (.iinc 3 1, 3) := by decide +kernel
theorem dX11_isUsed_33 : decode cX11_isUsed 33 = .ok (.goto (-29), 3) := by decide +kernel
theorem dX11_isUsed_36 : decode cX11_isUsed 36 = .ok (.iload_n 2, 1) := by decide +kernel
theorem dX11_isUsed_37 : decode cX11_isUsed 37 = .ok (.ireturn, 1) := by decide +kernel
theorem dX11_cut_0 : decode cX11_cut 0 = .ok (.iload_n 1, 1) := by decide +kernel
theorem dX11_cut_1 : decode cX11_cut 1 = .ok (.iload_n 2, 1) := by decide +kernel
theorem dX11_cut_2 : decode cX11_cut 2 = .ok (.invokestatic 46, 3) := by decide +kernel
theorem dX11_cut_5 : decode cX11_cut 5 = .ok (.ifCond .ne 6, 3) := by decide +kernel
theorem dX11_cut_8 : decode cX11_cut 8 = .ok (.ldc 50, 2) := by decide +kernel
theorem dX11_cut_10 : decode cX11_cut 10 = .ok (.ireturn, 1) := by decide +kernel
theorem dX11_cut_11 : decode cX11_cut 11 = .ok (.iconst 5, 1) := by decide +kernel
theorem dX11_cut_12 : decode cX11_cut 12 = .ok (.iload_n 1, 1) := by decide +kernel
theorem dX11_cut_13 : decode cX11_cut 13 = .ok (.imul, 1) := by decide +kernel
theorem dX11_cut_14 : decode cX11_cut 14 = .ok (.iload_n 2, 1) := by decide +kernel
theorem dX11_cut_15 : decode cX11_cut 15 = .ok (.iadd, 1) := by decide +kernel
theorem dX11_cut_16 : decode cX11_cut 16 = .ok (.istore_n 3, 1) := by decide +kernel
theorem dX11_cut_17 : decode cX11_cut 17 = .ok (.aload_n 0, 1) := by decide +kernel
theorem dX11_cut_18 : decode cX11_cut 18 = .ok (.getfield 7, 3) := by decide +kernel
theorem dX11_cut_21 : decode cX11_cut 21 = .ok (.iload_n 3, 1) := by decide +kernel
theorem dX11_cut_22 : decode cX11_cut 22 = .ok (.iaload, 1) := by decide +kernel
theorem dX11_cut_23 : decode cX11_cut 23 = .ok (.iconst (-1), 1) := by decide +kernel
theorem dX11_cut_24 : decode cX11_cut 24 = .ok (.if_icmp .ne 7, 3) := by decide +kernel
theorem dX11_cut_27 : decode cX11_cut 27 = .ok (.iconst 0, 1) := by decide +kernel
theorem dX11_cut_28 : decode cX11_cut 28 = .ok (.goto 4, 3) := by decide +kernel
theorem dX11_cut_31 : decode cX11_cut 31 = .ok (.iconst 1, 1) := by decide +kernel
theorem dX11_cut_32 : decode cX11_cut 32 = .ok (.istore 4, 2) := by decide +kernel
theorem dX11_cut_34 : decode cX11_cut 34 = .ok (.aload_n 0, 1) := by decide +kernel
theorem dX11_cut_35 : decode cX11_cut 35 = .ok (.getfield 7, 3) := by decide +kernel
theorem dX11_cut_38 : decode cX11_cut 38 = .ok (.iload_n 3, 1) := by decide +kernel
theorem dX11_cut_39 : decode cX11_cut 39 = .ok (.iconst (-1), 1) := by decide +kernel
theorem dX11_cut_40 : decode cX11_cut 40 = .ok (.iastore, 1) := by decide +kernel
theorem dX11_cut_41 : decode cX11_cut 41 = .ok (.iload 4, 2) := by decide +kernel
theorem dX11_cut_43 : decode cX11_cut 43 = .ok (.ireturn, 1) := by decide +kernel
theorem dX11_tie_0 : decode cX11_tie 0 = .ok (.iload_n 1, 1) := by decide +kernel
theorem dX11_tie_1 : decode cX11_tie 1 = .ok (.iload_n 2, 1) := by decide +kernel
theorem dX11_tie_2 : decode cX11_tie 2 = .ok (.invokestatic 46, 3) := by decide +kernel
theorem dX11_tie_5 : decode cX11_tie 5 = .ok (.ifCond .eq 10, 3) := by decide +kernel
theorem dX11_tie_8 : decode cX11_tie 8 = .ok (.iload_n 3, 1) := by decide +kernel
theorem dX11_tie_9 : decode cX11_tie 9 = .ok (.invokestatic 38, 3) := by decide +kernel
theorem dX11_tie_12 : decode cX11_tie 12 = .ok (.ifCond .ne 6, 3) := by decide +kernel
theorem dX11_tie_15 : decode cX11_tie 15 = .ok (.ldc 50, 2) := by decide +kernel
theorem dX11_tie_17 : decode cX11_tie 17 = .ok (.ireturn, 1) := by decide +kernel
theorem dX11_tie_18 : decode cX11_tie 18 = .ok (.aload_n 0, 1) := by decide +kernel
theorem dX11_tie_19 : decode cX11_tie 19 = .ok (.getfield 7, 3) := by decide +kernel
theorem dX11_tie_22 : decode cX11_tie 22 = .ok (.iconst 5, 1) := by decide +kernel
theorem dX11_tie_23 : decode cX11_tie 23 = .ok (.iload_n 3, 1) := by decide +kernel
theorem dX11_tie_24 : decode cX11_tie 24 = .ok (.imul, 1) := by decide +kernel
theorem dX11_tie_25 : decode cX11_tie 25 = .ok (.iload_n 2, 1) := by decide +kernel
theorem dX11_tie_26 : decode cX11_tie 26 = .ok (.iadd, 1) := by decide +kernel
theorem dX11_tie_27 : decode cX11_tie 27 = .ok (.iaload, 1) := by decide +kernel
theorem dX11_tie_28 : decode cX11_tie 28 = .ok (.istore 4, 2) := by decide +kernel
theorem dX11_tie_30 : decode cX11_tie 30 = .ok (.aload_n 0, 1) := by decide +kernel
theorem dX11_tie_31 : decode cX11_tie 31 = .ok (.getfield 7, 3) := by decide +kernel
theorem dX11_tie_34 : decode cX11_tie 34 = .ok (.iconst 5, 1) := by decide +kernel
theorem dX11_tie_35 : decode cX11_tie 35 = .ok (.iload_n 1, 1) := by decide +kernel
theorem dX11_tie_36 : decode cX11_tie 36 = .ok (.imul, 1) := by decide +kernel
theorem dX11_tie_37 : decode cX11_tie 37 = .ok (.iload_n 2, 1) := by decide +kernel
theorem dX11_tie_38 : decode cX11_tie 38 = .ok (.iadd, 1) := by decide +kernel
theorem dX11_tie_39 : decode cX11_tie 39 = .ok (.iload 4, 2) := by decide +kernel
theorem dX11_tie_41 : decode cX11_tie 41 = .ok (.iastore, 1) := by decide +kernel
theorem dX11_tie_42 : decode cX11_tie 42 = .ok (.aload_n 0, 1) := by decide +kernel
theorem dX11_tie_43 : decode cX11_tie 43 = .ok (.iload 4, 2) := by decide +kernel
theorem dX11_tie_45 : decode cX11_tie 45 = .ok (.iconst (-1), 1) := by decide +kernel
theorem dX11_tie_46 : decode cX11_tie 46 = .ok (.if_icmp .ne 7, 3) := by decide +kernel
theorem dX11_tie_49 : decode cX11_tie 49 = .ok (.iconst 0, 1) := by decide +kernel
theorem dX11_tie_50 : decode cX11_tie 50 = .ok (.goto 10, 3) := by decide +kernel
theorem dX11_tie_53 : decode cX11_tie 53 = .ok (.aload_n 0, 1) := by decide +kernel
theorem dX11_tie_54 : decode cX11_tie 54 = .ok (.getfield 13, 3) := by decide +kernel
theorem dX11_tie_57 : decode cX11_tie 57 = .ok (.iload 4, 2) := by decide +kernel
theorem dX11_tie_59 : decode cX11_tie 59 = .ok (.iaload, 1) := by decide +kernel
theorem dX11_tie_60 : decode cX11_tie 60 = .ok (.invokevirtual 58, 3) := by decide +kernel
theorem dX11_tie_63 : decode cX11_tie 63 = .ok (.ireturn, 1) := by decide +kernel
theorem dX11_ends_0 : decode cX11_ends 0 = .ok (.iload_n 1, 1) := by decide +kernel
theorem dX11_ends_1 : decode cX11_ends 1 = .ok (.iload_n 2, 1) := by decide +kernel
theorem dX11_ends_2 : decode cX11_ends 2 = .ok (.invokestatic 46, 3) := by decide +kernel
theorem dX11_ends_5 : decode cX11_ends 5 = .ok (.ifCond .ne 6, 3) := by decide +kernel
theorem dX11_ends_8 : decode cX11_ends 8 = .ok (.ldc 50, 2) := by decide +kernel
theorem dX11_ends_10 : decode cX11_ends 10 = .ok (.ireturn, 1) := by decide +kernel
theorem dX11_ends_11 : decode cX11_ends 11 = .ok (.aload_n 0, 1) := by decide +kernel
theorem dX11_ends_12 : decode cX11_ends 12 = .ok (.getfield 7, 3) := by decide +kernel
theorem dX11_ends_15 : decode cX11_ends 15 = .ok (.iconst 5, 1) := by decide +kernel
theorem dX11_ends_16 : decode cX11_ends 16 = .ok (.iload_n 1, 1) := by decide +kernel
theorem dX11_ends_17 : decode cX11_ends 17 = .ok (.imul, 1) := by decide +kernel
theorem dX11_ends_18 : decode cX11_ends 18 = .ok (.iload_n 2, 1) := by decide +kernel
theorem dX11_ends_19 : decode cX11_ends 19 = .ok (.iadd, 1) := by decide +kernel
theorem dX11_ends_20 : decode cX11_ends 20 = .ok (.iaload, 1) := by decide +kernel
theorem dX11_ends_21 : decode cX11_ends 21 = .ok (.istore_n 3, 1) := by decide +kernel
theorem dX11_ends_22 : decode cX11_ends 22 = .ok (.iload_n 3, 1) := by decide +kernel
theorem dX11_ends_23 : decode cX11_ends 23 = .ok (.iconst (-1), 1) := by decide +kernel
theorem dX11_ends_24 : decode cX11_ends 24 = .ok (.if_icmp .ne 11, 3) := by decide +kernel
theorem dX11_ends_27 : decode cX11_ends 27 = .ok (.aload_n 0, 1) := by decide +kernel
theorem dX11_ends_28 : decode cX11_ends 28 = .ok (.iconst 1, 1) := by decide +kernel
theorem dX11_ends_29 : decode cX11_ends 29 = .ok (.invokevirtual 51, 3) := by decide +kernel
theorem dX11_ends_32 : decode cX11_ends 32 = .ok (.goto 13, 3) := by decide +kernel
theorem dX11_ends_35 : decode cX11_ends 35 = .ok (.aload_n 0, 1) := by decide +kernel
theorem dX11_ends_36 : decode cX11_ends 36 = .ok (.aload_n 0, 1) := by decide +kernel
theorem dX11_ends_37 : decode cX11_ends 37 = .ok (.getfield 13, 3) := by decide +kernel
theorem dX11_ends_40 : decode cX11_ends 40 = .ok (.iload_n 3, 1) := by decide +kernel
theorem dX11_ends_41 : decode cX11_ends 41 = .ok (.iaload, 1) := by decide +kernel
theorem dX11_ends_42 : decode cX11_ends 42 = .ok (.invokevirtual 58, 3) := by decide +kernel
theorem dX11_ends_45 : decode cX11_ends 45 = .ok (.ireturn, 1) := by decide +kernel
theorem dX11_spool_0 : decode cX11_spool 0 = .ok (.aload_n 0, 1) := by decide +kernel
theorem dX11_spool_1 : decode cX11_spool 1 = .ok (.getfield 61, 3) := by decide +kernel
theorem dX11_spool_4 : decode cX11_spool 4 = .ok (.bipush 16, 2) := by decide +kernel
theorem dX11_spool_6 : decode cX11_spool 6 = .ok (.if_icmp .ne 6, 3) := by decide +kernel
theorem dX11_spool_9 : decode cX11_spool 9 = .ok (.ldc 50, 2) := by decide +kernel
theorem dX11_spool_11 : decode cX11_spool 11 = .ok (.ireturn, 1) := by decide +kernel
theorem dX11_spool_12 : decode cX11_spool 12 = .ok (.aload_n 0, 1) := by decide +kernel
theorem dX11_spool_13 : decode cX11_spool 13 = .ok (.getfield 23, 3) := by decide +kernel
theorem dX11_spool_16 : decode cX11_spool 16 = .ok (.aload_n 0, 1) := by decide +kernel
theorem dX11_spool_17 : decode cX11_spool 17 = .ok (.getfield 61, 3) := by decide +kernel
theorem dX11_spool_20 : decode cX11_spool 20 = .ok (.iload_n 1, 1) := by decide +kernel
theorem dX11_spool_21 : decode cX11_spool 21 = .ok (.iastore, 1) := by decide +kernel
theorem dX11_spool_22 : decode cX11_spool 22 = .ok (.aload_n 0, 1) := by decide +kernel
theorem dX11_spool_23 : decode cX11_spool 23 = .ok (.dup, 1) := by decide +kernel
theorem dX11_spool_24 : decode cX11_spool 24 = .ok (.getfield 61, 3) := by decide +kernel
theorem dX11_spool_27 : decode cX11_spool 27 = .ok (.iconst 1, 1) := by decide +kernel
theorem dX11_spool_28 : decode cX11_spool 28 = .ok (.iadd, 1) := by decide +kernel
theorem dX11_spool_29 : decode cX11_spool 29 = .ok (.putfield 61, 3) := by decide +kernel
theorem dX11_spool_32 : decode cX11_spool 32 = .ok (.aload_n 0, 1) := by decide +kernel
theorem dX11_spool_33 : decode cX11_spool 33 = .ok (.getfield 61, 3) := by decide +kernel
theorem dX11_spool_36 : decode cX11_spool 36 = .ok (.ireturn, 1) := by decide +kernel
theorem dX11_drawn_0 : decode cX11_drawn 0 = .ok (.aload_n 0, 1) := by decide +kernel
theorem dX11_drawn_1 : decode cX11_drawn 1 = .ok (.getfield 23, 3) := by decide +kernel
theorem dX11_drawn_4 : decode cX11_drawn 4 = .ok (.iconst 0, 1) := by decide +kernel
theorem dX11_drawn_5 : decode cX11_drawn 5 = .ok (.iaload, 1) := by decide +kernel
theorem dX11_drawn_6 : decode cX11_drawn 6 = .ok (.istore_n 1, 1) := by decide +kernel
theorem dX11_drawn_7 : decode cX11_drawn 7 = .ok (.aload_n 0, 1) := by decide +kernel
theorem dX11_drawn_8 : decode cX11_drawn 8 = .ok (.dup, 1) := by decide +kernel
theorem dX11_drawn_9 : decode cX11_drawn 9 = .ok (.getfield 61, 3) := by decide +kernel
theorem dX11_drawn_12 : decode cX11_drawn 12 = .ok (.iconst 1, 1) := by decide +kernel
theorem dX11_drawn_13 : decode cX11_drawn 13 = .ok (.isub, 1) := by decide +kernel
theorem dX11_drawn_14 : decode cX11_drawn 14 = .ok (.putfield 61, 3) := by decide +kernel
theorem dX11_drawn_17 : decode cX11_drawn 17 = .ok (.iconst 0, 1) := by decide +kernel
theorem dX11_drawn_18 : decode cX11_drawn 18 = .ok (.istore_n 2, 1) := by decide +kernel
theorem dX11_drawn_19 : decode cX11_drawn 19 = .ok (.iload_n 2, 1) := by decide +kernel
theorem dX11_drawn_20 : decode cX11_drawn 20 = .ok (.aload_n 0, 1) := by decide +kernel
theorem dX11_drawn_21 : decode cX11_drawn 21 = .ok (.getfield 61, 3) := by decide +kernel
theorem dX11_drawn_24 : decode cX11_drawn 24 = .ok (.if_icmp .ge 23, 3) := by decide +kernel
theorem dX11_drawn_27 : decode cX11_drawn 27 = .ok (.aload_n 0, 1) := by decide +kernel
theorem dX11_drawn_28 : decode cX11_drawn 28 = .ok (.getfield 23, 3) := by decide +kernel
theorem dX11_drawn_31 : decode cX11_drawn 31 = .ok (.iload_n 2, 1) := by decide +kernel
theorem dX11_drawn_32 : decode cX11_drawn 32 = .ok (.aload_n 0, 1) := by decide +kernel
theorem dX11_drawn_33 : decode cX11_drawn 33 = .ok (.getfield 23, 3) := by decide +kernel
theorem dX11_drawn_36 : decode cX11_drawn 36 = .ok (.iload_n 2, 1) := by decide +kernel
theorem dX11_drawn_37 : decode cX11_drawn 37 = .ok (.iconst 1, 1) := by decide +kernel
theorem dX11_drawn_38 : decode cX11_drawn 38 = .ok (.iadd, 1) := by decide +kernel
theorem dX11_drawn_39 : decode cX11_drawn 39 = .ok (.iaload, 1) := by decide +kernel
theorem dX11_drawn_40 : decode cX11_drawn 40 = .ok (.iastore, 1) := by decide +kernel
theorem dX11_drawn_41 : decode cX11_drawn 41 = .ok (.iinc 2 1, 3) := by decide +kernel
theorem dX11_drawn_44 : decode cX11_drawn 44 = .ok (.goto (-25), 3) := by decide +kernel
theorem dX11_drawn_47 : decode cX11_drawn 47 = .ok (.iload_n 1, 1) := by decide +kernel
theorem dX11_drawn_48 : decode cX11_drawn 48 = .ok (.ireturn, 1) := by decide +kernel
theorem dX11_cutTo_0 : decode cX11_cutTo 0 = .ok (.iload_n 0, 1) := by decide +kernel
theorem dX11_cutTo_1 : decode cX11_cutTo 1 = .ok (.ifCond .ne 8, 3) := by decide +kernel
theorem dX11_cutTo_4 : decode cX11_cutTo 4 = .ok (.iload_n 1, 1) := by decide +kernel
theorem dX11_cutTo_5 : decode cX11_cutTo 5 = .ok (.ldc 64, 2) := by decide +kernel
theorem dX11_cutTo_7 : decode cX11_cutTo 7 = .ok (.iand, 1) := by decide +kernel
theorem dX11_cutTo_8 : decode cX11_cutTo 8 = .ok (.ireturn, 1) := by decide +kernel
theorem dX11_cutTo_9 : decode cX11_cutTo 9 = .ok (.iload_n 0, 1) := by decide +kernel
theorem dX11_cutTo_10 : decode cX11_cutTo 10 = .ok (.iconst 1, 1) := by decide +kernel
theorem dX11_cutTo_11 : decode cX11_cutTo 11 = .ok (.if_icmp .ne 11, 3) := by decide +kernel
theorem dX11_cutTo_14 : decode cX11_cutTo 14 = .ok (.iload_n 1, 1) := by decide +kernel
theorem dX11_cutTo_15 : decode cX11_cutTo 15 = .ok (.bipush 16, 2) := by decide +kernel
theorem dX11_cutTo_17 : decode cX11_cutTo 17 = .ok (.ishl, 1) := by decide +kernel
theorem dX11_cutTo_18 : decode cX11_cutTo 18 = .ok (.bipush 16, 2) := by decide +kernel
theorem dX11_cutTo_20 : decode cX11_cutTo 20 = .ok (.ishr, 1) := by decide +kernel
theorem dX11_cutTo_21 : decode cX11_cutTo 21 = .ok (.ireturn, 1) := by decide +kernel
theorem dX11_cutTo_22 : decode cX11_cutTo 22 = .ok (.iload_n 0, 1) := by decide +kernel
theorem dX11_cutTo_23 : decode cX11_cutTo 23 = .ok (.iconst 4, 1) := by decide +kernel
theorem dX11_cutTo_24 : decode cX11_cutTo 24 = .ok (.if_icmp .ne 13, 3) := by decide +kernel
theorem dX11_cutTo_27 : decode cX11_cutTo 27 = .ok (.iload_n 1, 1) := by decide +kernel
theorem dX11_cutTo_28 : decode cX11_cutTo 28 = .ok (.bipush 24, 2) := by decide +kernel
theorem dX11_cutTo_30 : decode cX11_cutTo 30 = .ok (.ishl, 1) := by decide +kernel
theorem dX11_cutTo_31 : decode cX11_cutTo 31 = .ok (.bipush 24, 2) := by decide +kernel
theorem dX11_cutTo_33 : decode cX11_cutTo 33 = .ok (.ishr, 1) := by decide +kernel
theorem dX11_cutTo_34 : decode cX11_cutTo 34 = .ok (.goto 6, 3) := by decide +kernel
theorem dX11_cutTo_37 : decode cX11_cutTo 37 = .ok (.iload_n 1, 1) := by decide +kernel
theorem dX11_cutTo_38 : decode cX11_cutTo 38 = .ok (.iconst 1, 1) := by decide +kernel
theorem dX11_cutTo_39 : decode cX11_cutTo 39 = .ok (.iand, 1) := by decide +kernel
theorem dX11_cutTo_40 : decode cX11_cutTo 40 = .ok (.ireturn, 1) := by decide +kernel
theorem dX11_held_0 : decode cX11_held 0 = .ok (.fload_n 0, 1) := by decide +kernel
theorem dX11_held_1 : decode cX11_held 1 = .ok (.ldc 65, 2) := by decide +kernel
theorem dX11_held_3 : decode cX11_held 3 = .ok (.fcmp .g, 1) := by decide +kernel
theorem dX11_held_4 : decode cX11_held 4 = .ok (.ifCond .ge 8, 3) := by decide +kernel
theorem dX11_held_7 : decode cX11_held 7 = .ok (.ldc 65, 2) := by decide +kernel
theorem dX11_held_9 : decode cX11_held 9 = .ok (.goto 16, 3) := by decide +kernel
theorem dX11_held_12 : decode cX11_held 12 = .ok (.fload_n 0, 1) := by decide +kernel
theorem dX11_held_13 : decode cX11_held 13 = .ok (.ldc 66, 2) := by decide +kernel
theorem dX11_held_15 : decode cX11_held 15 = .ok (.fcmp .l, 1) := by decide +kernel
theorem dX11_held_16 : decode cX11_held 16 = .ok (.ifCond .le 8, 3) := by decide +kernel
theorem dX11_held_19 : decode cX11_held 19 = .ok (.ldc 66, 2) := by decide +kernel
theorem dX11_held_21 : decode cX11_held 21 = .ok (.goto 4, 3) := by decide +kernel
theorem dX11_held_24 : decode cX11_held 24 = .ok (.fload_n 0, 1) := by decide +kernel
theorem dX11_held_25 : decode cX11_held 25 = .ok (.freturn, 1) := by decide +kernel
theorem dX11_eighths_0 : decode cX11_eighths 0 = .ok (.iload_n 0, 1) := by decide +kernel
theorem dX11_eighths_1 : decode cX11_eighths 1 = .ok (.i2f, 1) := by decide +kernel
theorem dX11_eighths_2 : decode cX11_eighths 2 = .ok (.ldc 67, 2) := by decide +kernel
theorem dX11_eighths_4 : decode cX11_eighths 4 = .ok (.fdiv, 1) := by decide +kernel
theorem dX11_eighths_5 : decode cX11_eighths 5 = .ok (.freturn, 1) := by decide +kernel
theorem dX11_tells_0 : decode cX11_tells 0 = .ok (.iload_n 1, 1) := by decide +kernel
theorem dX11_tells_1 : decode cX11_tells 1 = .ok (.iconst 2, 1) := by decide +kernel
theorem dX11_tells_2 : decode cX11_tells 2 = .ok (.if_icmp .ne 16, 3) := by decide +kernel
theorem dX11_tells_5 : decode cX11_tells 5 = .ok (.aload_n 0, 1) := by decide +kernel
theorem dX11_tells_6 : decode cX11_tells 6 = .ok (.getfield 19, 3) := by decide +kernel
theorem dX11_tells_9 : decode cX11_tells 9 = .ok (.iload_n 2, 1) := by decide +kernel
theorem dX11_tells_10 : decode cX11_tells 10 = .ok (.faload, 1) := by decide +kernel
theorem dX11_tells_11 : decode cX11_tells 11 = .ok (.ldc 67, 2) := by decide +kernel
theorem dX11_tells_13 : decode cX11_tells 13 = .ok (.fmul, 1) := by decide +kernel
theorem dX11_tells_14 : decode cX11_tells 14 = .ok (.f2i, 1) := by decide +kernel
theorem dX11_tells_15 : decode cX11_tells 15 = .ok (.goto 9, 3) := by decide +kernel
theorem dX11_tells_18 : decode cX11_tells 18 = .ok (.aload_n 0, 1) := by decide +kernel
theorem dX11_tells_19 : decode cX11_tells 19 = .ok (.getfield 16, 3) := by decide +kernel
theorem dX11_tells_22 : decode cX11_tells 22 = .ok (.iload_n 2, 1) := by decide +kernel
theorem dX11_tells_23 : decode cX11_tells 23 = .ok (.iaload, 1) := by decide +kernel
theorem dX11_tells_24 : decode cX11_tells 24 = .ok (.ireturn, 1) := by decide +kernel
theorem dX11_lay_0 : decode cX11_lay 0 = .ok (.iload_n 1, 1) := by decide +kernel
theorem dX11_lay_1 : decode cX11_lay 1 = .ok (.iconst 2, 1) := by decide +kernel
theorem dX11_lay_2 : decode cX11_lay 2 = .ok (.if_icmp .ne 19, 3) := by decide +kernel
theorem dX11_lay_5 : decode cX11_lay 5 = .ok (.aload_n 0, 1) := by decide +kernel
theorem dX11_lay_6 : decode cX11_lay 6 = .ok (.getfield 19, 3) := by decide +kernel
theorem dX11_lay_9 : decode cX11_lay 9 = .ok (.iload_n 2, 1) := by decide +kernel
theorem dX11_lay_10 : decode cX11_lay 10 = .ok (.iload_n 3, 1) := by decide +kernel
theorem dX11_lay_11 : decode cX11_lay 11 = .ok (.invokestatic 68, 3) := by decide +kernel
theorem dX11_lay_14 : decode cX11_lay 14 = .ok (.invokestatic 72, 3) := by decide +kernel
theorem dX11_lay_17 : decode cX11_lay 17 = .ok (.fastore, 1) := by decide +kernel
theorem dX11_lay_18 : decode cX11_lay 18 = .ok (.goto 14, 3) := by decide +kernel
theorem dX11_lay_21 : decode cX11_lay 21 = .ok (.aload_n 0, 1) := by decide +kernel
theorem dX11_lay_22 : decode cX11_lay 22 = .ok (.getfield 16, 3) := by decide +kernel
theorem dX11_lay_25 : decode cX11_lay 25 = .ok (.iload_n 2, 1) := by decide +kernel
theorem dX11_lay_26 : decode cX11_lay 26 = .ok (.iload_n 1, 1) := by decide +kernel
theorem dX11_lay_27 : decode cX11_lay 27 = .ok (.iload_n 3, 1) := by decide +kernel
theorem dX11_lay_28 : decode cX11_lay 28 = .ok (.invokestatic 76, 3) := by decide +kernel
theorem dX11_lay_31 : decode cX11_lay 31 = .ok (.iastore, 1) := by decide +kernel
theorem dX11_lay_32 : decode cX11_lay 32 = .ok (.return_, 1) := by decide +kernel
theorem dX11_pull_0 : decode cX11_pull 0 = .ok (.iload_n 1, 1) := by decide +kernel
theorem dX11_pull_1 : decode cX11_pull 1 = .ok (.iconst 2, 1) := by decide +kernel
theorem dX11_pull_2 : decode cX11_pull 2 = .ok (.if_icmp .ne 26, 3) := by decide +kernel
theorem dX11_pull_5 : decode cX11_pull 5 = .ok (.aload_n 0, 1) := by decide +kernel
theorem dX11_pull_6 : decode cX11_pull 6 = .ok (.getfield 19, 3) := by decide +kernel
theorem dX11_pull_9 : decode cX11_pull 9 = .ok (.iload_n 2, 1) := by decide +kernel
theorem dX11_pull_10 : decode cX11_pull 10 = .ok (.aload_n 0, 1) := by decide +kernel
theorem dX11_pull_11 : decode cX11_pull 11 = .ok (.getfield 19, 3) := by decide +kernel
theorem dX11_pull_14 : decode cX11_pull 14 = .ok (.iload_n 2, 1) := by decide +kernel
theorem dX11_pull_15 : decode cX11_pull 15 = .ok (.faload, 1) := by decide +kernel
theorem dX11_pull_16 : decode cX11_pull 16 = .ok (.iload_n 3, 1) := by decide +kernel
theorem dX11_pull_17 : decode cX11_pull 17 = .ok (.invokestatic 68, 3) := by decide +kernel
theorem dX11_pull_20 : decode cX11_pull 20 = .ok (.fadd, 1) := by decide +kernel
theorem dX11_pull_21 : decode cX11_pull 21 = .ok (.invokestatic 72, 3) := by decide +kernel
theorem dX11_pull_24 : decode cX11_pull 24 = .ok (.fastore, 1) := by decide +kernel
theorem dX11_pull_25 : decode cX11_pull 25 = .ok (.goto 45, 3) := by decide +kernel
theorem dX11_pull_28 : decode cX11_pull 28 = .ok (.iload_n 1, 1) := by decide +kernel
theorem dX11_pull_29 : decode cX11_pull 29 = .ok (.iconst 3, 1) := by decide +kernel
theorem dX11_pull_30 : decode cX11_pull 30 = .ok (.if_icmp .ne 22, 3) := by decide +kernel
theorem dX11_pull_33 : decode cX11_pull 33 = .ok (.aload_n 0, 1) := by decide +kernel
theorem dX11_pull_34 : decode cX11_pull 34 = .ok (.getfield 16, 3) := by decide +kernel
theorem dX11_pull_37 : decode cX11_pull 37 = .ok (.iload_n 2, 1) := by decide +kernel
theorem dX11_pull_38 : decode cX11_pull 38 = .ok (.aload_n 0, 1) := by decide +kernel
theorem dX11_pull_39 : decode cX11_pull 39 = .ok (.getfield 16, 3) := by decide +kernel
theorem dX11_pull_42 : decode cX11_pull 42 = .ok (.iload_n 2, 1) := by decide +kernel
theorem dX11_pull_43 : decode cX11_pull 43 = .ok (.iaload, 1) := by decide +kernel
theorem dX11_pull_44 : decode cX11_pull 44 = .ok (.iload_n 3, 1) := by decide +kernel
theorem dX11_pull_45 : decode cX11_pull 45 = .ok (.iconst 1, 1) := by decide +kernel
theorem dX11_pull_46 : decode cX11_pull 46 = .ok (.iand, 1) := by decide +kernel
theorem dX11_pull_47 : decode cX11_pull 47 = .ok (.ixor, 1) := by decide +kernel
theorem dX11_pull_48 : decode cX11_pull 48 = .ok (.iastore, 1) := by decide +kernel
theorem dX11_pull_49 : decode cX11_pull 49 = .ok (.goto 21, 3) := by decide +kernel
theorem dX11_pull_52 : decode cX11_pull 52 = .ok (.aload_n 0, 1) := by decide +kernel
theorem dX11_pull_53 : decode cX11_pull 53 = .ok (.getfield 16, 3) := by decide +kernel
theorem dX11_pull_56 : decode cX11_pull 56 = .ok (.iload_n 2, 1) := by decide +kernel
theorem dX11_pull_57 : decode cX11_pull 57 = .ok (.iload_n 1, 1) := by decide +kernel
theorem dX11_pull_58 : decode cX11_pull 58 = .ok (.aload_n 0, 1) := by decide +kernel
theorem dX11_pull_59 : decode cX11_pull 59 = .ok (.getfield 16, 3) := by decide +kernel
theorem dX11_pull_62 : decode cX11_pull 62 = .ok (.iload_n 2, 1) := by decide +kernel
theorem dX11_pull_63 : decode cX11_pull 63 = .ok (.iaload, 1) := by decide +kernel
theorem dX11_pull_64 : decode cX11_pull 64 = .ok (.iload_n 3, 1) := by decide +kernel
theorem dX11_pull_65 : decode cX11_pull 65 = .ok (.iadd, 1) := by decide +kernel
theorem dX11_pull_66 : decode cX11_pull 66 = .ok (.invokestatic 76, 3) := by decide +kernel
theorem dX11_pull_69 : decode cX11_pull 69 = .ok (.iastore, 1) := by decide +kernel
theorem dX11_pull_70 : decode cX11_pull 70 = .ok (.return_, 1) := by decide +kernel
theorem dX11_part_0 : decode cX11_part 0 = .ok (.iload_n 1, 1) := by decide +kernel
theorem dX11_part_1 : decode cX11_part 1 = .ok (.iconst 2, 1) := by decide +kernel
theorem dX11_part_2 : decode cX11_part 2 = .ok (.if_icmp .ne 24, 3) := by decide +kernel
theorem dX11_part_5 : decode cX11_part 5 = .ok (.aload_n 0, 1) := by decide +kernel
theorem dX11_part_6 : decode cX11_part 6 = .ok (.getfield 19, 3) := by decide +kernel
theorem dX11_part_9 : decode cX11_part 9 = .ok (.iload_n 2, 1) := by decide +kernel
theorem dX11_part_10 : decode cX11_part 10 = .ok (.aload_n 0, 1) := by decide +kernel
theorem dX11_part_11 : decode cX11_part 11 = .ok (.getfield 19, 3) := by decide +kernel
theorem dX11_part_14 : decode cX11_part 14 = .ok (.iload_n 2, 1) := by decide +kernel
theorem dX11_part_15 : decode cX11_part 15 = .ok (.faload, 1) := by decide +kernel
theorem dX11_part_16 : decode cX11_part 16 = .ok (.iload_n 3, 1) := by decide +kernel
theorem dX11_part_17 : decode cX11_part 17 = .ok (.i2f, 1) := by decide +kernel
theorem dX11_part_18 : decode cX11_part 18 = .ok (.fdiv, 1) := by decide +kernel
theorem dX11_part_19 : decode cX11_part 19 = .ok (.invokestatic 72, 3) := by decide +kernel
theorem dX11_part_22 : decode cX11_part 22 = .ok (.fastore, 1) := by decide +kernel
theorem dX11_part_23 : decode cX11_part 23 = .ok (.goto 60, 3) := by decide +kernel
theorem dX11_part_26 : decode cX11_part 26 = .ok (.iload_n 1, 1) := by decide +kernel
theorem dX11_part_27 : decode cX11_part 27 = .ok (.iconst 3, 1) := by decide +kernel
theorem dX11_part_28 : decode cX11_part 28 = .ok (.if_icmp .ne 22, 3) := by decide +kernel
theorem dX11_part_31 : decode cX11_part 31 = .ok (.aload_n 0, 1) := by decide +kernel
theorem dX11_part_32 : decode cX11_part 32 = .ok (.getfield 16, 3) := by decide +kernel
theorem dX11_part_35 : decode cX11_part 35 = .ok (.iload_n 2, 1) := by decide +kernel
theorem dX11_part_36 : decode cX11_part 36 = .ok (.aload_n 0, 1) := by decide +kernel
theorem dX11_part_37 : decode cX11_part 37 = .ok (.getfield 16, 3) := by decide +kernel
theorem dX11_part_40 : decode cX11_part 40 = .ok (.iload_n 2, 1) := by decide +kernel
theorem dX11_part_41 : decode cX11_part 41 = .ok (.iaload, 1) := by decide +kernel
theorem dX11_part_42 : decode cX11_part 42 = .ok (.iload_n 3, 1) := by decide +kernel
theorem dX11_part_43 : decode cX11_part 43 = .ok (.iand, 1) := by decide +kernel
theorem dX11_part_44 : decode cX11_part 44 = .ok (.iconst 1, 1) := by decide +kernel
theorem dX11_part_45 : decode cX11_part 45 = .ok (.iand, 1) := by decide +kernel
theorem dX11_part_46 : decode cX11_part 46 = .ok (.iastore, 1) := by decide +kernel
theorem dX11_part_47 : decode cX11_part 47 = .ok (.goto 36, 3) := by decide +kernel
theorem dX11_part_50 : decode cX11_part 50 = .ok (.aload_n 0, 1) := by decide +kernel
theorem dX11_part_51 : decode cX11_part 51 = .ok (.getfield 16, 3) := by decide +kernel
theorem dX11_part_54 : decode cX11_part 54 = .ok (.iload_n 2, 1) := by decide +kernel
theorem dX11_part_55 : decode cX11_part 55 = .ok (.iload_n 1, 1) := by decide +kernel
theorem dX11_part_56 : decode cX11_part 56 = .ok (.iload_n 3, 1) := by decide +kernel
theorem dX11_part_57 : decode cX11_part 57 = .ok (.iconst (-1), 1) := by decide +kernel
theorem dX11_part_58 : decode cX11_part 58 = .ok (.if_icmp .ne 13, 3) := by decide +kernel
theorem dX11_part_61 : decode cX11_part 61 = .ok (.aload_n 0, 1) := by decide +kernel
theorem dX11_part_62 : decode cX11_part 62 = .ok (.getfield 16, 3) := by decide +kernel
theorem dX11_part_65 : decode cX11_part 65 = .ok (.iload_n 2, 1) := by decide +kernel
theorem dX11_part_66 : decode cX11_part 66 = .ok (.iaload, 1) := by decide +kernel
theorem dX11_part_67 : decode cX11_part 67 = .ok (.ineg, 1) := by decide +kernel
theorem dX11_part_68 : decode cX11_part 68 = .ok (.goto 11, 3) := by decide +kernel
theorem dX11_part_71 : decode cX11_part 71 = .ok (.aload_n 0, 1) := by decide +kernel
theorem dX11_part_72 : decode cX11_part 72 = .ok (.getfield 16, 3) := by decide +kernel
theorem dX11_part_75 : decode cX11_part 75 = .ok (.iload_n 2, 1) := by decide +kernel
theorem dX11_part_76 : decode cX11_part 76 = .ok (.iaload, 1) := by decide +kernel
theorem dX11_part_77 : decode cX11_part 77 = .ok (.iload_n 3, 1) := by decide +kernel
theorem dX11_part_78 : decode cX11_part 78 = .ok (.idiv, 1) := by decide +kernel
theorem dX11_part_79 : decode cX11_part 79 = .ok (.invokestatic 76, 3) := by decide +kernel
theorem dX11_part_82 : decode cX11_part 82 = .ok (.iastore, 1) := by decide +kernel
theorem dX11_part_83 : decode cX11_part 83 = .ok (.return_, 1) := by decide +kernel
theorem dX11_done_0 : decode cX11_done 0 = .ok (.iconst 5, 1) := by decide +kernel
theorem dX11_done_1 : decode cX11_done 1 = .ok (.iload_n 2, 1) := by decide +kernel
theorem dX11_done_2 : decode cX11_done 2 = .ok (.imul, 1) := by decide +kernel
theorem dX11_done_3 : decode cX11_done 3 = .ok (.iload_n 3, 1) := by decide +kernel
theorem dX11_done_4 : decode cX11_done 4 = .ok (.iadd, 1) := by decide +kernel
theorem dX11_done_5 : decode cX11_done 5 = .ok (.istore 6, 2) := by decide +kernel
theorem dX11_done_7 : decode cX11_done 7 = .ok (.iconst 0, 1) := by decide +kernel
theorem dX11_done_8 : decode cX11_done 8 = .ok (.istore 7, 2) := by decide +kernel
theorem dX11_done_10 : decode cX11_done 10 = .ok (.iload_n 1, 1) := by decide +kernel
theorem dX11_done_11 : decode cX11_done 11 = .ok (.iconst 1, 1) := by decide +kernel
theorem dX11_done_12 : decode cX11_done 12 = .ok (.if_icmp .ne 22, 3) := by decide +kernel
theorem dX11_done_15 : decode cX11_done 15 = .ok (.aload_n 0, 1) := by decide +kernel
theorem dX11_done_16 : decode cX11_done 16 = .ok (.getfield 61, 3) := by decide +kernel
theorem dX11_done_19 : decode cX11_done 19 = .ok (.ifCond .ne 9, 3) := by decide +kernel
theorem dX11_done_22 : decode cX11_done 22 = .ok (.aload_n 0, 1) := by decide +kernel
theorem dX11_done_23 : decode cX11_done 23 = .ok (.iconst 4, 1) := by decide +kernel
theorem dX11_done_24 : decode cX11_done 24 = .ok (.invokevirtual 51, 3) := by decide +kernel
theorem dX11_done_27 : decode cX11_done 27 = .ok (.ireturn, 1) := by decide +kernel
theorem dX11_done_28 : decode cX11_done 28 = .ok (.aload_n 0, 1) := by decide +kernel
theorem dX11_done_29 : decode cX11_done 29 = .ok (.invokevirtual 80, 3) := by decide +kernel
theorem dX11_done_32 : decode cX11_done 32 = .ok (.istore 7, 2) := by decide +kernel
theorem dX11_done_34 : decode cX11_done 34 = .ok (.aload_n 0, 1) := by decide +kernel
theorem dX11_done_35 : decode cX11_done 35 = .ok (.iload 6, 2) := by decide +kernel
theorem dX11_done_37 : decode cX11_done 37 = .ok (.iload 4, 2) := by decide +kernel
theorem dX11_done_39 : decode cX11_done 39 = .ok (.invokevirtual 84, 3) := by decide +kernel
theorem dX11_done_42 : decode cX11_done 42 = .ok (.istore 8, 2) := by decide +kernel
theorem dX11_done_44 : decode cX11_done 44 = .ok (.iload 8, 2) := by decide +kernel
theorem dX11_done_46 : decode cX11_done 46 = .ok (.ifCond .eq 10, 3) := by decide +kernel
theorem dX11_done_49 : decode cX11_done 49 = .ok (.aload_n 0, 1) := by decide +kernel
theorem dX11_done_50 : decode cX11_done 50 = .ok (.iload 8, 2) := by decide +kernel
theorem dX11_done_52 : decode cX11_done 52 = .ok (.invokevirtual 51, 3) := by decide +kernel
theorem dX11_done_55 : decode cX11_done 55 = .ok (.ireturn, 1) := by decide +kernel
theorem dX11_done_56 : decode cX11_done 56 = .ok (.iload_n 1, 1) := by decide +kernel
theorem dX11_done_57 : decode cX11_done 57 = .ok (.iconst 2, 1) := by decide +kernel
theorem dX11_done_58 : decode cX11_done 58 = .ok (.if_icmp .ne 16, 3) := by decide +kernel
theorem dX11_done_61 : decode cX11_done 61 = .ok (.aload_n 0, 1) := by decide +kernel
theorem dX11_done_62 : decode cX11_done 62 = .ok (.getfield 61, 3) := by decide +kernel
theorem dX11_done_65 : decode cX11_done 65 = .ok (.ifCond .ne 9, 3) := by decide +kernel
theorem dX11_done_68 : decode cX11_done 68 = .ok (.aload_n 0, 1) := by decide +kernel
theorem dX11_done_69 : decode cX11_done 69 = .ok (.iconst 4, 1) := by decide +kernel
theorem dX11_done_70 : decode cX11_done 70 = .ok (.invokevirtual 51, 3) := by decide +kernel
theorem dX11_done_73 : decode cX11_done 73 = .ok (.ireturn, 1) := by decide +kernel
theorem dX11_done_74 : decode cX11_done 74 = .ok (.iload_n 1, 1) := by decide +kernel
theorem dX11_done_75 : decode cX11_done 75 = .ok (.iconst 4, 1) := by decide +kernel
theorem dX11_done_76 : decode cX11_done 76 = .ok (.if_icmp .ne 19, 3) := by decide +kernel
theorem dX11_done_79 : decode cX11_done 79 = .ok (.iload 5, 2) := by decide +kernel
theorem dX11_done_81 : decode cX11_done 81 = .ok (.ifCond .ne 14, 3) := by decide +kernel
theorem dX11_done_84 : decode cX11_done 84 = .ok (.iload_n 3, 1) := by decide +kernel
theorem dX11_done_85 : decode cX11_done 85 = .ok (.iconst 3, 1) := by decide +kernel
theorem dX11_done_86 : decode cX11_done 86 = .ok (.if_icmp .eq 9, 3) := by decide +kernel
theorem dX11_done_89 : decode cX11_done 89 = .ok (.aload_n 0, 1) := by decide +kernel
theorem dX11_done_90 : decode cX11_done 90 = .ok (.iconst 5, 1) := by decide +kernel
theorem dX11_done_91 : decode cX11_done 91 = .ok (.invokevirtual 51, 3) := by decide +kernel
theorem dX11_done_94 : decode cX11_done 94 = .ok (.ireturn, 1) := by decide +kernel
theorem dX11_done_95 : decode cX11_done 95 = .ok (.bipush 24, 2) := by decide +kernel
theorem dX11_done_97 : decode cX11_done 97 = .ok (.aload_n 0, 1) := by decide +kernel
theorem dX11_done_98 : decode cX11_done 98 = .ok (.getfield 7, 3) := by decide +kernel
theorem dX11_done_101 : decode cX11_done 101 = .ok (.iload 6, 2) := by decide +kernel
theorem dX11_done_103 : decode cX11_done 103 = .ok (.iaload, 1) := by decide +kernel
theorem dX11_done_104 : decode cX11_done 104 = .ok (.imul, 1) := by decide +kernel
theorem dX11_done_105 : decode cX11_done 105 = .ok (.iload 4, 2) := by decide +kernel
theorem dX11_done_107 : decode cX11_done 107 = .ok (.iadd, 1) := by decide +kernel
theorem dX11_done_108 : decode cX11_done 108 = .ok (.istore 9, 2) := by decide +kernel
theorem dX11_done_110 : decode cX11_done 110 = .ok (.iload_n 1, 1) := by decide +kernel
theorem dX11_done_111 : decode cX11_done 111 = .ok (.iconst 1, 1) := by decide +kernel
theorem dX11_done_112 : decode cX11_done 112 = .ok (.if_icmp .ne 12, 3) := by decide +kernel
theorem dX11_done_115 : decode cX11_done 115 = .ok (.aload_n 0, 1) := by decide +kernel
theorem dX11_done_116 : decode cX11_done 116 = .ok (.iload_n 3, 1) := by decide +kernel
theorem dX11_done_117 : decode cX11_done 117 = .ok (.iload 9, 2) := by decide +kernel
theorem dX11_done_119 : decode cX11_done 119 = .ok (.iload 7, 2) := by decide +kernel
theorem dX11_done_121 : decode cX11_done 121 = .ok (.invokevirtual 87, 3) := by decide +kernel
theorem dX11_done_124 : decode cX11_done 124 = .ok (.iload_n 1, 1) := by decide +kernel
theorem dX11_done_125 : decode cX11_done 125 = .ok (.iconst 2, 1) := by decide +kernel
theorem dX11_done_126 : decode cX11_done 126 = .ok (.if_icmp .ne 14, 3) := by decide +kernel
theorem dX11_done_129 : decode cX11_done 129 = .ok (.aload_n 0, 1) := by decide +kernel
theorem dX11_done_130 : decode cX11_done 130 = .ok (.iload_n 3, 1) := by decide +kernel
theorem dX11_done_131 : decode cX11_done 131 = .ok (.iload 9, 2) := by decide +kernel
theorem dX11_done_133 : decode cX11_done 133 = .ok (.aload_n 0, 1) := by decide +kernel
theorem dX11_done_134 : decode cX11_done 134 = .ok (.invokevirtual 80, 3) := by decide +kernel
theorem dX11_done_137 : decode cX11_done 137 = .ok (.invokevirtual 91, 3) := by decide +kernel
theorem dX11_done_140 : decode cX11_done 140 = .ok (.iload_n 1, 1) := by decide +kernel
theorem dX11_done_141 : decode cX11_done 141 = .ok (.iconst 3, 1) := by decide +kernel
theorem dX11_done_142 : decode cX11_done 142 = .ok (.if_icmp .ne 21, 3) := by decide +kernel
theorem dX11_done_145 : decode cX11_done 145 = .ok (.aload_n 0, 1) := by decide +kernel
theorem dX11_done_146 : decode cX11_done 146 = .ok (.iload_n 3, 1) := by decide +kernel
theorem dX11_done_147 : decode cX11_done 147 = .ok (.iload 9, 2) := by decide +kernel
theorem dX11_done_149 : decode cX11_done 149 = .ok (.iload_n 3, 1) := by decide +kernel
theorem dX11_done_150 : decode cX11_done 150 = .ok (.iconst 2, 1) := by decide +kernel
theorem dX11_done_151 : decode cX11_done 151 = .ok (.if_icmp .ne 8, 3) := by decide +kernel
theorem dX11_done_154 : decode cX11_done 154 = .ok (.bipush 8, 2) := by decide +kernel
theorem dX11_done_156 : decode cX11_done 156 = .ok (.goto 4, 3) := by decide +kernel
theorem dX11_done_159 : decode cX11_done 159 = .ok (.iconst 1, 1) := by decide +kernel
theorem dX11_done_160 : decode cX11_done 160 = .ok (.invokevirtual 91, 3) := by decide +kernel
theorem dX11_done_163 : decode cX11_done 163 = .ok (.iload_n 1, 1) := by decide +kernel
theorem dX11_done_164 : decode cX11_done 164 = .ok (.iconst 4, 1) := by decide +kernel
theorem dX11_done_165 : decode cX11_done 165 = .ok (.if_icmp .ne 12, 3) := by decide +kernel
theorem dX11_done_168 : decode cX11_done 168 = .ok (.aload_n 0, 1) := by decide +kernel
theorem dX11_done_169 : decode cX11_done 169 = .ok (.iload_n 3, 1) := by decide +kernel
theorem dX11_done_170 : decode cX11_done 170 = .ok (.iload 9, 2) := by decide +kernel
theorem dX11_done_172 : decode cX11_done 172 = .ok (.iload 5, 2) := by decide +kernel
theorem dX11_done_174 : decode cX11_done 174 = .ok (.invokevirtual 94, 3) := by decide +kernel
theorem dX11_done_177 : decode cX11_done 177 = .ok (.aload_n 0, 1) := by decide +kernel
theorem dX11_done_178 : decode cX11_done 178 = .ok (.aload_n 0, 1) := by decide +kernel
theorem dX11_done_179 : decode cX11_done 179 = .ok (.iload_n 3, 1) := by decide +kernel
theorem dX11_done_180 : decode cX11_done 180 = .ok (.iload 9, 2) := by decide +kernel
theorem dX11_done_182 : decode cX11_done 182 = .ok (.invokevirtual 97, 3) := by decide +kernel
theorem dX11_done_185 : decode cX11_done 185 = .ok (.invokevirtual 58, 3) := by decide +kernel
theorem dX11_done_188 : decode cX11_done 188 = .ok (.ireturn, 1) := by decide +kernel
theorem dX11_act_0 : decode cX11_act 0 = .ok (.iload_n 1, 1) := by decide +kernel
theorem dX11_act_1 : decode cX11_act 1 = .ok (.ifCond .lt 16, 3) := by decide +kernel
theorem dX11_act_4 : decode cX11_act 4 = .ok (.iload_n 1, 1) := by decide +kernel
theorem dX11_act_5 : decode cX11_act 5 = .ok (.iconst 4, 1) := by decide +kernel
theorem dX11_act_6 : decode cX11_act 6 = .ok (.if_icmp .gt 11, 3) := by decide +kernel
theorem dX11_act_9 : decode cX11_act 9 = .ok (.iload_n 2, 1) := by decide +kernel
theorem dX11_act_10 : decode cX11_act 10 = .ok (.iload_n 3, 1) := by decide +kernel
theorem dX11_act_11 : decode cX11_act 11 = .ok (.invokestatic 46, 3) := by decide +kernel
theorem dX11_act_14 : decode cX11_act 14 = .ok (.ifCond .ne 6, 3) := by decide +kernel
theorem dX11_act_17 : decode cX11_act 17 = .ok (.ldc 50, 2) := by decide +kernel
theorem dX11_act_19 : decode cX11_act 19 = .ok (.ireturn, 1) := by decide +kernel
theorem dX11_act_20 : decode cX11_act 20 = .ok (.aload_n 0, 1) := by decide +kernel
theorem dX11_act_21 : decode cX11_act 21 = .ok (.iload_n 1, 1) := by decide +kernel
theorem dX11_act_22 : decode cX11_act 22 = .ok (.iload_n 2, 1) := by decide +kernel
theorem dX11_act_23 : decode cX11_act 23 = .ok (.iload_n 3, 1) := by decide +kernel
theorem dX11_act_24 : decode cX11_act 24 = .ok (.iload 4, 2) := by decide +kernel
theorem dX11_act_26 : decode cX11_act 26 = .ok (.iload 5, 2) := by decide +kernel
theorem dX11_act_28 : decode cX11_act 28 = .ok (.invokevirtual 100, 3) := by decide +kernel
theorem dX11_act_31 : decode cX11_act 31 = .ok (.ireturn, 1) := by decide +kernel
theorem dX11_swap_0 : decode cX11_swap 0 = .ok (.iload_n 1, 1) := by decide +kernel
theorem dX11_swap_1 : decode cX11_swap 1 = .ok (.iload_n 2, 1) := by decide +kernel
theorem dX11_swap_2 : decode cX11_swap 2 = .ok (.invokestatic 46, 3) := by decide +kernel
theorem dX11_swap_5 : decode cX11_swap 5 = .ok (.ifCond .ne 6, 3) := by decide +kernel
theorem dX11_swap_8 : decode cX11_swap 8 = .ok (.ldc 50, 2) := by decide +kernel
theorem dX11_swap_10 : decode cX11_swap 10 = .ok (.ireturn, 1) := by decide +kernel
theorem dX11_swap_11 : decode cX11_swap 11 = .ok (.iconst 5, 1) := by decide +kernel
theorem dX11_swap_12 : decode cX11_swap 12 = .ok (.iload_n 1, 1) := by decide +kernel
theorem dX11_swap_13 : decode cX11_swap 13 = .ok (.imul, 1) := by decide +kernel
theorem dX11_swap_14 : decode cX11_swap 14 = .ok (.iload_n 2, 1) := by decide +kernel
theorem dX11_swap_15 : decode cX11_swap 15 = .ok (.iadd, 1) := by decide +kernel
theorem dX11_swap_16 : decode cX11_swap 16 = .ok (.istore 5, 2) := by decide +kernel
theorem dX11_swap_18 : decode cX11_swap 18 = .ok (.aload_n 0, 1) := by decide +kernel
theorem dX11_swap_19 : decode cX11_swap 19 = .ok (.iload 5, 2) := by decide +kernel
theorem dX11_swap_21 : decode cX11_swap 21 = .ok (.iload_n 3, 1) := by decide +kernel
theorem dX11_swap_22 : decode cX11_swap 22 = .ok (.invokevirtual 84, 3) := by decide +kernel
theorem dX11_swap_25 : decode cX11_swap 25 = .ok (.istore 6, 2) := by decide +kernel
theorem dX11_swap_27 : decode cX11_swap 27 = .ok (.iload 6, 2) := by decide +kernel
theorem dX11_swap_29 : decode cX11_swap 29 = .ok (.ifCond .ne 13, 3) := by decide +kernel
theorem dX11_swap_32 : decode cX11_swap 32 = .ok (.aload_n 0, 1) := by decide +kernel
theorem dX11_swap_33 : decode cX11_swap 33 = .ok (.iload 5, 2) := by decide +kernel
theorem dX11_swap_35 : decode cX11_swap 35 = .ok (.iload 4, 2) := by decide +kernel
theorem dX11_swap_37 : decode cX11_swap 37 = .ok (.invokevirtual 84, 3) := by decide +kernel
theorem dX11_swap_40 : decode cX11_swap 40 = .ok (.istore 6, 2) := by decide +kernel
theorem dX11_swap_42 : decode cX11_swap 42 = .ok (.iload 6, 2) := by decide +kernel
theorem dX11_swap_44 : decode cX11_swap 44 = .ok (.ifCond .eq 10, 3) := by decide +kernel
theorem dX11_swap_47 : decode cX11_swap 47 = .ok (.aload_n 0, 1) := by decide +kernel
theorem dX11_swap_48 : decode cX11_swap 48 = .ok (.iload 6, 2) := by decide +kernel
theorem dX11_swap_50 : decode cX11_swap 50 = .ok (.invokevirtual 51, 3) := by decide +kernel
theorem dX11_swap_53 : decode cX11_swap 53 = .ok (.ireturn, 1) := by decide +kernel
theorem dX11_swap_54 : decode cX11_swap 54 = .ok (.bipush 24, 2) := by decide +kernel
theorem dX11_swap_56 : decode cX11_swap 56 = .ok (.aload_n 0, 1) := by decide +kernel
theorem dX11_swap_57 : decode cX11_swap 57 = .ok (.getfield 7, 3) := by decide +kernel
theorem dX11_swap_60 : decode cX11_swap 60 = .ok (.iload 5, 2) := by decide +kernel
theorem dX11_swap_62 : decode cX11_swap 62 = .ok (.iaload, 1) := by decide +kernel
theorem dX11_swap_63 : decode cX11_swap 63 = .ok (.imul, 1) := by decide +kernel
theorem dX11_swap_64 : decode cX11_swap 64 = .ok (.iload_n 3, 1) := by decide +kernel
theorem dX11_swap_65 : decode cX11_swap 65 = .ok (.iadd, 1) := by decide +kernel
theorem dX11_swap_66 : decode cX11_swap 66 = .ok (.istore 7, 2) := by decide +kernel
theorem dX11_swap_68 : decode cX11_swap 68 = .ok (.bipush 24, 2) := by decide +kernel
theorem dX11_swap_70 : decode cX11_swap 70 = .ok (.aload_n 0, 1) := by decide +kernel
theorem dX11_swap_71 : decode cX11_swap 71 = .ok (.getfield 7, 3) := by decide +kernel
theorem dX11_swap_74 : decode cX11_swap 74 = .ok (.iload 5, 2) := by decide +kernel
theorem dX11_swap_76 : decode cX11_swap 76 = .ok (.iaload, 1) := by decide +kernel
theorem dX11_swap_77 : decode cX11_swap 77 = .ok (.imul, 1) := by decide +kernel
theorem dX11_swap_78 : decode cX11_swap 78 = .ok (.iload 4, 2) := by decide +kernel
theorem dX11_swap_80 : decode cX11_swap 80 = .ok (.iadd, 1) := by decide +kernel
theorem dX11_swap_81 : decode cX11_swap 81 = .ok (.istore 8, 2) := by decide +kernel
theorem dX11_swap_83 : decode cX11_swap 83 = .ok (.aload_n 0, 1) := by decide +kernel
theorem dX11_swap_84 : decode cX11_swap 84 = .ok (.iload_n 2, 1) := by decide +kernel
theorem dX11_swap_85 : decode cX11_swap 85 = .ok (.iload 7, 2) := by decide +kernel
theorem dX11_swap_87 : decode cX11_swap 87 = .ok (.invokevirtual 97, 3) := by decide +kernel
theorem dX11_swap_90 : decode cX11_swap 90 = .ok (.istore 9, 2) := by decide +kernel
theorem dX11_swap_92 : decode cX11_swap 92 = .ok (.aload_n 0, 1) := by decide +kernel
theorem dX11_swap_93 : decode cX11_swap 93 = .ok (.getfield 16, 3) := by decide +kernel
theorem dX11_swap_96 : decode cX11_swap 96 = .ok (.iload 7, 2) := by decide +kernel
theorem dX11_swap_98 : decode cX11_swap 98 = .ok (.iaload, 1) := by decide +kernel
theorem dX11_swap_99 : decode cX11_swap 99 = .ok (.istore 10, 2) := by decide +kernel
theorem dX11_swap_101 : decode cX11_swap 101 = .ok (.aload_n 0, 1) := by decide +kernel
theorem dX11_swap_102 : decode cX11_swap 102 = .ok (.getfield 16, 3) := by decide +kernel
theorem dX11_swap_105 : decode cX11_swap 105 = .ok (.iload 7, 2) := by decide +kernel
theorem dX11_swap_107 : decode cX11_swap 107 = .ok (.aload_n 0, 1) := by decide +kernel
theorem dX11_swap_108 : decode cX11_swap 108 = .ok (.getfield 16, 3) := by decide +kernel
theorem dX11_swap_111 : decode cX11_swap 111 = .ok (.iload 8, 2) := by decide +kernel
theorem dX11_swap_113 : decode cX11_swap 113 = .ok (.iaload, 1) := by decide +kernel
theorem dX11_swap_114 : decode cX11_swap 114 = .ok (.iastore, 1) := by decide +kernel
theorem dX11_swap_115 : decode cX11_swap 115 = .ok (.aload_n 0, 1) := by decide +kernel
theorem dX11_swap_116 : decode cX11_swap 116 = .ok (.getfield 16, 3) := by decide +kernel
theorem dX11_swap_119 : decode cX11_swap 119 = .ok (.iload 8, 2) := by decide +kernel
theorem dX11_swap_121 : decode cX11_swap 121 = .ok (.iload 10, 2) := by decide +kernel
theorem dX11_swap_123 : decode cX11_swap 123 = .ok (.iastore, 1) := by decide +kernel
theorem dX11_swap_124 : decode cX11_swap 124 = .ok (.aload_n 0, 1) := by decide +kernel
theorem dX11_swap_125 : decode cX11_swap 125 = .ok (.getfield 19, 3) := by decide +kernel
theorem dX11_swap_128 : decode cX11_swap 128 = .ok (.iload 7, 2) := by decide +kernel
theorem dX11_swap_130 : decode cX11_swap 130 = .ok (.faload, 1) := by decide +kernel
theorem dX11_swap_131 : decode cX11_swap 131 = .ok (.fstore 11, 2) := by decide +kernel
theorem dX11_swap_133 : decode cX11_swap 133 = .ok (.aload_n 0, 1) := by decide +kernel
theorem dX11_swap_134 : decode cX11_swap 134 = .ok (.getfield 19, 3) := by decide +kernel
theorem dX11_swap_137 : decode cX11_swap 137 = .ok (.iload 7, 2) := by decide +kernel
theorem dX11_swap_139 : decode cX11_swap 139 = .ok (.aload_n 0, 1) := by decide +kernel
theorem dX11_swap_140 : decode cX11_swap 140 = .ok (.getfield 19, 3) := by decide +kernel
theorem dX11_swap_143 : decode cX11_swap 143 = .ok (.iload 8, 2) := by decide +kernel
theorem dX11_swap_145 : decode cX11_swap 145 = .ok (.faload, 1) := by decide +kernel
theorem dX11_swap_146 : decode cX11_swap 146 = .ok (.fastore, 1) := by decide +kernel
theorem dX11_swap_147 : decode cX11_swap 147 = .ok (.aload_n 0, 1) := by decide +kernel
theorem dX11_swap_148 : decode cX11_swap 148 = .ok (.getfield 19, 3) := by decide +kernel
theorem dX11_swap_151 : decode cX11_swap 151 = .ok (.iload 8, 2) := by decide +kernel
theorem dX11_swap_153 : decode cX11_swap 153 = .ok (.fload 11, 2) := by decide +kernel
theorem dX11_swap_155 : decode cX11_swap 155 = .ok (.fastore, 1) := by decide +kernel
theorem dX11_swap_156 : decode cX11_swap 156 = .ok (.aload_n 0, 1) := by decide +kernel
theorem dX11_swap_157 : decode cX11_swap 157 = .ok (.iload 9, 2) := by decide +kernel
theorem dX11_swap_159 : decode cX11_swap 159 = .ok (.invokevirtual 58, 3) := by decide +kernel
theorem dX11_swap_162 : decode cX11_swap 162 = .ok (.ireturn, 1) := by decide +kernel
theorem dX11_cloth_0 : decode cX11_cloth 0 = .ok (.iload_n 1, 1) := by decide +kernel
theorem dX11_cloth_1 : decode cX11_cloth 1 = .ok (.bipush 24, 2) := by decide +kernel
theorem dX11_cloth_3 : decode cX11_cloth 3 = .ok (.if_icmp .gt 9, 3) := by decide +kernel
theorem dX11_cloth_6 : decode cX11_cloth 6 = .ok (.iload_n 2, 1) := by decide +kernel
theorem dX11_cloth_7 : decode cX11_cloth 7 = .ok (.bipush 24, 2) := by decide +kernel
theorem dX11_cloth_9 : decode cX11_cloth 9 = .ok (.if_icmp .le 6, 3) := by decide +kernel
theorem dX11_cloth_12 : decode cX11_cloth 12 = .ok (.ldc 50, 2) := by decide +kernel
theorem dX11_cloth_14 : decode cX11_cloth 14 = .ok (.ireturn, 1) := by decide +kernel
theorem dX11_cloth_15 : decode cX11_cloth 15 = .ok (.iload_n 1, 1) := by decide +kernel
theorem dX11_cloth_16 : decode cX11_cloth 16 = .ok (.ifCond .lt 7, 3) := by decide +kernel
theorem dX11_cloth_19 : decode cX11_cloth 19 = .ok (.iload_n 2, 1) := by decide +kernel
theorem dX11_cloth_20 : decode cX11_cloth 20 = .ok (.ifCond .ge 9, 3) := by decide +kernel
theorem dX11_cloth_23 : decode cX11_cloth 23 = .ok (.aload_n 0, 1) := by decide +kernel
theorem dX11_cloth_24 : decode cX11_cloth 24 = .ok (.iconst 3, 1) := by decide +kernel
theorem dX11_cloth_25 : decode cX11_cloth 25 = .ok (.invokevirtual 51, 3) := by decide +kernel
theorem dX11_cloth_28 : decode cX11_cloth 28 = .ok (.ireturn, 1) := by decide +kernel
theorem dX11_cloth_29 : decode cX11_cloth 29 = .ok (.aload_n 0, 1) := by decide +kernel
theorem dX11_cloth_30 : decode cX11_cloth 30 = .ok (.iconst 1, 1) := by decide +kernel
theorem dX11_cloth_31 : decode cX11_cloth 31 = .ok (.putfield 104, 3) := by decide +kernel
theorem dX11_cloth_34 : decode cX11_cloth 34 = .ok (.aload_n 0, 1) := by decide +kernel
theorem dX11_cloth_35 : decode cX11_cloth 35 = .ok (.iload_n 1, 1) := by decide +kernel
theorem dX11_cloth_36 : decode cX11_cloth 36 = .ok (.putfield 108, 3) := by decide +kernel
theorem dX11_cloth_39 : decode cX11_cloth 39 = .ok (.aload_n 0, 1) := by decide +kernel
theorem dX11_cloth_40 : decode cX11_cloth 40 = .ok (.iload_n 2, 1) := by decide +kernel
theorem dX11_cloth_41 : decode cX11_cloth 41 = .ok (.putfield 111, 3) := by decide +kernel
theorem dX11_cloth_44 : decode cX11_cloth 44 = .ok (.iconst 0, 1) := by decide +kernel
theorem dX11_cloth_45 : decode cX11_cloth 45 = .ok (.istore_n 3, 1) := by decide +kernel
theorem dX11_cloth_46 : decode cX11_cloth 46 = .ok (.iload_n 3, 1) := by decide +kernel
theorem dX11_cloth_47 : decode cX11_cloth 47 = .ok (.iload_n 1, 1) := by decide +kernel
theorem dX11_cloth_48 : decode cX11_cloth 48 = .ok (.if_icmp .ge 16, 3) := by decide +kernel
theorem dX11_cloth_51 : decode cX11_cloth 51 = .ok (.aload_n 0, 1) := by decide +kernel
theorem dX11_cloth_52 : decode cX11_cloth 52 = .ok (.getfield 26, 3) := by decide +kernel
theorem dX11_cloth_55 : decode cX11_cloth 55 = .ok (.iload_n 3, 1) := by decide +kernel
theorem dX11_cloth_56 : decode cX11_cloth 56 = .ok (.iload_n 3, 1) := by decide +kernel
theorem dX11_cloth_57 : decode cX11_cloth 57 = .ok (.iastore, 1) := by decide +kernel
theorem dX11_cloth_58 : decode cX11_cloth 58 = .ok (.iinc 3 1, 3) := by decide +kernel
theorem dX11_cloth_61 : decode cX11_cloth 61 = .ok (.goto (-15), 3) := by decide +kernel
theorem dX11_cloth_64 : decode cX11_cloth 64 = .ok (.iconst 0, 1) := by decide +kernel
theorem dX11_cloth_65 : decode cX11_cloth 65 = .ok (.istore_n 3, 1) := by decide +kernel
theorem dX11_cloth_66 : decode cX11_cloth 66 = .ok (.iload_n 3, 1) := by decide +kernel
theorem dX11_cloth_67 : decode cX11_cloth 67 = .ok (.sipush 576, 3) := by decide +kernel
theorem dX11_cloth_70 : decode cX11_cloth 70 = .ok (.if_icmp .ge 16, 3) := by decide +kernel
theorem dX11_cloth_73 : decode cX11_cloth 73 = .ok (.aload_n 0, 1) := by decide +kernel
theorem dX11_cloth_74 : decode cX11_cloth 74 = .ok (.getfield 29, 3) := by decide +kernel
theorem dX11_cloth_77 : decode cX11_cloth 77 = .ok (.iload_n 3, 1) := by decide +kernel
theorem dX11_cloth_78 : decode cX11_cloth 78 = .ok (.iconst 0, 1) := by decide +kernel
theorem dX11_cloth_79 : decode cX11_cloth 79 = .ok (.iastore, 1) := by decide +kernel
theorem dX11_cloth_80 : decode cX11_cloth 80 = .ok (.iinc 3 1, 3) := by decide +kernel
theorem dX11_cloth_83 : decode cX11_cloth 83 = .ok (.goto (-17), 3) := by decide +kernel
theorem dX11_cloth_86 : decode cX11_cloth 86 = .ok (.aload_n 0, 1) := by decide +kernel
theorem dX11_cloth_87 : decode cX11_cloth 87 = .ok (.iload_n 1, 1) := by decide +kernel
theorem dX11_cloth_88 : decode cX11_cloth 88 = .ok (.iload_n 2, 1) := by decide +kernel
theorem dX11_cloth_89 : decode cX11_cloth 89 = .ok (.imul, 1) := by decide +kernel
theorem dX11_cloth_90 : decode cX11_cloth 90 = .ok (.invokevirtual 58, 3) := by decide +kernel
theorem dX11_cloth_93 : decode cX11_cloth 93 = .ok (.ireturn, 1) := by decide +kernel
theorem dX11_wrongPick_0 : decode cX11_wrongPick 0 = .ok (.aload_n 0, 1) := by decide +kernel
theorem dX11_wrongPick_1 : decode cX11_wrongPick 1 = .ok (.getfield 104, 3) := by decide +kernel
theorem dX11_wrongPick_4 : decode cX11_wrongPick 4 = .ok (.ifCond .ne 5, 3) := by decide +kernel
theorem dX11_wrongPick_7 : decode cX11_wrongPick 7 = .ok (.iconst 1, 1) := by decide +kernel
theorem dX11_wrongPick_8 : decode cX11_wrongPick 8 = .ok (.ireturn, 1) := by decide +kernel
theorem dX11_wrongPick_9 : decode cX11_wrongPick 9 = .ok (.iload_n 1, 1) := by decide +kernel
theorem dX11_wrongPick_10 : decode cX11_wrongPick 10 = .ok (.ifCond .lt 11, 3) := by decide +kernel
theorem dX11_wrongPick_13 : decode cX11_wrongPick 13 = .ok (.iload_n 1, 1) := by decide +kernel
theorem dX11_wrongPick_14 : decode cX11_wrongPick 14 = .ok (.aload_n 0, 1) := by decide +kernel
theorem dX11_wrongPick_15 : decode cX11_wrongPick 15 = .ok (.getfield 108, 3) := by decide +kernel
theorem dX11_wrongPick_18 : decode cX11_wrongPick 18 = .ok (.if_icmp .lt 7, 3) := by decide +kernel
theorem dX11_wrongPick_21 : decode cX11_wrongPick 21 = .ok (.iconst 2, 1) := by decide +kernel
theorem dX11_wrongPick_22 : decode cX11_wrongPick 22 = .ok (.goto 4, 3) := by decide +kernel
theorem dX11_wrongPick_25 : decode cX11_wrongPick 25 = .ok (.iconst 0, 1) := by decide +kernel
theorem dX11_wrongPick_26 : decode cX11_wrongPick 26 = .ok (.ireturn, 1) := by decide +kernel
theorem dX11_goneOrWrong_0 : decode cX11_goneOrWrong 0 = .ok (.aload_n 0, 1) := by decide +kernel
theorem dX11_goneOrWrong_1 : decode cX11_goneOrWrong 1 = .ok (.iload_n 1, 1) := by decide +kernel
theorem dX11_goneOrWrong_2 : decode cX11_goneOrWrong 2 = .ok (.invokevirtual 114, 3) := by decide +kernel
theorem dX11_goneOrWrong_5 : decode cX11_goneOrWrong 5 = .ok (.istore_n 2, 1) := by decide +kernel
theorem dX11_goneOrWrong_6 : decode cX11_goneOrWrong 6 = .ok (.iload_n 2, 1) := by decide +kernel
theorem dX11_goneOrWrong_7 : decode cX11_goneOrWrong 7 = .ok (.ifCond .eq 5, 3) := by decide +kernel
theorem dX11_goneOrWrong_10 : decode cX11_goneOrWrong 10 = .ok (.iload_n 2, 1) := by decide +kernel
theorem dX11_goneOrWrong_11 : decode cX11_goneOrWrong 11 = .ok (.ireturn, 1) := by decide +kernel
theorem dX11_goneOrWrong_12 : decode cX11_goneOrWrong 12 = .ok (.aload_n 0, 1) := by decide +kernel
theorem dX11_goneOrWrong_13 : decode cX11_goneOrWrong 13 = .ok (.getfield 26, 3) := by decide +kernel
theorem dX11_goneOrWrong_16 : decode cX11_goneOrWrong 16 = .ok (.iload_n 1, 1) := by decide +kernel
theorem dX11_goneOrWrong_17 : decode cX11_goneOrWrong 17 = .ok (.iaload, 1) := by decide +kernel
theorem dX11_goneOrWrong_18 : decode cX11_goneOrWrong 18 = .ok (.iconst (-1), 1) := by decide +kernel
theorem dX11_goneOrWrong_19 : decode cX11_goneOrWrong 19 = .ok (.if_icmp .ne 7, 3) := by decide +kernel
theorem dX11_goneOrWrong_22 : decode cX11_goneOrWrong 22 = .ok (.iconst 1, 1) := by decide +kernel
theorem dX11_goneOrWrong_23 : decode cX11_goneOrWrong 23 = .ok (.goto 4, 3) := by decide +kernel
theorem dX11_goneOrWrong_26 : decode cX11_goneOrWrong 26 = .ok (.iconst 0, 1) := by decide +kernel
theorem dX11_goneOrWrong_27 : decode cX11_goneOrWrong 27 = .ok (.ireturn, 1) := by decide +kernel
theorem dX11_snip_0 : decode cX11_snip 0 = .ok (.aload_n 0, 1) := by decide +kernel
theorem dX11_snip_1 : decode cX11_snip 1 = .ok (.iload_n 1, 1) := by decide +kernel
theorem dX11_snip_2 : decode cX11_snip 2 = .ok (.invokevirtual 114, 3) := by decide +kernel
theorem dX11_snip_5 : decode cX11_snip 5 = .ok (.istore_n 2, 1) := by decide +kernel
theorem dX11_snip_6 : decode cX11_snip 6 = .ok (.iload_n 2, 1) := by decide +kernel
theorem dX11_snip_7 : decode cX11_snip 7 = .ok (.ifCond .eq 9, 3) := by decide +kernel
theorem dX11_snip_10 : decode cX11_snip 10 = .ok (.aload_n 0, 1) := by decide +kernel
theorem dX11_snip_11 : decode cX11_snip 11 = .ok (.iload_n 2, 1) := by decide +kernel
theorem dX11_snip_12 : decode cX11_snip 12 = .ok (.invokevirtual 51, 3) := by decide +kernel
theorem dX11_snip_15 : decode cX11_snip 15 = .ok (.ireturn, 1) := by decide +kernel
theorem dX11_snip_16 : decode cX11_snip 16 = .ok (.aload_n 0, 1) := by decide +kernel
theorem dX11_snip_17 : decode cX11_snip 17 = .ok (.getfield 26, 3) := by decide +kernel
theorem dX11_snip_20 : decode cX11_snip 20 = .ok (.iload_n 1, 1) := by decide +kernel
theorem dX11_snip_21 : decode cX11_snip 21 = .ok (.iaload, 1) := by decide +kernel
theorem dX11_snip_22 : decode cX11_snip 22 = .ok (.iconst (-1), 1) := by decide +kernel
theorem dX11_snip_23 : decode cX11_snip 23 = .ok (.if_icmp .ne 7, 3) := by decide +kernel
theorem dX11_snip_26 : decode cX11_snip 26 = .ok (.iconst 0, 1) := by decide +kernel
theorem dX11_snip_27 : decode cX11_snip 27 = .ok (.goto 4, 3) := by decide +kernel
theorem dX11_snip_30 : decode cX11_snip 30 = .ok (.iconst 1, 1) := by decide +kernel
theorem dX11_snip_31 : decode cX11_snip 31 = .ok (.istore_n 3, 1) := by decide +kernel
theorem dX11_snip_32 : decode cX11_snip 32 = .ok (.aload_n 0, 1) := by decide +kernel
theorem dX11_snip_33 : decode cX11_snip 33 = .ok (.getfield 26, 3) := by decide +kernel
theorem dX11_snip_36 : decode cX11_snip 36 = .ok (.iload_n 1, 1) := by decide +kernel
theorem dX11_snip_37 : decode cX11_snip 37 = .ok (.iconst (-1), 1) := by decide +kernel
theorem dX11_snip_38 : decode cX11_snip 38 = .ok (.iastore, 1) := by decide +kernel
theorem dX11_snip_39 : decode cX11_snip 39 = .ok (.aload_n 0, 1) := by decide +kernel
theorem dX11_snip_40 : decode cX11_snip 40 = .ok (.iload_n 3, 1) := by decide +kernel
theorem dX11_snip_41 : decode cX11_snip 41 = .ok (.invokevirtual 58, 3) := by decide +kernel
theorem dX11_snip_44 : decode cX11_snip 44 = .ok (.ireturn, 1) := by decide +kernel
theorem dX11_hang_0 : decode cX11_hang 0 = .ok (.aload_n 0, 1) := by decide +kernel
theorem dX11_hang_1 : decode cX11_hang 1 = .ok (.iload_n 2, 1) := by decide +kernel
theorem dX11_hang_2 : decode cX11_hang 2 = .ok (.invokevirtual 114, 3) := by decide +kernel
theorem dX11_hang_5 : decode cX11_hang 5 = .ok (.istore_n 3, 1) := by decide +kernel
theorem dX11_hang_6 : decode cX11_hang 6 = .ok (.iload_n 3, 1) := by decide +kernel
theorem dX11_hang_7 : decode cX11_hang 7 = .ok (.ifCond .ne 9, 3) := by decide +kernel
theorem dX11_hang_10 : decode cX11_hang 10 = .ok (.aload_n 0, 1) := by decide +kernel
theorem dX11_hang_11 : decode cX11_hang 11 = .ok (.iload_n 1, 1) := by decide +kernel
theorem dX11_hang_12 : decode cX11_hang 12 = .ok (.invokevirtual 114, 3) := by decide +kernel
theorem dX11_hang_15 : decode cX11_hang 15 = .ok (.istore_n 3, 1) := by decide +kernel
theorem dX11_hang_16 : decode cX11_hang 16 = .ok (.iload_n 3, 1) := by decide +kernel
theorem dX11_hang_17 : decode cX11_hang 17 = .ok (.ifCond .eq 9, 3) := by decide +kernel
theorem dX11_hang_20 : decode cX11_hang 20 = .ok (.aload_n 0, 1) := by decide +kernel
theorem dX11_hang_21 : decode cX11_hang 21 = .ok (.iload_n 3, 1) := by decide +kernel
theorem dX11_hang_22 : decode cX11_hang 22 = .ok (.invokevirtual 51, 3) := by decide +kernel
theorem dX11_hang_25 : decode cX11_hang 25 = .ok (.ireturn, 1) := by decide +kernel
theorem dX11_hang_26 : decode cX11_hang 26 = .ok (.aload_n 0, 1) := by decide +kernel
theorem dX11_hang_27 : decode cX11_hang 27 = .ok (.getfield 26, 3) := by decide +kernel
theorem dX11_hang_30 : decode cX11_hang 30 = .ok (.iload_n 1, 1) := by decide +kernel
theorem dX11_hang_31 : decode cX11_hang 31 = .ok (.aload_n 0, 1) := by decide +kernel
theorem dX11_hang_32 : decode cX11_hang 32 = .ok (.getfield 26, 3) := by decide +kernel
theorem dX11_hang_35 : decode cX11_hang 35 = .ok (.iload_n 2, 1) := by decide +kernel
theorem dX11_hang_36 : decode cX11_hang 36 = .ok (.iaload, 1) := by decide +kernel
theorem dX11_hang_37 : decode cX11_hang 37 = .ok (.iastore, 1) := by decide +kernel
theorem dX11_hang_38 : decode cX11_hang 38 = .ok (.aload_n 0, 1) := by decide +kernel
theorem dX11_hang_39 : decode cX11_hang 39 = .ok (.aload_n 0, 1) := by decide +kernel
theorem dX11_hang_40 : decode cX11_hang 40 = .ok (.getfield 26, 3) := by decide +kernel
theorem dX11_hang_43 : decode cX11_hang 43 = .ok (.iload_n 1, 1) := by decide +kernel
theorem dX11_hang_44 : decode cX11_hang 44 = .ok (.iaload, 1) := by decide +kernel
theorem dX11_hang_45 : decode cX11_hang 45 = .ok (.iconst (-1), 1) := by decide +kernel
theorem dX11_hang_46 : decode cX11_hang 46 = .ok (.if_icmp .ne 7, 3) := by decide +kernel
theorem dX11_hang_49 : decode cX11_hang 49 = .ok (.iconst 0, 1) := by decide +kernel
theorem dX11_hang_50 : decode cX11_hang 50 = .ok (.goto 7, 3) := by decide +kernel
theorem dX11_hang_53 : decode cX11_hang 53 = .ok (.aload_n 0, 1) := by decide +kernel
theorem dX11_hang_54 : decode cX11_hang 54 = .ok (.getfield 111, 3) := by decide +kernel
theorem dX11_hang_57 : decode cX11_hang 57 = .ok (.invokevirtual 58, 3) := by decide +kernel
theorem dX11_hang_60 : decode cX11_hang 60 = .ok (.ireturn, 1) := by decide +kernel
theorem dX11_cell_0 : decode cX11_cell 0 = .ok (.aload_n 0, 1) := by decide +kernel
theorem dX11_cell_1 : decode cX11_cell 1 = .ok (.iload_n 1, 1) := by decide +kernel
theorem dX11_cell_2 : decode cX11_cell 2 = .ok (.invokevirtual 117, 3) := by decide +kernel
theorem dX11_cell_5 : decode cX11_cell 5 = .ok (.istore_n 3, 1) := by decide +kernel
theorem dX11_cell_6 : decode cX11_cell 6 = .ok (.iload_n 3, 1) := by decide +kernel
theorem dX11_cell_7 : decode cX11_cell 7 = .ok (.ifCond .ne 17, 3) := by decide +kernel
theorem dX11_cell_10 : decode cX11_cell 10 = .ok (.iload_n 2, 1) := by decide +kernel
theorem dX11_cell_11 : decode cX11_cell 11 = .ok (.ifCond .lt 11, 3) := by decide +kernel
theorem dX11_cell_14 : decode cX11_cell 14 = .ok (.iload_n 2, 1) := by decide +kernel
theorem dX11_cell_15 : decode cX11_cell 15 = .ok (.aload_n 0, 1) := by decide +kernel
theorem dX11_cell_16 : decode cX11_cell 16 = .ok (.getfield 111, 3) := by decide +kernel
theorem dX11_cell_19 : decode cX11_cell 19 = .ok (.if_icmp .lt 5, 3) := by decide +kernel
theorem dX11_cell_22 : decode cX11_cell 22 = .ok (.iconst 2, 1) := by decide +kernel
theorem dX11_cell_23 : decode cX11_cell 23 = .ok (.istore_n 3, 1) := by decide +kernel
theorem dX11_cell_24 : decode cX11_cell 24 = .ok (.iload_n 3, 1) := by decide +kernel
theorem dX11_cell_25 : decode cX11_cell 25 = .ok (.ifCond .eq 9, 3) := by decide +kernel
theorem dX11_cell_28 : decode cX11_cell 28 = .ok (.aload_n 0, 1) := by decide +kernel
theorem dX11_cell_29 : decode cX11_cell 29 = .ok (.iload_n 3, 1) := by decide +kernel
theorem dX11_cell_30 : decode cX11_cell 30 = .ok (.invokevirtual 51, 3) := by decide +kernel
theorem dX11_cell_33 : decode cX11_cell 33 = .ok (.ireturn, 1) := by decide +kernel
theorem dX11_cell_34 : decode cX11_cell 34 = .ok (.aload_n 0, 1) := by decide +kernel
theorem dX11_cell_35 : decode cX11_cell 35 = .ok (.aload_n 0, 1) := by decide +kernel
theorem dX11_cell_36 : decode cX11_cell 36 = .ok (.getfield 29, 3) := by decide +kernel
theorem dX11_cell_39 : decode cX11_cell 39 = .ok (.bipush 24, 2) := by decide +kernel
theorem dX11_cell_41 : decode cX11_cell 41 = .ok (.aload_n 0, 1) := by decide +kernel
theorem dX11_cell_42 : decode cX11_cell 42 = .ok (.getfield 26, 3) := by decide +kernel
theorem dX11_cell_45 : decode cX11_cell 45 = .ok (.iload_n 1, 1) := by decide +kernel
theorem dX11_cell_46 : decode cX11_cell 46 = .ok (.iaload, 1) := by decide +kernel
theorem dX11_cell_47 : decode cX11_cell 47 = .ok (.imul, 1) := by decide +kernel
theorem dX11_cell_48 : decode cX11_cell 48 = .ok (.iload_n 2, 1) := by decide +kernel
theorem dX11_cell_49 : decode cX11_cell 49 = .ok (.iadd, 1) := by decide +kernel
theorem dX11_cell_50 : decode cX11_cell 50 = .ok (.iaload, 1) := by decide +kernel
theorem dX11_cell_51 : decode cX11_cell 51 = .ok (.invokevirtual 58, 3) := by decide +kernel
theorem dX11_cell_54 : decode cX11_cell 54 = .ok (.ireturn, 1) := by decide +kernel
theorem dX11_weave_0 : decode cX11_weave 0 = .ok (.iload_n 1, 1) := by decide +kernel
theorem dX11_weave_1 : decode cX11_weave 1 = .ok (.invokestatic 38, 3) := by decide +kernel
theorem dX11_weave_4 : decode cX11_weave 4 = .ok (.ifCond .ne 6, 3) := by decide +kernel
theorem dX11_weave_7 : decode cX11_weave 7 = .ok (.ldc 50, 2) := by decide +kernel
theorem dX11_weave_9 : decode cX11_weave 9 = .ok (.ireturn, 1) := by decide +kernel
theorem dX11_weave_10 : decode cX11_weave 10 = .ok (.aload_n 0, 1) := by decide +kernel
theorem dX11_weave_11 : decode cX11_weave 11 = .ok (.iload_n 2, 1) := by decide +kernel
theorem dX11_weave_12 : decode cX11_weave 12 = .ok (.invokevirtual 117, 3) := by decide +kernel
theorem dX11_weave_15 : decode cX11_weave 15 = .ok (.istore 4, 2) := by decide +kernel
theorem dX11_weave_17 : decode cX11_weave 17 = .ok (.iload 4, 2) := by decide +kernel
theorem dX11_weave_19 : decode cX11_weave 19 = .ok (.ifCond .eq 10, 3) := by decide +kernel
theorem dX11_weave_22 : decode cX11_weave 22 = .ok (.aload_n 0, 1) := by decide +kernel
theorem dX11_weave_23 : decode cX11_weave 23 = .ok (.iload 4, 2) := by decide +kernel
theorem dX11_weave_25 : decode cX11_weave 25 = .ok (.invokevirtual 51, 3) := by decide +kernel
theorem dX11_weave_28 : decode cX11_weave 28 = .ok (.ireturn, 1) := by decide +kernel
theorem dX11_weave_29 : decode cX11_weave 29 = .ok (.iconst 0, 1) := by decide +kernel
theorem dX11_weave_30 : decode cX11_weave 30 = .ok (.istore 5, 2) := by decide +kernel
theorem dX11_weave_32 : decode cX11_weave 32 = .ok (.iload 5, 2) := by decide +kernel
theorem dX11_weave_34 : decode cX11_weave 34 = .ok (.aload_n 0, 1) := by decide +kernel
theorem dX11_weave_35 : decode cX11_weave 35 = .ok (.getfield 111, 3) := by decide +kernel
theorem dX11_weave_38 : decode cX11_weave 38 = .ok (.if_icmp .ge 173, 3) := by decide +kernel
theorem dX11_weave_41 : decode cX11_weave 41 = .ok (.aload_n 0, 1) := by decide +kernel
theorem dX11_weave_42 : decode cX11_weave 42 = .ok (.iconst 5, 1) := by decide +kernel
theorem dX11_weave_43 : decode cX11_weave 43 = .ok (.iload_n 1, 1) := by decide +kernel
theorem dX11_weave_44 : decode cX11_weave 44 = .ok (.imul, 1) := by decide +kernel
theorem dX11_weave_45 : decode cX11_weave 45 = .ok (.iconst 3, 1) := by decide +kernel
theorem dX11_weave_46 : decode cX11_weave 46 = .ok (.iadd, 1) := by decide +kernel
theorem dX11_weave_47 : decode cX11_weave 47 = .ok (.iload 5, 2) := by decide +kernel
theorem dX11_weave_49 : decode cX11_weave 49 = .ok (.invokevirtual 84, 3) := by decide +kernel
theorem dX11_weave_52 : decode cX11_weave 52 = .ok (.istore 4, 2) := by decide +kernel
theorem dX11_weave_54 : decode cX11_weave 54 = .ok (.iload 4, 2) := by decide +kernel
theorem dX11_weave_56 : decode cX11_weave 56 = .ok (.ifCond .ne 26, 3) := by decide +kernel
theorem dX11_weave_59 : decode cX11_weave 59 = .ok (.aload_n 0, 1) := by decide +kernel
theorem dX11_weave_60 : decode cX11_weave 60 = .ok (.iload_n 1, 1) := by decide +kernel
theorem dX11_weave_61 : decode cX11_weave 61 = .ok (.iload 5, 2) := by decide +kernel
theorem dX11_weave_63 : decode cX11_weave 63 = .ok (.invokevirtual 120, 3) := by decide +kernel
theorem dX11_weave_66 : decode cX11_weave 66 = .ok (.ifCond .eq 16, 3) := by decide +kernel
theorem dX11_weave_69 : decode cX11_weave 69 = .ok (.aload_n 0, 1) := by decide +kernel
theorem dX11_weave_70 : decode cX11_weave 70 = .ok (.iconst 5, 1) := by decide +kernel
theorem dX11_weave_71 : decode cX11_weave 71 = .ok (.iload_n 1, 1) := by decide +kernel
theorem dX11_weave_72 : decode cX11_weave 72 = .ok (.imul, 1) := by decide +kernel
theorem dX11_weave_73 : decode cX11_weave 73 = .ok (.iconst 0, 1) := by decide +kernel
theorem dX11_weave_74 : decode cX11_weave 74 = .ok (.iadd, 1) := by decide +kernel
theorem dX11_weave_75 : decode cX11_weave 75 = .ok (.iload 5, 2) := by decide +kernel
theorem dX11_weave_77 : decode cX11_weave 77 = .ok (.invokevirtual 84, 3) := by decide +kernel
theorem dX11_weave_80 : decode cX11_weave 80 = .ok (.istore 4, 2) := by decide +kernel
theorem dX11_weave_82 : decode cX11_weave 82 = .ok (.iload 4, 2) := by decide +kernel
theorem dX11_weave_84 : decode cX11_weave 84 = .ok (.ifCond .ne 16, 3) := by decide +kernel
theorem dX11_weave_87 : decode cX11_weave 87 = .ok (.aload_n 0, 1) := by decide +kernel
theorem dX11_weave_88 : decode cX11_weave 88 = .ok (.iconst 5, 1) := by decide +kernel
theorem dX11_weave_89 : decode cX11_weave 89 = .ok (.iload_n 1, 1) := by decide +kernel
theorem dX11_weave_90 : decode cX11_weave 90 = .ok (.imul, 1) := by decide +kernel
theorem dX11_weave_91 : decode cX11_weave 91 = .ok (.iconst 1, 1) := by decide +kernel
theorem dX11_weave_92 : decode cX11_weave 92 = .ok (.iadd, 1) := by decide +kernel
theorem dX11_weave_93 : decode cX11_weave 93 = .ok (.iload 5, 2) := by decide +kernel
theorem dX11_weave_95 : decode cX11_weave 95 = .ok (.invokevirtual 84, 3) := by decide +kernel
theorem dX11_weave_98 : decode cX11_weave 98 = .ok (.istore 4, 2) := by decide +kernel
theorem dX11_weave_100 : decode cX11_weave 100 = .ok (.iload 4, 2) := by decide +kernel
theorem dX11_weave_102 : decode cX11_weave 102 = .ok (.ifCond .eq 13, 3) := by decide +kernel
theorem dX11_weave_105 : decode cX11_weave 105 = .ok (.aload_n 0, 1) := by decide +kernel
theorem dX11_weave_106 : decode cX11_weave 106 = .ok (.iload 4, 2) := by decide +kernel
theorem dX11_weave_108 : decode cX11_weave 108 = .ok (.invokevirtual 51, 3) := by decide +kernel
theorem dX11_weave_111 : decode cX11_weave 111 = .ok (.pop, 1) := by decide +kernel
theorem dX11_weave_112 : decode cX11_weave 112 = .ok (.iload 5, 2) := by decide +kernel
theorem dX11_weave_114 : decode cX11_weave 114 = .ok (.ireturn, 1) := by decide +kernel
theorem dX11_weave_115 : decode cX11_weave 115 = .ok (.bipush 24, 2) := by decide +kernel
theorem dX11_weave_117 : decode cX11_weave 117 = .ok (.aload_n 0, 1) := by decide +kernel
theorem dX11_weave_118 : decode cX11_weave 118 = .ok (.getfield 7, 3) := by decide +kernel
theorem dX11_weave_121 : decode cX11_weave 121 = .ok (.iconst 5, 1) := by decide +kernel
theorem dX11_weave_122 : decode cX11_weave 122 = .ok (.iload_n 1, 1) := by decide +kernel
theorem dX11_weave_123 : decode cX11_weave 123 = .ok (.imul, 1) := by decide +kernel
theorem dX11_weave_124 : decode cX11_weave 124 = .ok (.iconst 1, 1) := by decide +kernel
theorem dX11_weave_125 : decode cX11_weave 125 = .ok (.iadd, 1) := by decide +kernel
theorem dX11_weave_126 : decode cX11_weave 126 = .ok (.iaload, 1) := by decide +kernel
theorem dX11_weave_127 : decode cX11_weave 127 = .ok (.imul, 1) := by decide +kernel
theorem dX11_weave_128 : decode cX11_weave 128 = .ok (.iload 5, 2) := by decide +kernel
theorem dX11_weave_130 : decode cX11_weave 130 = .ok (.iadd, 1) := by decide +kernel
theorem dX11_weave_131 : decode cX11_weave 131 = .ok (.istore 6, 2) := by decide +kernel
theorem dX11_weave_133 : decode cX11_weave 133 = .ok (.aload_n 0, 1) := by decide +kernel
theorem dX11_weave_134 : decode cX11_weave 134 = .ok (.getfield 16, 3) := by decide +kernel
theorem dX11_weave_137 : decode cX11_weave 137 = .ok (.iload 6, 2) := by decide +kernel
theorem dX11_weave_139 : decode cX11_weave 139 = .ok (.iconst 1, 1) := by decide +kernel
theorem dX11_weave_140 : decode cX11_weave 140 = .ok (.aload_n 0, 1) := by decide +kernel
theorem dX11_weave_141 : decode cX11_weave 141 = .ok (.getfield 16, 3) := by decide +kernel
theorem dX11_weave_144 : decode cX11_weave 144 = .ok (.iload 6, 2) := by decide +kernel
theorem dX11_weave_146 : decode cX11_weave 146 = .ok (.iaload, 1) := by decide +kernel
theorem dX11_weave_147 : decode cX11_weave 147 = .ok (.iconst 1, 1) := by decide +kernel
theorem dX11_weave_148 : decode cX11_weave 148 = .ok (.isub, 1) := by decide +kernel
theorem dX11_weave_149 : decode cX11_weave 149 = .ok (.invokestatic 76, 3) := by decide +kernel
theorem dX11_weave_152 : decode cX11_weave 152 = .ok (.iastore, 1) := by decide +kernel
theorem dX11_weave_153 : decode cX11_weave 153 = .ok (.aload_n 0, 1) := by decide +kernel
theorem dX11_weave_154 : decode cX11_weave 154 = .ok (.getfield 29, 3) := by decide +kernel
theorem dX11_weave_157 : decode cX11_weave 157 = .ok (.bipush 24, 2) := by decide +kernel
theorem dX11_weave_159 : decode cX11_weave 159 = .ok (.aload_n 0, 1) := by decide +kernel
theorem dX11_weave_160 : decode cX11_weave 160 = .ok (.getfield 26, 3) := by decide +kernel
theorem dX11_weave_163 : decode cX11_weave 163 = .ok (.iload_n 2, 1) := by decide +kernel
theorem dX11_weave_164 : decode cX11_weave 164 = .ok (.iaload, 1) := by decide +kernel
theorem dX11_weave_165 : decode cX11_weave 165 = .ok (.imul, 1) := by decide +kernel
theorem dX11_weave_166 : decode cX11_weave 166 = .ok (.iload 5, 2) := by decide +kernel
theorem dX11_weave_168 : decode cX11_weave 168 = .ok (.iadd, 1) := by decide +kernel
theorem dX11_weave_169 : decode cX11_weave 169 = .ok (.aload_n 0, 1) := by decide +kernel
theorem dX11_weave_170 : decode cX11_weave 170 = .ok (.iload_n 1, 1) := by decide +kernel
theorem dX11_weave_171 : decode cX11_weave 171 = .ok (.iload 5, 2) := by decide +kernel
theorem dX11_weave_173 : decode cX11_weave 173 = .ok (.invokevirtual 120, 3) := by decide +kernel
theorem dX11_weave_176 : decode cX11_weave 176 = .ok (.ifCond .eq 27, 3) := by decide +kernel
theorem dX11_weave_179 : decode cX11_weave 179 = .ok (.aload_n 0, 1) := by decide +kernel
theorem dX11_weave_180 : decode cX11_weave 180 = .ok (.getfield 16, 3) := by decide +kernel
theorem dX11_weave_183 : decode cX11_weave 183 = .ok (.bipush 24, 2) := by decide +kernel
theorem dX11_weave_185 : decode cX11_weave 185 = .ok (.aload_n 0, 1) := by decide +kernel
theorem dX11_weave_186 : decode cX11_weave 186 = .ok (.getfield 7, 3) := by decide +kernel
theorem dX11_weave_189 : decode cX11_weave 189 = .ok (.iconst 5, 1) := by decide +kernel
theorem dX11_weave_190 : decode cX11_weave 190 = .ok (.iload_n 1, 1) := by decide +kernel
theorem dX11_weave_191 : decode cX11_weave 191 = .ok (.imul, 1) := by decide +kernel
theorem dX11_weave_192 : decode cX11_weave 192 = .ok (.iconst 0, 1) := by decide +kernel
theorem dX11_weave_193 : decode cX11_weave 193 = .ok (.iadd, 1) := by decide +kernel
theorem dX11_weave_194 : decode cX11_weave 194 = .ok (.iaload, 1) := by decide +kernel
theorem dX11_weave_195 : decode cX11_weave 195 = .ok (.imul, 1) := by decide +kernel
theorem dX11_weave_196 : decode cX11_weave 196 = .ok (.iload 5, 2) := by decide +kernel
theorem dX11_weave_198 : decode cX11_weave 198 = .ok (.iadd, 1) := by decide +kernel
theorem dX11_weave_199 : decode cX11_weave 199 = .ok (.iaload, 1) := by decide +kernel
theorem dX11_weave_200 : decode cX11_weave 200 = .ok (.goto 4, 3) := by decide +kernel
theorem dX11_weave_203 : decode cX11_weave 203 = .ok (.iload_n 3, 1) := by decide +kernel
theorem dX11_weave_204 : decode cX11_weave 204 = .ok (.iastore, 1) := by decide +kernel
theorem dX11_weave_205 : decode cX11_weave 205 = .ok (.iinc 5 1, 3) := by decide +kernel
theorem dX11_weave_208 : decode cX11_weave 208 = .ok (.goto (-176), 3) := by decide +kernel
theorem dX11_weave_211 : decode cX11_weave 211 = .ok (.aload_n 0, 1) := by decide +kernel
theorem dX11_weave_212 : decode cX11_weave 212 = .ok (.dup, 1) := by decide +kernel
theorem dX11_weave_213 : decode cX11_weave 213 = .ok (.getfield 123, 3) := by decide +kernel
theorem dX11_weave_216 : decode cX11_weave 216 = .ok (.iconst 1, 1) := by decide +kernel
theorem dX11_weave_217 : decode cX11_weave 217 = .ok (.iadd, 1) := by decide +kernel
theorem dX11_weave_218 : decode cX11_weave 218 = .ok (.putfield 123, 3) := by decide +kernel
theorem dX11_weave_221 : decode cX11_weave 221 = .ok (.aload_n 0, 1) := by decide +kernel
theorem dX11_weave_222 : decode cX11_weave 222 = .ok (.iload 5, 2) := by decide +kernel
theorem dX11_weave_224 : decode cX11_weave 224 = .ok (.invokevirtual 58, 3) := by decide +kernel
theorem dX11_weave_227 : decode cX11_weave 227 = .ok (.ireturn, 1) := by decide +kernel
theorem dX11_isUp_0 : decode cX11_isUp 0 = .ok (.aload_n 0, 1) := by decide +kernel
theorem dX11_isUp_1 : decode cX11_isUp 1 = .ok (.getfield 16, 3) := by decide +kernel
theorem dX11_isUp_4 : decode cX11_isUp 4 = .ok (.bipush 24, 2) := by decide +kernel
theorem dX11_isUp_6 : decode cX11_isUp 6 = .ok (.aload_n 0, 1) := by decide +kernel
theorem dX11_isUp_7 : decode cX11_isUp 7 = .ok (.getfield 7, 3) := by decide +kernel
theorem dX11_isUp_10 : decode cX11_isUp 10 = .ok (.iconst 5, 1) := by decide +kernel
theorem dX11_isUp_11 : decode cX11_isUp 11 = .ok (.iload_n 1, 1) := by decide +kernel
theorem dX11_isUp_12 : decode cX11_isUp 12 = .ok (.imul, 1) := by decide +kernel
theorem dX11_isUp_13 : decode cX11_isUp 13 = .ok (.iconst 3, 1) := by decide +kernel
theorem dX11_isUp_14 : decode cX11_isUp 14 = .ok (.iadd, 1) := by decide +kernel
theorem dX11_isUp_15 : decode cX11_isUp 15 = .ok (.iaload, 1) := by decide +kernel
theorem dX11_isUp_16 : decode cX11_isUp 16 = .ok (.imul, 1) := by decide +kernel
theorem dX11_isUp_17 : decode cX11_isUp 17 = .ok (.iload_n 2, 1) := by decide +kernel
theorem dX11_isUp_18 : decode cX11_isUp 18 = .ok (.iadd, 1) := by decide +kernel
theorem dX11_isUp_19 : decode cX11_isUp 19 = .ok (.iaload, 1) := by decide +kernel
theorem dX11_isUp_20 : decode cX11_isUp 20 = .ok (.iconst 1, 1) := by decide +kernel
theorem dX11_isUp_21 : decode cX11_isUp 21 = .ok (.if_icmp .ne 7, 3) := by decide +kernel
theorem dX11_isUp_24 : decode cX11_isUp 24 = .ok (.iconst 1, 1) := by decide +kernel
theorem dX11_isUp_25 : decode cX11_isUp 25 = .ok (.goto 4, 3) := by decide +kernel
theorem dX11_isUp_28 : decode cX11_isUp 28 = .ok (.iconst 0, 1) := by decide +kernel
theorem dX11_isUp_29 : decode cX11_isUp 29 = .ok (.ireturn, 1) := by decide +kernel
theorem dX11_card_0 : decode cX11_card 0 = .ok (.iload_n 1, 1) := by decide +kernel
theorem dX11_card_1 : decode cX11_card 1 = .ok (.ifCond .lt 25, 3) := by decide +kernel
theorem dX11_card_4 : decode cX11_card 4 = .ok (.iload_n 1, 1) := by decide +kernel
theorem dX11_card_5 : decode cX11_card 5 = .ok (.iconst 4, 1) := by decide +kernel
theorem dX11_card_6 : decode cX11_card 6 = .ok (.if_icmp .gt 20, 3) := by decide +kernel
theorem dX11_card_9 : decode cX11_card 9 = .ok (.iload_n 2, 1) := by decide +kernel
theorem dX11_card_10 : decode cX11_card 10 = .ok (.iload_n 3, 1) := by decide +kernel
theorem dX11_card_11 : decode cX11_card 11 = .ok (.invokestatic 46, 3) := by decide +kernel
theorem dX11_card_14 : decode cX11_card 14 = .ok (.ifCond .eq 12, 3) := by decide +kernel
theorem dX11_card_17 : decode cX11_card 17 = .ok (.aload_n 0, 1) := by decide +kernel
theorem dX11_card_18 : decode cX11_card 18 = .ok (.getfield 126, 3) := by decide +kernel
theorem dX11_card_21 : decode cX11_card 21 = .ok (.bipush 12, 2) := by decide +kernel
theorem dX11_card_23 : decode cX11_card 23 = .ok (.if_icmp .ne 6, 3) := by decide +kernel
theorem dX11_card_26 : decode cX11_card 26 = .ok (.ldc 50, 2) := by decide +kernel
theorem dX11_card_28 : decode cX11_card 28 = .ok (.ireturn, 1) := by decide +kernel
theorem dX11_card_29 : decode cX11_card 29 = .ok (.iconst 5, 1) := by decide +kernel
theorem dX11_card_30 : decode cX11_card 30 = .ok (.aload_n 0, 1) := by decide +kernel
theorem dX11_card_31 : decode cX11_card 31 = .ok (.getfield 126, 3) := by decide +kernel
theorem dX11_card_34 : decode cX11_card 34 = .ok (.imul, 1) := by decide +kernel
theorem dX11_card_35 : decode cX11_card 35 = .ok (.istore 6, 2) := by decide +kernel
theorem dX11_card_37 : decode cX11_card 37 = .ok (.aload_n 0, 1) := by decide +kernel
theorem dX11_card_38 : decode cX11_card 38 = .ok (.getfield 32, 3) := by decide +kernel
theorem dX11_card_41 : decode cX11_card 41 = .ok (.iload 6, 2) := by decide +kernel
theorem dX11_card_43 : decode cX11_card 43 = .ok (.iload_n 1, 1) := by decide +kernel
theorem dX11_card_44 : decode cX11_card 44 = .ok (.iastore, 1) := by decide +kernel
theorem dX11_card_45 : decode cX11_card 45 = .ok (.aload_n 0, 1) := by decide +kernel
theorem dX11_card_46 : decode cX11_card 46 = .ok (.getfield 32, 3) := by decide +kernel
theorem dX11_card_49 : decode cX11_card 49 = .ok (.iload 6, 2) := by decide +kernel
theorem dX11_card_51 : decode cX11_card 51 = .ok (.iconst 1, 1) := by decide +kernel
theorem dX11_card_52 : decode cX11_card 52 = .ok (.iadd, 1) := by decide +kernel
theorem dX11_card_53 : decode cX11_card 53 = .ok (.iload_n 2, 1) := by decide +kernel
theorem dX11_card_54 : decode cX11_card 54 = .ok (.iastore, 1) := by decide +kernel
theorem dX11_card_55 : decode cX11_card 55 = .ok (.aload_n 0, 1) := by decide +kernel
theorem dX11_card_56 : decode cX11_card 56 = .ok (.getfield 32, 3) := by decide +kernel
theorem dX11_card_59 : decode cX11_card 59 = .ok (.iload 6, 2) := by decide +kernel
theorem dX11_card_61 : decode cX11_card 61 = .ok (.iconst 2, 1) := by decide +kernel
theorem dX11_card_62 : decode cX11_card 62 = .ok (.iadd, 1) := by decide +kernel
theorem dX11_card_63 : decode cX11_card 63 = .ok (.iload_n 3, 1) := by decide +kernel
theorem dX11_card_64 : decode cX11_card 64 = .ok (.iastore, 1) := by decide +kernel
theorem dX11_card_65 : decode cX11_card 65 = .ok (.aload_n 0, 1) := by decide +kernel
theorem dX11_card_66 : decode cX11_card 66 = .ok (.getfield 32, 3) := by decide +kernel
theorem dX11_card_69 : decode cX11_card 69 = .ok (.iload 6, 2) := by decide +kernel
theorem dX11_card_71 : decode cX11_card 71 = .ok (.iconst 3, 1) := by decide +kernel
theorem dX11_card_72 : decode cX11_card 72 = .ok (.iadd, 1) := by decide +kernel
theorem dX11_card_73 : decode cX11_card 73 = .ok (.iload 4, 2) := by decide +kernel
theorem dX11_card_75 : decode cX11_card 75 = .ok (.iastore, 1) := by decide +kernel
theorem dX11_card_76 : decode cX11_card 76 = .ok (.aload_n 0, 1) := by decide +kernel
theorem dX11_card_77 : decode cX11_card 77 = .ok (.getfield 32, 3) := by decide +kernel
theorem dX11_card_80 : decode cX11_card 80 = .ok (.iload 6, 2) := by decide +kernel
theorem dX11_card_82 : decode cX11_card 82 = .ok (.iconst 4, 1) := by decide +kernel
theorem dX11_card_83 : decode cX11_card 83 = .ok (.iadd, 1) := by decide +kernel
theorem dX11_card_84 : decode cX11_card 84 = .ok (.iload 5, 2) := by decide +kernel
theorem dX11_card_86 : decode cX11_card 86 = .ok (.iastore, 1) := by decide +kernel
theorem dX11_card_87 : decode cX11_card 87 = .ok (.aload_n 0, 1) := by decide +kernel
theorem dX11_card_88 : decode cX11_card 88 = .ok (.dup, 1) := by decide +kernel
theorem dX11_card_89 : decode cX11_card 89 = .ok (.getfield 126, 3) := by decide +kernel
theorem dX11_card_92 : decode cX11_card 92 = .ok (.iconst 1, 1) := by decide +kernel
theorem dX11_card_93 : decode cX11_card 93 = .ok (.iadd, 1) := by decide +kernel
theorem dX11_card_94 : decode cX11_card 94 = .ok (.putfield 126, 3) := by decide +kernel
theorem dX11_card_97 : decode cX11_card 97 = .ok (.aload_n 0, 1) := by decide +kernel
theorem dX11_card_98 : decode cX11_card 98 = .ok (.getfield 126, 3) := by decide +kernel
theorem dX11_card_101 : decode cX11_card 101 = .ok (.ireturn, 1) := by decide +kernel
theorem dX11_unhook_0 : decode cX11_unhook 0 = .ok (.aload_n 0, 1) := by decide +kernel
theorem dX11_unhook_1 : decode cX11_unhook 1 = .ok (.getfield 126, 3) := by decide +kernel
theorem dX11_unhook_4 : decode cX11_unhook 4 = .ok (.istore_n 1, 1) := by decide +kernel
theorem dX11_unhook_5 : decode cX11_unhook 5 = .ok (.aload_n 0, 1) := by decide +kernel
theorem dX11_unhook_6 : decode cX11_unhook 6 = .ok (.iconst 0, 1) := by decide +kernel
theorem dX11_unhook_7 : decode cX11_unhook 7 = .ok (.putfield 126, 3) := by decide +kernel
theorem dX11_unhook_10 : decode cX11_unhook 10 = .ok (.iload_n 1, 1) := by decide +kernel
theorem dX11_unhook_11 : decode cX11_unhook 11 = .ok (.ireturn, 1) := by decide +kernel
theorem dX11_keeper_0 : decode cX11_keeper 0 = .ok (.iload_n 1, 1) := by decide +kernel
theorem dX11_keeper_1 : decode cX11_keeper 1 = .ok (.bipush (-63), 2) := by decide +kernel
theorem dX11_keeper_3 : decode cX11_keeper 3 = .ok (.iand, 1) := by decide +kernel
theorem dX11_keeper_4 : decode cX11_keeper 4 = .ok (.ifCond .eq 5, 3) := by decide +kernel
theorem dX11_keeper_7 : decode cX11_keeper 7 = .ok (.iconst 0, 1) := by decide +kernel
theorem dX11_keeper_8 : decode cX11_keeper 8 = .ok (.ireturn, 1) := by decide +kernel
theorem dX11_keeper_9 : decode cX11_keeper 9 = .ok (.aload_n 0, 1) := by decide +kernel
theorem dX11_keeper_10 : decode cX11_keeper 10 = .ok (.iload_n 1, 1) := by decide +kernel
theorem dX11_keeper_11 : decode cX11_keeper 11 = .ok (.putfield 129, 3) := by decide +kernel
theorem dX11_keeper_14 : decode cX11_keeper 14 = .ok (.iconst 1, 1) := by decide +kernel
theorem dX11_keeper_15 : decode cX11_keeper 15 = .ok (.ireturn, 1) := by decide +kernel
theorem dX11_run_0 : decode cX11_run 0 = .ok (.iload_n 1, 1) := by decide +kernel
theorem dX11_run_1 : decode cX11_run 1 = .ok (.iconst 1, 1) := by decide +kernel
theorem dX11_run_2 : decode cX11_run 2 = .ok (.if_icmp .lt 16, 3) := by decide +kernel
theorem dX11_run_5 : decode cX11_run 5 = .ok (.iload_n 1, 1) := by decide +kernel
theorem dX11_run_6 : decode cX11_run 6 = .ok (.bipush 12, 2) := by decide +kernel
theorem dX11_run_8 : decode cX11_run 8 = .ok (.if_icmp .gt 10, 3) := by decide +kernel
theorem dX11_run_11 : decode cX11_run 11 = .ok (.aload_n 0, 1) := by decide +kernel
theorem dX11_run_12 : decode cX11_run 12 = .ok (.getfield 126, 3) := by decide +kernel
theorem dX11_run_15 : decode cX11_run 15 = .ok (.ifCond .ne 6, 3) := by decide +kernel
theorem dX11_run_18 : decode cX11_run 18 = .ok (.ldc 50, 2) := by decide +kernel
theorem dX11_run_20 : decode cX11_run 20 = .ok (.ireturn, 1) := by decide +kernel
theorem dX11_run_21 : decode cX11_run 21 = .ok (.aload_n 0, 1) := by decide +kernel
theorem dX11_run_22 : decode cX11_run 22 = .ok (.iconst 0, 1) := by decide +kernel
theorem dX11_run_23 : decode cX11_run 23 = .ok (.putfield 132, 3) := by decide +kernel
theorem dX11_run_26 : decode cX11_run 26 = .ok (.iconst 0, 1) := by decide +kernel
theorem dX11_run_27 : decode cX11_run 27 = .ok (.istore_n 2, 1) := by decide +kernel
theorem dX11_run_28 : decode cX11_run 28 = .ok (.aload_n 0, 1) := by decide +kernel
theorem dX11_run_29 : decode cX11_run 29 = .ok (.iconst 0, 1) := by decide +kernel
theorem dX11_run_30 : decode cX11_run 30 = .ok (.putfield 42, 3) := by decide +kernel
theorem dX11_run_33 : decode cX11_run 33 = .ok (.iconst 1, 1) := by decide +kernel
theorem dX11_run_34 : decode cX11_run 34 = .ok (.istore_n 3, 1) := by decide +kernel
theorem dX11_run_35 : decode cX11_run 35 = .ok (.iload_n 2, 1) := by decide +kernel
theorem dX11_run_36 : decode cX11_run 36 = .ok (.iload_n 1, 1) := by decide +kernel
theorem dX11_run_37 : decode cX11_run 37 = .ok (.if_icmp .ge 116, 3) := by decide +kernel
theorem dX11_run_40 : decode cX11_run 40 = .ok (.iload_n 3, 1) := by decide +kernel
theorem dX11_run_41 : decode cX11_run 41 = .ok (.ifCond .eq 112, 3) := by decide +kernel
theorem dX11_run_44 : decode cX11_run 44 = .ok (.iconst 5, 1) := by decide +kernel
theorem dX11_run_45 : decode cX11_run 45 = .ok (.iload_n 2, 1) := by decide +kernel
theorem dX11_run_46 : decode cX11_run 46 = .ok (.aload_n 0, 1) := by decide +kernel
theorem dX11_run_47 : decode cX11_run 47 = .ok (.getfield 126, 3) := by decide +kernel
theorem dX11_run_50 : decode cX11_run 50 = .ok (.irem, 1) := by decide +kernel
theorem dX11_run_51 : decode cX11_run 51 = .ok (.imul, 1) := by decide +kernel
theorem dX11_run_52 : decode cX11_run 52 = .ok (.istore 4, 2) := by decide +kernel
theorem dX11_run_54 : decode cX11_run 54 = .ok (.aload_n 0, 1) := by decide +kernel
theorem dX11_run_55 : decode cX11_run 55 = .ok (.aload_n 0, 1) := by decide +kernel
theorem dX11_run_56 : decode cX11_run 56 = .ok (.getfield 132, 3) := by decide +kernel
theorem dX11_run_59 : decode cX11_run 59 = .ok (.aload_n 0, 1) := by decide +kernel
theorem dX11_run_60 : decode cX11_run 60 = .ok (.aload_n 0, 1) := by decide +kernel
theorem dX11_run_61 : decode cX11_run 61 = .ok (.getfield 32, 3) := by decide +kernel
theorem dX11_run_64 : decode cX11_run 64 = .ok (.iload 4, 2) := by decide +kernel
theorem dX11_run_66 : decode cX11_run 66 = .ok (.iaload, 1) := by decide +kernel
theorem dX11_run_67 : decode cX11_run 67 = .ok (.aload_n 0, 1) := by decide +kernel
theorem dX11_run_68 : decode cX11_run 68 = .ok (.getfield 32, 3) := by decide +kernel
theorem dX11_run_71 : decode cX11_run 71 = .ok (.iload 4, 2) := by decide +kernel
theorem dX11_run_73 : decode cX11_run 73 = .ok (.iconst 1, 1) := by decide +kernel
theorem dX11_run_74 : decode cX11_run 74 = .ok (.iadd, 1) := by decide +kernel
theorem dX11_run_75 : decode cX11_run 75 = .ok (.iaload, 1) := by decide +kernel
theorem dX11_run_76 : decode cX11_run 76 = .ok (.aload_n 0, 1) := by decide +kernel
theorem dX11_run_77 : decode cX11_run 77 = .ok (.getfield 32, 3) := by decide +kernel
theorem dX11_run_80 : decode cX11_run 80 = .ok (.iload 4, 2) := by decide +kernel
theorem dX11_run_82 : decode cX11_run 82 = .ok (.iconst 2, 1) := by decide +kernel
theorem dX11_run_83 : decode cX11_run 83 = .ok (.iadd, 1) := by decide +kernel
theorem dX11_run_84 : decode cX11_run 84 = .ok (.iaload, 1) := by decide +kernel
theorem dX11_run_85 : decode cX11_run 85 = .ok (.aload_n 0, 1) := by decide +kernel
theorem dX11_run_86 : decode cX11_run 86 = .ok (.getfield 32, 3) := by decide +kernel
theorem dX11_run_89 : decode cX11_run 89 = .ok (.iload 4, 2) := by decide +kernel
theorem dX11_run_91 : decode cX11_run 91 = .ok (.iconst 3, 1) := by decide +kernel
theorem dX11_run_92 : decode cX11_run 92 = .ok (.iadd, 1) := by decide +kernel
theorem dX11_run_93 : decode cX11_run 93 = .ok (.iaload, 1) := by decide +kernel
theorem dX11_run_94 : decode cX11_run 94 = .ok (.aload_n 0, 1) := by decide +kernel
theorem dX11_run_95 : decode cX11_run 95 = .ok (.getfield 32, 3) := by decide +kernel
theorem dX11_run_98 : decode cX11_run 98 = .ok (.iload 4, 2) := by decide +kernel
theorem dX11_run_100 : decode cX11_run 100 = .ok (.iconst 4, 1) := by decide +kernel
theorem dX11_run_101 : decode cX11_run 101 = .ok (.iadd, 1) := by decide +kernel
theorem dX11_run_102 : decode cX11_run 102 = .ok (.iaload, 1) := by decide +kernel
theorem dX11_run_103 : decode cX11_run 103 = .ok (.invokevirtual 100, 3) := by decide +kernel
theorem dX11_run_106 : decode cX11_run 106 = .ok (.iadd, 1) := by decide +kernel
theorem dX11_run_107 : decode cX11_run 107 = .ok (.putfield 132, 3) := by decide +kernel
theorem dX11_run_110 : decode cX11_run 110 = .ok (.aload_n 0, 1) := by decide +kernel
theorem dX11_run_111 : decode cX11_run 111 = .ok (.getfield 42, 3) := by decide +kernel
theorem dX11_run_114 : decode cX11_run 114 = .ok (.ifCond .eq 18, 3) := by decide +kernel
theorem dX11_run_117 : decode cX11_run 117 = .ok (.aload_n 0, 1) := by decide +kernel
theorem dX11_run_118 : decode cX11_run 118 = .ok (.getfield 129, 3) := by decide +kernel
theorem dX11_run_121 : decode cX11_run 121 = .ok (.aload_n 0, 1) := by decide +kernel
theorem dX11_run_122 : decode cX11_run 122 = .ok (.getfield 42, 3) := by decide +kernel
theorem dX11_run_125 : decode cX11_run 125 = .ok (.ishr, 1) := by decide +kernel
theorem dX11_run_126 : decode cX11_run 126 = .ok (.iconst 1, 1) := by decide +kernel
theorem dX11_run_127 : decode cX11_run 127 = .ok (.iand, 1) := by decide +kernel
theorem dX11_run_128 : decode cX11_run 128 = .ok (.iconst 1, 1) := by decide +kernel
theorem dX11_run_129 : decode cX11_run 129 = .ok (.if_icmp .ne 7, 3) := by decide +kernel
theorem dX11_run_132 : decode cX11_run 132 = .ok (.iconst 1, 1) := by decide +kernel
theorem dX11_run_133 : decode cX11_run 133 = .ok (.goto 4, 3) := by decide +kernel
theorem dX11_run_136 : decode cX11_run 136 = .ok (.iconst 0, 1) := by decide +kernel
theorem dX11_run_137 : decode cX11_run 137 = .ok (.istore_n 3, 1) := by decide +kernel
theorem dX11_run_138 : decode cX11_run 138 = .ok (.iload_n 3, 1) := by decide +kernel
theorem dX11_run_139 : decode cX11_run 139 = .ok (.ifCond .eq 11, 3) := by decide +kernel
theorem dX11_run_142 : decode cX11_run 142 = .ok (.aload_n 0, 1) := by decide +kernel
theorem dX11_run_143 : decode cX11_run 143 = .ok (.iconst 0, 1) := by decide +kernel
theorem dX11_run_144 : decode cX11_run 144 = .ok (.putfield 42, 3) := by decide +kernel
theorem dX11_run_147 : decode cX11_run 147 = .ok (.iinc 2 1, 3) := by decide +kernel
theorem dX11_run_150 : decode cX11_run 150 = .ok (.goto (-115), 3) := by decide +kernel
theorem dX11_run_153 : decode cX11_run 153 = .ok (.iload_n 2, 1) := by decide +kernel
theorem dX11_run_154 : decode cX11_run 154 = .ok (.ireturn, 1) := by decide +kernel
theorem dX11_told_0 : decode cX11_told 0 = .ok (.iload_n 1, 1) := by decide +kernel
theorem dX11_told_1 : decode cX11_told 1 = .ok (.ifCond .ne 8, 3) := by decide +kernel
theorem dX11_told_4 : decode cX11_told 4 = .ok (.aload_n 0, 1) := by decide +kernel
theorem dX11_told_5 : decode cX11_told 5 = .ok (.getfield 42, 3) := by decide +kernel
theorem dX11_told_8 : decode cX11_told 8 = .ok (.ireturn, 1) := by decide +kernel
theorem dX11_told_9 : decode cX11_told 9 = .ok (.iload_n 1, 1) := by decide +kernel
theorem dX11_told_10 : decode cX11_told 10 = .ok (.ifCond .le 16, 3) := by decide +kernel
theorem dX11_told_13 : decode cX11_told 13 = .ok (.iload_n 1, 1) := by decide +kernel
theorem dX11_told_14 : decode cX11_told 14 = .ok (.bipush 6, 2) := by decide +kernel
theorem dX11_told_16 : decode cX11_told 16 = .ok (.if_icmp .ge 10, 3) := by decide +kernel
theorem dX11_told_19 : decode cX11_told 19 = .ok (.aload_n 0, 1) := by decide +kernel
theorem dX11_told_20 : decode cX11_told 20 = .ok (.getfield 35, 3) := by decide +kernel
theorem dX11_told_23 : decode cX11_told 23 = .ok (.iload_n 1, 1) := by decide +kernel
theorem dX11_told_24 : decode cX11_told 24 = .ok (.iaload, 1) := by decide +kernel
theorem dX11_told_25 : decode cX11_told 25 = .ok (.ireturn, 1) := by decide +kernel
theorem dX11_told_26 : decode cX11_told 26 = .ok (.iload_n 1, 1) := by decide +kernel
theorem dX11_told_27 : decode cX11_told 27 = .ok (.bipush 6, 2) := by decide +kernel
theorem dX11_told_29 : decode cX11_told 29 = .ok (.if_icmp .ne 8, 3) := by decide +kernel
theorem dX11_told_32 : decode cX11_told 32 = .ok (.aload_n 0, 1) := by decide +kernel
theorem dX11_told_33 : decode cX11_told 33 = .ok (.getfield 61, 3) := by decide +kernel
theorem dX11_told_36 : decode cX11_told 36 = .ok (.ireturn, 1) := by decide +kernel
theorem dX11_told_37 : decode cX11_told 37 = .ok (.iload_n 1, 1) := by decide +kernel
theorem dX11_told_38 : decode cX11_told 38 = .ok (.bipush 7, 2) := by decide +kernel
theorem dX11_told_40 : decode cX11_told 40 = .ok (.if_icmp .ne 8, 3) := by decide +kernel
theorem dX11_told_43 : decode cX11_told 43 = .ok (.aload_n 0, 1) := by decide +kernel
theorem dX11_told_44 : decode cX11_told 44 = .ok (.getfield 126, 3) := by decide +kernel
theorem dX11_told_47 : decode cX11_told 47 = .ok (.ireturn, 1) := by decide +kernel
theorem dX11_told_48 : decode cX11_told 48 = .ok (.iload_n 1, 1) := by decide +kernel
theorem dX11_told_49 : decode cX11_told 49 = .ok (.bipush 8, 2) := by decide +kernel
theorem dX11_told_51 : decode cX11_told 51 = .ok (.if_icmp .ne 8, 3) := by decide +kernel
theorem dX11_told_54 : decode cX11_told 54 = .ok (.aload_n 0, 1) := by decide +kernel
theorem dX11_told_55 : decode cX11_told 55 = .ok (.getfield 132, 3) := by decide +kernel
theorem dX11_told_58 : decode cX11_told 58 = .ok (.ireturn, 1) := by decide +kernel
theorem dX11_told_59 : decode cX11_told 59 = .ok (.iload_n 1, 1) := by decide +kernel
theorem dX11_told_60 : decode cX11_told 60 = .ok (.bipush 9, 2) := by decide +kernel
theorem dX11_told_62 : decode cX11_told 62 = .ok (.if_icmp .ne 10, 3) := by decide +kernel
theorem dX11_told_65 : decode cX11_told 65 = .ok (.aload_n 0, 1) := by decide +kernel
theorem dX11_told_66 : decode cX11_told 66 = .ok (.getfield 123, 3) := by decide +kernel
theorem dX11_told_69 : decode cX11_told 69 = .ok (.goto 5, 3) := by decide +kernel
theorem dX11_told_72 : decode cX11_told 72 = .ok (.ldc 50, 2) := by decide +kernel
theorem dX11_told_74 : decode cX11_told 74 = .ok (.ireturn, 1) := by decide +kernel
abbrev vwCl : List vw_C := [(RX0, TX0, 5), (RX1, TX1, 5), (RX2, TX2, 2), (RX4, TX4, 2), (RX5, TX5, 2), (RX6, TX6, 3), (RX7, TX7, 2), (RX8, TX8, 2), (RX9, TX9, 3), (RX10, TX10, 8), (RX11, TX11, 18)]
end
section
abbrev cL_law : ByteArray := code
def yL_law : MethodName := ⟨RL, "law", "([I)Z"⟩
theorem dL_law_0 : decode cL_law 0 = .ok (.new 7, 3) := by decide +kernel
theorem dL_law_3 : decode cL_law 3 = .ok (.dup, 1) := by decide +kernel
theorem dL_law_4 : decode cL_law 4 = .ok (.invokespecial 9, 3) := by decide +kernel
theorem dL_law_7 : decode cL_law 7 = .ok (.astore_n 1, 1) := by decide +kernel
theorem dL_law_8 : decode cL_law 8 = .ok (.new 10, 3) := by decide +kernel
theorem dL_law_11 : decode cL_law 11 = .ok (.dup, 1) := by decide +kernel
theorem dL_law_12 : decode cL_law 12 = .ok (.invokespecial 12, 3) := by decide +kernel
theorem dL_law_15 : decode cL_law 15 = .ok (.astore_n 2, 1) := by decide +kernel
theorem dL_law_16 : decode cL_law 16 = .ok (.iconst 0, 1) := by decide +kernel
theorem dL_law_17 : decode cL_law 17 = .ok (.istore_n 3, 1) := by decide +kernel
theorem dL_law_18 : decode cL_law 18 = .ok (.iload_n 3, 1) := by decide +kernel
theorem dL_law_19 : decode cL_law 19 = .ok (.aload_n 0, 1) := by decide +kernel
theorem dL_law_20 : decode cL_law 20 = .ok (.arraylength, 1) := by decide +kernel
theorem dL_law_21 : decode cL_law 21 = .ok (.bipush 6, 2) := by decide +kernel
theorem dL_law_23 : decode cL_law 23 = .ok (.isub, 1) := by decide +kernel
theorem dL_law_24 : decode cL_law 24 = .ok (.if_icmp .gt 699, 3) := by decide +kernel
theorem dL_law_27 : decode cL_law 27 = .ok (.aload_n 0, 1) := by decide +kernel
theorem dL_law_28 : decode cL_law 28 = .ok (.iload_n 3, 1) := by decide +kernel
theorem dL_law_29 : decode cL_law 29 = .ok (.iaload, 1) := by decide +kernel
theorem dL_law_30 : decode cL_law 30 = .ok (.bipush 31, 2) := by decide +kernel
theorem dL_law_32 : decode cL_law 32 = .ok (.iand, 1) := by decide +kernel
theorem dL_law_33 : decode cL_law 33 = .ok (.tableswitch 684 0 16 #[83, 126, 159, 202, 235, 258, 321, 374, 407, 430, 463, 496, 539, 602, 615, 638, 661], 83) := by decide +kernel
theorem dL_law_116 : decode cL_law 116 = .ok (.aload_n 1, 1) := by decide +kernel
theorem dL_law_117 : decode cL_law 117 = .ok (.aload_n 0, 1) := by decide +kernel
theorem dL_law_118 : decode cL_law 118 = .ok (.iload_n 3, 1) := by decide +kernel
theorem dL_law_119 : decode cL_law 119 = .ok (.iconst 1, 1) := by decide +kernel
theorem dL_law_120 : decode cL_law 120 = .ok (.iadd, 1) := by decide +kernel
theorem dL_law_121 : decode cL_law 121 = .ok (.iaload, 1) := by decide +kernel
theorem dL_law_122 : decode cL_law 122 = .ok (.aload_n 0, 1) := by decide +kernel
theorem dL_law_123 : decode cL_law 123 = .ok (.iload_n 3, 1) := by decide +kernel
theorem dL_law_124 : decode cL_law 124 = .ok (.iconst 2, 1) := by decide +kernel
theorem dL_law_125 : decode cL_law 125 = .ok (.iadd, 1) := by decide +kernel
theorem dL_law_126 : decode cL_law 126 = .ok (.iaload, 1) := by decide +kernel
theorem dL_law_127 : decode cL_law 127 = .ok (.aload_n 0, 1) := by decide +kernel
theorem dL_law_128 : decode cL_law 128 = .ok (.iload_n 3, 1) := by decide +kernel
theorem dL_law_129 : decode cL_law 129 = .ok (.iconst 3, 1) := by decide +kernel
theorem dL_law_130 : decode cL_law 130 = .ok (.iadd, 1) := by decide +kernel
theorem dL_law_131 : decode cL_law 131 = .ok (.iaload, 1) := by decide +kernel
theorem dL_law_132 : decode cL_law 132 = .ok (.invokevirtual 13, 3) := by decide +kernel
theorem dL_law_135 : decode cL_law 135 = .ok (.aload_n 2, 1) := by decide +kernel
theorem dL_law_136 : decode cL_law 136 = .ok (.aload_n 0, 1) := by decide +kernel
theorem dL_law_137 : decode cL_law 137 = .ok (.iload_n 3, 1) := by decide +kernel
theorem dL_law_138 : decode cL_law 138 = .ok (.iconst 1, 1) := by decide +kernel
theorem dL_law_139 : decode cL_law 139 = .ok (.iadd, 1) := by decide +kernel
theorem dL_law_140 : decode cL_law 140 = .ok (.iaload, 1) := by decide +kernel
theorem dL_law_141 : decode cL_law 141 = .ok (.aload_n 0, 1) := by decide +kernel
theorem dL_law_142 : decode cL_law 142 = .ok (.iload_n 3, 1) := by decide +kernel
theorem dL_law_143 : decode cL_law 143 = .ok (.iconst 2, 1) := by decide +kernel
theorem dL_law_144 : decode cL_law 144 = .ok (.iadd, 1) := by decide +kernel
theorem dL_law_145 : decode cL_law 145 = .ok (.iaload, 1) := by decide +kernel
theorem dL_law_146 : decode cL_law 146 = .ok (.aload_n 0, 1) := by decide +kernel
theorem dL_law_147 : decode cL_law 147 = .ok (.iload_n 3, 1) := by decide +kernel
theorem dL_law_148 : decode cL_law 148 = .ok (.iconst 3, 1) := by decide +kernel
theorem dL_law_149 : decode cL_law 149 = .ok (.iadd, 1) := by decide +kernel
theorem dL_law_150 : decode cL_law 150 = .ok (.iaload, 1) := by decide +kernel
theorem dL_law_151 : decode cL_law 151 = .ok (.invokevirtual 17, 3) := by decide +kernel
theorem dL_law_154 : decode cL_law 154 = .ok (.if_icmp .eq 563, 3) := by decide +kernel
theorem dL_law_157 : decode cL_law 157 = .ok (.iconst 0, 1) := by decide +kernel
theorem dL_law_158 : decode cL_law 158 = .ok (.ireturn, 1) := by decide +kernel
theorem dL_law_159 : decode cL_law 159 = .ok (.aload_n 1, 1) := by decide +kernel
theorem dL_law_160 : decode cL_law 160 = .ok (.aload_n 0, 1) := by decide +kernel
theorem dL_law_161 : decode cL_law 161 = .ok (.iload_n 3, 1) := by decide +kernel
theorem dL_law_162 : decode cL_law 162 = .ok (.iconst 1, 1) := by decide +kernel
theorem dL_law_163 : decode cL_law 163 = .ok (.iadd, 1) := by decide +kernel
theorem dL_law_164 : decode cL_law 164 = .ok (.iaload, 1) := by decide +kernel
theorem dL_law_165 : decode cL_law 165 = .ok (.aload_n 0, 1) := by decide +kernel
theorem dL_law_166 : decode cL_law 166 = .ok (.iload_n 3, 1) := by decide +kernel
theorem dL_law_167 : decode cL_law 167 = .ok (.iconst 2, 1) := by decide +kernel
theorem dL_law_168 : decode cL_law 168 = .ok (.iadd, 1) := by decide +kernel
theorem dL_law_169 : decode cL_law 169 = .ok (.iaload, 1) := by decide +kernel
theorem dL_law_170 : decode cL_law 170 = .ok (.invokevirtual 18, 3) := by decide +kernel
theorem dL_law_173 : decode cL_law 173 = .ok (.aload_n 2, 1) := by decide +kernel
theorem dL_law_174 : decode cL_law 174 = .ok (.aload_n 0, 1) := by decide +kernel
theorem dL_law_175 : decode cL_law 175 = .ok (.iload_n 3, 1) := by decide +kernel
theorem dL_law_176 : decode cL_law 176 = .ok (.iconst 1, 1) := by decide +kernel
theorem dL_law_177 : decode cL_law 177 = .ok (.iadd, 1) := by decide +kernel
theorem dL_law_178 : decode cL_law 178 = .ok (.iaload, 1) := by decide +kernel
theorem dL_law_179 : decode cL_law 179 = .ok (.aload_n 0, 1) := by decide +kernel
theorem dL_law_180 : decode cL_law 180 = .ok (.iload_n 3, 1) := by decide +kernel
theorem dL_law_181 : decode cL_law 181 = .ok (.iconst 2, 1) := by decide +kernel
theorem dL_law_182 : decode cL_law 182 = .ok (.iadd, 1) := by decide +kernel
theorem dL_law_183 : decode cL_law 183 = .ok (.iaload, 1) := by decide +kernel
theorem dL_law_184 : decode cL_law 184 = .ok (.invokevirtual 22, 3) := by decide +kernel
theorem dL_law_187 : decode cL_law 187 = .ok (.if_icmp .eq 530, 3) := by decide +kernel
theorem dL_law_190 : decode cL_law 190 = .ok (.iconst 0, 1) := by decide +kernel
theorem dL_law_191 : decode cL_law 191 = .ok (.ireturn, 1) := by decide +kernel
theorem dL_law_192 : decode cL_law 192 = .ok (.aload_n 1, 1) := by decide +kernel
theorem dL_law_193 : decode cL_law 193 = .ok (.aload_n 0, 1) := by decide +kernel
theorem dL_law_194 : decode cL_law 194 = .ok (.iload_n 3, 1) := by decide +kernel
theorem dL_law_195 : decode cL_law 195 = .ok (.iconst 1, 1) := by decide +kernel
theorem dL_law_196 : decode cL_law 196 = .ok (.iadd, 1) := by decide +kernel
theorem dL_law_197 : decode cL_law 197 = .ok (.iaload, 1) := by decide +kernel
theorem dL_law_198 : decode cL_law 198 = .ok (.aload_n 0, 1) := by decide +kernel
theorem dL_law_199 : decode cL_law 199 = .ok (.iload_n 3, 1) := by decide +kernel
theorem dL_law_200 : decode cL_law 200 = .ok (.iconst 2, 1) := by decide +kernel
theorem dL_law_201 : decode cL_law 201 = .ok (.iadd, 1) := by decide +kernel
theorem dL_law_202 : decode cL_law 202 = .ok (.iaload, 1) := by decide +kernel
theorem dL_law_203 : decode cL_law 203 = .ok (.aload_n 0, 1) := by decide +kernel
theorem dL_law_204 : decode cL_law 204 = .ok (.iload_n 3, 1) := by decide +kernel
theorem dL_law_205 : decode cL_law 205 = .ok (.iconst 3, 1) := by decide +kernel
theorem dL_law_206 : decode cL_law 206 = .ok (.iadd, 1) := by decide +kernel
theorem dL_law_207 : decode cL_law 207 = .ok (.iaload, 1) := by decide +kernel
theorem dL_law_208 : decode cL_law 208 = .ok (.invokevirtual 23, 3) := by decide +kernel
theorem dL_law_211 : decode cL_law 211 = .ok (.aload_n 2, 1) := by decide +kernel
theorem dL_law_212 : decode cL_law 212 = .ok (.aload_n 0, 1) := by decide +kernel
theorem dL_law_213 : decode cL_law 213 = .ok (.iload_n 3, 1) := by decide +kernel
theorem dL_law_214 : decode cL_law 214 = .ok (.iconst 1, 1) := by decide +kernel
theorem dL_law_215 : decode cL_law 215 = .ok (.iadd, 1) := by decide +kernel
theorem dL_law_216 : decode cL_law 216 = .ok (.iaload, 1) := by decide +kernel
theorem dL_law_217 : decode cL_law 217 = .ok (.aload_n 0, 1) := by decide +kernel
theorem dL_law_218 : decode cL_law 218 = .ok (.iload_n 3, 1) := by decide +kernel
theorem dL_law_219 : decode cL_law 219 = .ok (.iconst 2, 1) := by decide +kernel
theorem dL_law_220 : decode cL_law 220 = .ok (.iadd, 1) := by decide +kernel
theorem dL_law_221 : decode cL_law 221 = .ok (.iaload, 1) := by decide +kernel
theorem dL_law_222 : decode cL_law 222 = .ok (.aload_n 0, 1) := by decide +kernel
theorem dL_law_223 : decode cL_law 223 = .ok (.iload_n 3, 1) := by decide +kernel
theorem dL_law_224 : decode cL_law 224 = .ok (.iconst 3, 1) := by decide +kernel
theorem dL_law_225 : decode cL_law 225 = .ok (.iadd, 1) := by decide +kernel
theorem dL_law_226 : decode cL_law 226 = .ok (.iaload, 1) := by decide +kernel
theorem dL_law_227 : decode cL_law 227 = .ok (.invokevirtual 26, 3) := by decide +kernel
theorem dL_law_230 : decode cL_law 230 = .ok (.if_icmp .eq 487, 3) := by decide +kernel
theorem dL_law_233 : decode cL_law 233 = .ok (.iconst 0, 1) := by decide +kernel
theorem dL_law_234 : decode cL_law 234 = .ok (.ireturn, 1) := by decide +kernel
theorem dL_law_235 : decode cL_law 235 = .ok (.aload_n 1, 1) := by decide +kernel
theorem dL_law_236 : decode cL_law 236 = .ok (.aload_n 0, 1) := by decide +kernel
theorem dL_law_237 : decode cL_law 237 = .ok (.iload_n 3, 1) := by decide +kernel
theorem dL_law_238 : decode cL_law 238 = .ok (.iconst 1, 1) := by decide +kernel
theorem dL_law_239 : decode cL_law 239 = .ok (.iadd, 1) := by decide +kernel
theorem dL_law_240 : decode cL_law 240 = .ok (.iaload, 1) := by decide +kernel
theorem dL_law_241 : decode cL_law 241 = .ok (.aload_n 0, 1) := by decide +kernel
theorem dL_law_242 : decode cL_law 242 = .ok (.iload_n 3, 1) := by decide +kernel
theorem dL_law_243 : decode cL_law 243 = .ok (.iconst 2, 1) := by decide +kernel
theorem dL_law_244 : decode cL_law 244 = .ok (.iadd, 1) := by decide +kernel
theorem dL_law_245 : decode cL_law 245 = .ok (.iaload, 1) := by decide +kernel
theorem dL_law_246 : decode cL_law 246 = .ok (.invokevirtual 27, 3) := by decide +kernel
theorem dL_law_249 : decode cL_law 249 = .ok (.aload_n 2, 1) := by decide +kernel
theorem dL_law_250 : decode cL_law 250 = .ok (.aload_n 0, 1) := by decide +kernel
theorem dL_law_251 : decode cL_law 251 = .ok (.iload_n 3, 1) := by decide +kernel
theorem dL_law_252 : decode cL_law 252 = .ok (.iconst 1, 1) := by decide +kernel
theorem dL_law_253 : decode cL_law 253 = .ok (.iadd, 1) := by decide +kernel
theorem dL_law_254 : decode cL_law 254 = .ok (.iaload, 1) := by decide +kernel
theorem dL_law_255 : decode cL_law 255 = .ok (.aload_n 0, 1) := by decide +kernel
theorem dL_law_256 : decode cL_law 256 = .ok (.iload_n 3, 1) := by decide +kernel
theorem dL_law_257 : decode cL_law 257 = .ok (.iconst 2, 1) := by decide +kernel
theorem dL_law_258 : decode cL_law 258 = .ok (.iadd, 1) := by decide +kernel
theorem dL_law_259 : decode cL_law 259 = .ok (.iaload, 1) := by decide +kernel
theorem dL_law_260 : decode cL_law 260 = .ok (.invokevirtual 30, 3) := by decide +kernel
theorem dL_law_263 : decode cL_law 263 = .ok (.if_icmp .eq 454, 3) := by decide +kernel
theorem dL_law_266 : decode cL_law 266 = .ok (.iconst 0, 1) := by decide +kernel
theorem dL_law_267 : decode cL_law 267 = .ok (.ireturn, 1) := by decide +kernel
theorem dL_law_268 : decode cL_law 268 = .ok (.aload_n 1, 1) := by decide +kernel
theorem dL_law_269 : decode cL_law 269 = .ok (.aload_n 0, 1) := by decide +kernel
theorem dL_law_270 : decode cL_law 270 = .ok (.iload_n 3, 1) := by decide +kernel
theorem dL_law_271 : decode cL_law 271 = .ok (.iconst 1, 1) := by decide +kernel
theorem dL_law_272 : decode cL_law 272 = .ok (.iadd, 1) := by decide +kernel
theorem dL_law_273 : decode cL_law 273 = .ok (.iaload, 1) := by decide +kernel
theorem dL_law_274 : decode cL_law 274 = .ok (.invokevirtual 31, 3) := by decide +kernel
theorem dL_law_277 : decode cL_law 277 = .ok (.aload_n 2, 1) := by decide +kernel
theorem dL_law_278 : decode cL_law 278 = .ok (.aload_n 0, 1) := by decide +kernel
theorem dL_law_279 : decode cL_law 279 = .ok (.iload_n 3, 1) := by decide +kernel
theorem dL_law_280 : decode cL_law 280 = .ok (.iconst 1, 1) := by decide +kernel
theorem dL_law_281 : decode cL_law 281 = .ok (.iadd, 1) := by decide +kernel
theorem dL_law_282 : decode cL_law 282 = .ok (.iaload, 1) := by decide +kernel
theorem dL_law_283 : decode cL_law 283 = .ok (.invokevirtual 35, 3) := by decide +kernel
theorem dL_law_286 : decode cL_law 286 = .ok (.if_icmp .eq 431, 3) := by decide +kernel
theorem dL_law_289 : decode cL_law 289 = .ok (.iconst 0, 1) := by decide +kernel
theorem dL_law_290 : decode cL_law 290 = .ok (.ireturn, 1) := by decide +kernel
theorem dL_law_291 : decode cL_law 291 = .ok (.aload_n 1, 1) := by decide +kernel
theorem dL_law_292 : decode cL_law 292 = .ok (.aload_n 0, 1) := by decide +kernel
theorem dL_law_293 : decode cL_law 293 = .ok (.iload_n 3, 1) := by decide +kernel
theorem dL_law_294 : decode cL_law 294 = .ok (.iconst 1, 1) := by decide +kernel
theorem dL_law_295 : decode cL_law 295 = .ok (.iadd, 1) := by decide +kernel
theorem dL_law_296 : decode cL_law 296 = .ok (.iaload, 1) := by decide +kernel
theorem dL_law_297 : decode cL_law 297 = .ok (.aload_n 0, 1) := by decide +kernel
theorem dL_law_298 : decode cL_law 298 = .ok (.iload_n 3, 1) := by decide +kernel
theorem dL_law_299 : decode cL_law 299 = .ok (.iconst 2, 1) := by decide +kernel
theorem dL_law_300 : decode cL_law 300 = .ok (.iadd, 1) := by decide +kernel
theorem dL_law_301 : decode cL_law 301 = .ok (.iaload, 1) := by decide +kernel
theorem dL_law_302 : decode cL_law 302 = .ok (.aload_n 0, 1) := by decide +kernel
theorem dL_law_303 : decode cL_law 303 = .ok (.iload_n 3, 1) := by decide +kernel
theorem dL_law_304 : decode cL_law 304 = .ok (.iconst 3, 1) := by decide +kernel
theorem dL_law_305 : decode cL_law 305 = .ok (.iadd, 1) := by decide +kernel
theorem dL_law_306 : decode cL_law 306 = .ok (.iaload, 1) := by decide +kernel
theorem dL_law_307 : decode cL_law 307 = .ok (.aload_n 0, 1) := by decide +kernel
theorem dL_law_308 : decode cL_law 308 = .ok (.iload_n 3, 1) := by decide +kernel
theorem dL_law_309 : decode cL_law 309 = .ok (.iconst 4, 1) := by decide +kernel
theorem dL_law_310 : decode cL_law 310 = .ok (.iadd, 1) := by decide +kernel
theorem dL_law_311 : decode cL_law 311 = .ok (.iaload, 1) := by decide +kernel
theorem dL_law_312 : decode cL_law 312 = .ok (.aload_n 0, 1) := by decide +kernel
theorem dL_law_313 : decode cL_law 313 = .ok (.iload_n 3, 1) := by decide +kernel
theorem dL_law_314 : decode cL_law 314 = .ok (.iconst 5, 1) := by decide +kernel
theorem dL_law_315 : decode cL_law 315 = .ok (.iadd, 1) := by decide +kernel
theorem dL_law_316 : decode cL_law 316 = .ok (.iaload, 1) := by decide +kernel
theorem dL_law_317 : decode cL_law 317 = .ok (.invokevirtual 36, 3) := by decide +kernel
theorem dL_law_320 : decode cL_law 320 = .ok (.aload_n 2, 1) := by decide +kernel
theorem dL_law_321 : decode cL_law 321 = .ok (.aload_n 0, 1) := by decide +kernel
theorem dL_law_322 : decode cL_law 322 = .ok (.iload_n 3, 1) := by decide +kernel
theorem dL_law_323 : decode cL_law 323 = .ok (.iconst 1, 1) := by decide +kernel
theorem dL_law_324 : decode cL_law 324 = .ok (.iadd, 1) := by decide +kernel
theorem dL_law_325 : decode cL_law 325 = .ok (.iaload, 1) := by decide +kernel
theorem dL_law_326 : decode cL_law 326 = .ok (.aload_n 0, 1) := by decide +kernel
theorem dL_law_327 : decode cL_law 327 = .ok (.iload_n 3, 1) := by decide +kernel
theorem dL_law_328 : decode cL_law 328 = .ok (.iconst 2, 1) := by decide +kernel
theorem dL_law_329 : decode cL_law 329 = .ok (.iadd, 1) := by decide +kernel
theorem dL_law_330 : decode cL_law 330 = .ok (.iaload, 1) := by decide +kernel
theorem dL_law_331 : decode cL_law 331 = .ok (.aload_n 0, 1) := by decide +kernel
theorem dL_law_332 : decode cL_law 332 = .ok (.iload_n 3, 1) := by decide +kernel
theorem dL_law_333 : decode cL_law 333 = .ok (.iconst 3, 1) := by decide +kernel
theorem dL_law_334 : decode cL_law 334 = .ok (.iadd, 1) := by decide +kernel
theorem dL_law_335 : decode cL_law 335 = .ok (.iaload, 1) := by decide +kernel
theorem dL_law_336 : decode cL_law 336 = .ok (.aload_n 0, 1) := by decide +kernel
theorem dL_law_337 : decode cL_law 337 = .ok (.iload_n 3, 1) := by decide +kernel
theorem dL_law_338 : decode cL_law 338 = .ok (.iconst 4, 1) := by decide +kernel
theorem dL_law_339 : decode cL_law 339 = .ok (.iadd, 1) := by decide +kernel
theorem dL_law_340 : decode cL_law 340 = .ok (.iaload, 1) := by decide +kernel
theorem dL_law_341 : decode cL_law 341 = .ok (.aload_n 0, 1) := by decide +kernel
theorem dL_law_342 : decode cL_law 342 = .ok (.iload_n 3, 1) := by decide +kernel
theorem dL_law_343 : decode cL_law 343 = .ok (.iconst 5, 1) := by decide +kernel
theorem dL_law_344 : decode cL_law 344 = .ok (.iadd, 1) := by decide +kernel
theorem dL_law_345 : decode cL_law 345 = .ok (.iaload, 1) := by decide +kernel
theorem dL_law_346 : decode cL_law 346 = .ok (.invokevirtual 40, 3) := by decide +kernel
theorem dL_law_349 : decode cL_law 349 = .ok (.if_icmp .eq 368, 3) := by decide +kernel
theorem dL_law_352 : decode cL_law 352 = .ok (.iconst 0, 1) := by decide +kernel
theorem dL_law_353 : decode cL_law 353 = .ok (.ireturn, 1) := by decide +kernel
theorem dL_law_354 : decode cL_law 354 = .ok (.aload_n 1, 1) := by decide +kernel
theorem dL_law_355 : decode cL_law 355 = .ok (.aload_n 0, 1) := by decide +kernel
theorem dL_law_356 : decode cL_law 356 = .ok (.iload_n 3, 1) := by decide +kernel
theorem dL_law_357 : decode cL_law 357 = .ok (.iconst 1, 1) := by decide +kernel
theorem dL_law_358 : decode cL_law 358 = .ok (.iadd, 1) := by decide +kernel
theorem dL_law_359 : decode cL_law 359 = .ok (.iaload, 1) := by decide +kernel
theorem dL_law_360 : decode cL_law 360 = .ok (.aload_n 0, 1) := by decide +kernel
theorem dL_law_361 : decode cL_law 361 = .ok (.iload_n 3, 1) := by decide +kernel
theorem dL_law_362 : decode cL_law 362 = .ok (.iconst 2, 1) := by decide +kernel
theorem dL_law_363 : decode cL_law 363 = .ok (.iadd, 1) := by decide +kernel
theorem dL_law_364 : decode cL_law 364 = .ok (.iaload, 1) := by decide +kernel
theorem dL_law_365 : decode cL_law 365 = .ok (.aload_n 0, 1) := by decide +kernel
theorem dL_law_366 : decode cL_law 366 = .ok (.iload_n 3, 1) := by decide +kernel
theorem dL_law_367 : decode cL_law 367 = .ok (.iconst 3, 1) := by decide +kernel
theorem dL_law_368 : decode cL_law 368 = .ok (.iadd, 1) := by decide +kernel
theorem dL_law_369 : decode cL_law 369 = .ok (.iaload, 1) := by decide +kernel
theorem dL_law_370 : decode cL_law 370 = .ok (.aload_n 0, 1) := by decide +kernel
theorem dL_law_371 : decode cL_law 371 = .ok (.iload_n 3, 1) := by decide +kernel
theorem dL_law_372 : decode cL_law 372 = .ok (.iconst 4, 1) := by decide +kernel
theorem dL_law_373 : decode cL_law 373 = .ok (.iadd, 1) := by decide +kernel
theorem dL_law_374 : decode cL_law 374 = .ok (.iaload, 1) := by decide +kernel
theorem dL_law_375 : decode cL_law 375 = .ok (.invokevirtual 41, 3) := by decide +kernel
theorem dL_law_378 : decode cL_law 378 = .ok (.aload_n 2, 1) := by decide +kernel
theorem dL_law_379 : decode cL_law 379 = .ok (.aload_n 0, 1) := by decide +kernel
theorem dL_law_380 : decode cL_law 380 = .ok (.iload_n 3, 1) := by decide +kernel
theorem dL_law_381 : decode cL_law 381 = .ok (.iconst 1, 1) := by decide +kernel
theorem dL_law_382 : decode cL_law 382 = .ok (.iadd, 1) := by decide +kernel
theorem dL_law_383 : decode cL_law 383 = .ok (.iaload, 1) := by decide +kernel
theorem dL_law_384 : decode cL_law 384 = .ok (.aload_n 0, 1) := by decide +kernel
theorem dL_law_385 : decode cL_law 385 = .ok (.iload_n 3, 1) := by decide +kernel
theorem dL_law_386 : decode cL_law 386 = .ok (.iconst 2, 1) := by decide +kernel
theorem dL_law_387 : decode cL_law 387 = .ok (.iadd, 1) := by decide +kernel
theorem dL_law_388 : decode cL_law 388 = .ok (.iaload, 1) := by decide +kernel
theorem dL_law_389 : decode cL_law 389 = .ok (.aload_n 0, 1) := by decide +kernel
theorem dL_law_390 : decode cL_law 390 = .ok (.iload_n 3, 1) := by decide +kernel
theorem dL_law_391 : decode cL_law 391 = .ok (.iconst 3, 1) := by decide +kernel
theorem dL_law_392 : decode cL_law 392 = .ok (.iadd, 1) := by decide +kernel
theorem dL_law_393 : decode cL_law 393 = .ok (.iaload, 1) := by decide +kernel
theorem dL_law_394 : decode cL_law 394 = .ok (.aload_n 0, 1) := by decide +kernel
theorem dL_law_395 : decode cL_law 395 = .ok (.iload_n 3, 1) := by decide +kernel
theorem dL_law_396 : decode cL_law 396 = .ok (.iconst 4, 1) := by decide +kernel
theorem dL_law_397 : decode cL_law 397 = .ok (.iadd, 1) := by decide +kernel
theorem dL_law_398 : decode cL_law 398 = .ok (.iaload, 1) := by decide +kernel
theorem dL_law_399 : decode cL_law 399 = .ok (.invokevirtual 45, 3) := by decide +kernel
theorem dL_law_402 : decode cL_law 402 = .ok (.if_icmp .eq 315, 3) := by decide +kernel
theorem dL_law_405 : decode cL_law 405 = .ok (.iconst 0, 1) := by decide +kernel
theorem dL_law_406 : decode cL_law 406 = .ok (.ireturn, 1) := by decide +kernel
theorem dL_law_407 : decode cL_law 407 = .ok (.aload_n 1, 1) := by decide +kernel
theorem dL_law_408 : decode cL_law 408 = .ok (.aload_n 0, 1) := by decide +kernel
theorem dL_law_409 : decode cL_law 409 = .ok (.iload_n 3, 1) := by decide +kernel
theorem dL_law_410 : decode cL_law 410 = .ok (.iconst 1, 1) := by decide +kernel
theorem dL_law_411 : decode cL_law 411 = .ok (.iadd, 1) := by decide +kernel
theorem dL_law_412 : decode cL_law 412 = .ok (.iaload, 1) := by decide +kernel
theorem dL_law_413 : decode cL_law 413 = .ok (.aload_n 0, 1) := by decide +kernel
theorem dL_law_414 : decode cL_law 414 = .ok (.iload_n 3, 1) := by decide +kernel
theorem dL_law_415 : decode cL_law 415 = .ok (.iconst 2, 1) := by decide +kernel
theorem dL_law_416 : decode cL_law 416 = .ok (.iadd, 1) := by decide +kernel
theorem dL_law_417 : decode cL_law 417 = .ok (.iaload, 1) := by decide +kernel
theorem dL_law_418 : decode cL_law 418 = .ok (.invokevirtual 46, 3) := by decide +kernel
theorem dL_law_421 : decode cL_law 421 = .ok (.aload_n 2, 1) := by decide +kernel
theorem dL_law_422 : decode cL_law 422 = .ok (.aload_n 0, 1) := by decide +kernel
theorem dL_law_423 : decode cL_law 423 = .ok (.iload_n 3, 1) := by decide +kernel
theorem dL_law_424 : decode cL_law 424 = .ok (.iconst 1, 1) := by decide +kernel
theorem dL_law_425 : decode cL_law 425 = .ok (.iadd, 1) := by decide +kernel
theorem dL_law_426 : decode cL_law 426 = .ok (.iaload, 1) := by decide +kernel
theorem dL_law_427 : decode cL_law 427 = .ok (.aload_n 0, 1) := by decide +kernel
theorem dL_law_428 : decode cL_law 428 = .ok (.iload_n 3, 1) := by decide +kernel
theorem dL_law_429 : decode cL_law 429 = .ok (.iconst 2, 1) := by decide +kernel
theorem dL_law_430 : decode cL_law 430 = .ok (.iadd, 1) := by decide +kernel
theorem dL_law_431 : decode cL_law 431 = .ok (.iaload, 1) := by decide +kernel
theorem dL_law_432 : decode cL_law 432 = .ok (.invokevirtual 49, 3) := by decide +kernel
theorem dL_law_435 : decode cL_law 435 = .ok (.if_icmp .eq 282, 3) := by decide +kernel
theorem dL_law_438 : decode cL_law 438 = .ok (.iconst 0, 1) := by decide +kernel
theorem dL_law_439 : decode cL_law 439 = .ok (.ireturn, 1) := by decide +kernel
theorem dL_law_440 : decode cL_law 440 = .ok (.aload_n 1, 1) := by decide +kernel
theorem dL_law_441 : decode cL_law 441 = .ok (.aload_n 0, 1) := by decide +kernel
theorem dL_law_442 : decode cL_law 442 = .ok (.iload_n 3, 1) := by decide +kernel
theorem dL_law_443 : decode cL_law 443 = .ok (.iconst 1, 1) := by decide +kernel
theorem dL_law_444 : decode cL_law 444 = .ok (.iadd, 1) := by decide +kernel
theorem dL_law_445 : decode cL_law 445 = .ok (.iaload, 1) := by decide +kernel
theorem dL_law_446 : decode cL_law 446 = .ok (.invokevirtual 50, 3) := by decide +kernel
theorem dL_law_449 : decode cL_law 449 = .ok (.aload_n 2, 1) := by decide +kernel
theorem dL_law_450 : decode cL_law 450 = .ok (.aload_n 0, 1) := by decide +kernel
theorem dL_law_451 : decode cL_law 451 = .ok (.iload_n 3, 1) := by decide +kernel
theorem dL_law_452 : decode cL_law 452 = .ok (.iconst 1, 1) := by decide +kernel
theorem dL_law_453 : decode cL_law 453 = .ok (.iadd, 1) := by decide +kernel
theorem dL_law_454 : decode cL_law 454 = .ok (.iaload, 1) := by decide +kernel
theorem dL_law_455 : decode cL_law 455 = .ok (.invokevirtual 53, 3) := by decide +kernel
theorem dL_law_458 : decode cL_law 458 = .ok (.if_icmp .eq 259, 3) := by decide +kernel
theorem dL_law_461 : decode cL_law 461 = .ok (.iconst 0, 1) := by decide +kernel
theorem dL_law_462 : decode cL_law 462 = .ok (.ireturn, 1) := by decide +kernel
theorem dL_law_463 : decode cL_law 463 = .ok (.aload_n 1, 1) := by decide +kernel
theorem dL_law_464 : decode cL_law 464 = .ok (.aload_n 0, 1) := by decide +kernel
theorem dL_law_465 : decode cL_law 465 = .ok (.iload_n 3, 1) := by decide +kernel
theorem dL_law_466 : decode cL_law 466 = .ok (.iconst 1, 1) := by decide +kernel
theorem dL_law_467 : decode cL_law 467 = .ok (.iadd, 1) := by decide +kernel
theorem dL_law_468 : decode cL_law 468 = .ok (.iaload, 1) := by decide +kernel
theorem dL_law_469 : decode cL_law 469 = .ok (.aload_n 0, 1) := by decide +kernel
theorem dL_law_470 : decode cL_law 470 = .ok (.iload_n 3, 1) := by decide +kernel
theorem dL_law_471 : decode cL_law 471 = .ok (.iconst 2, 1) := by decide +kernel
theorem dL_law_472 : decode cL_law 472 = .ok (.iadd, 1) := by decide +kernel
theorem dL_law_473 : decode cL_law 473 = .ok (.iaload, 1) := by decide +kernel
theorem dL_law_474 : decode cL_law 474 = .ok (.invokevirtual 54, 3) := by decide +kernel
theorem dL_law_477 : decode cL_law 477 = .ok (.aload_n 2, 1) := by decide +kernel
theorem dL_law_478 : decode cL_law 478 = .ok (.aload_n 0, 1) := by decide +kernel
theorem dL_law_479 : decode cL_law 479 = .ok (.iload_n 3, 1) := by decide +kernel
theorem dL_law_480 : decode cL_law 480 = .ok (.iconst 1, 1) := by decide +kernel
theorem dL_law_481 : decode cL_law 481 = .ok (.iadd, 1) := by decide +kernel
theorem dL_law_482 : decode cL_law 482 = .ok (.iaload, 1) := by decide +kernel
theorem dL_law_483 : decode cL_law 483 = .ok (.aload_n 0, 1) := by decide +kernel
theorem dL_law_484 : decode cL_law 484 = .ok (.iload_n 3, 1) := by decide +kernel
theorem dL_law_485 : decode cL_law 485 = .ok (.iconst 2, 1) := by decide +kernel
theorem dL_law_486 : decode cL_law 486 = .ok (.iadd, 1) := by decide +kernel
theorem dL_law_487 : decode cL_law 487 = .ok (.iaload, 1) := by decide +kernel
theorem dL_law_488 : decode cL_law 488 = .ok (.invokevirtual 57, 3) := by decide +kernel
theorem dL_law_491 : decode cL_law 491 = .ok (.if_icmp .eq 226, 3) := by decide +kernel
theorem dL_law_494 : decode cL_law 494 = .ok (.iconst 0, 1) := by decide +kernel
theorem dL_law_495 : decode cL_law 495 = .ok (.ireturn, 1) := by decide +kernel
theorem dL_law_496 : decode cL_law 496 = .ok (.aload_n 1, 1) := by decide +kernel
theorem dL_law_497 : decode cL_law 497 = .ok (.aload_n 0, 1) := by decide +kernel
theorem dL_law_498 : decode cL_law 498 = .ok (.iload_n 3, 1) := by decide +kernel
theorem dL_law_499 : decode cL_law 499 = .ok (.iconst 1, 1) := by decide +kernel
theorem dL_law_500 : decode cL_law 500 = .ok (.iadd, 1) := by decide +kernel
theorem dL_law_501 : decode cL_law 501 = .ok (.iaload, 1) := by decide +kernel
theorem dL_law_502 : decode cL_law 502 = .ok (.aload_n 0, 1) := by decide +kernel
theorem dL_law_503 : decode cL_law 503 = .ok (.iload_n 3, 1) := by decide +kernel
theorem dL_law_504 : decode cL_law 504 = .ok (.iconst 2, 1) := by decide +kernel
theorem dL_law_505 : decode cL_law 505 = .ok (.iadd, 1) := by decide +kernel
theorem dL_law_506 : decode cL_law 506 = .ok (.iaload, 1) := by decide +kernel
theorem dL_law_507 : decode cL_law 507 = .ok (.invokevirtual 58, 3) := by decide +kernel
theorem dL_law_510 : decode cL_law 510 = .ok (.aload_n 2, 1) := by decide +kernel
theorem dL_law_511 : decode cL_law 511 = .ok (.aload_n 0, 1) := by decide +kernel
theorem dL_law_512 : decode cL_law 512 = .ok (.iload_n 3, 1) := by decide +kernel
theorem dL_law_513 : decode cL_law 513 = .ok (.iconst 1, 1) := by decide +kernel
theorem dL_law_514 : decode cL_law 514 = .ok (.iadd, 1) := by decide +kernel
theorem dL_law_515 : decode cL_law 515 = .ok (.iaload, 1) := by decide +kernel
theorem dL_law_516 : decode cL_law 516 = .ok (.aload_n 0, 1) := by decide +kernel
theorem dL_law_517 : decode cL_law 517 = .ok (.iload_n 3, 1) := by decide +kernel
theorem dL_law_518 : decode cL_law 518 = .ok (.iconst 2, 1) := by decide +kernel
theorem dL_law_519 : decode cL_law 519 = .ok (.iadd, 1) := by decide +kernel
theorem dL_law_520 : decode cL_law 520 = .ok (.iaload, 1) := by decide +kernel
theorem dL_law_521 : decode cL_law 521 = .ok (.invokevirtual 61, 3) := by decide +kernel
theorem dL_law_524 : decode cL_law 524 = .ok (.if_icmp .eq 193, 3) := by decide +kernel
theorem dL_law_527 : decode cL_law 527 = .ok (.iconst 0, 1) := by decide +kernel
theorem dL_law_528 : decode cL_law 528 = .ok (.ireturn, 1) := by decide +kernel
theorem dL_law_529 : decode cL_law 529 = .ok (.aload_n 1, 1) := by decide +kernel
theorem dL_law_530 : decode cL_law 530 = .ok (.aload_n 0, 1) := by decide +kernel
theorem dL_law_531 : decode cL_law 531 = .ok (.iload_n 3, 1) := by decide +kernel
theorem dL_law_532 : decode cL_law 532 = .ok (.iconst 1, 1) := by decide +kernel
theorem dL_law_533 : decode cL_law 533 = .ok (.iadd, 1) := by decide +kernel
theorem dL_law_534 : decode cL_law 534 = .ok (.iaload, 1) := by decide +kernel
theorem dL_law_535 : decode cL_law 535 = .ok (.aload_n 0, 1) := by decide +kernel
theorem dL_law_536 : decode cL_law 536 = .ok (.iload_n 3, 1) := by decide +kernel
theorem dL_law_537 : decode cL_law 537 = .ok (.iconst 2, 1) := by decide +kernel
theorem dL_law_538 : decode cL_law 538 = .ok (.iadd, 1) := by decide +kernel
theorem dL_law_539 : decode cL_law 539 = .ok (.iaload, 1) := by decide +kernel
theorem dL_law_540 : decode cL_law 540 = .ok (.aload_n 0, 1) := by decide +kernel
theorem dL_law_541 : decode cL_law 541 = .ok (.iload_n 3, 1) := by decide +kernel
theorem dL_law_542 : decode cL_law 542 = .ok (.iconst 3, 1) := by decide +kernel
theorem dL_law_543 : decode cL_law 543 = .ok (.iadd, 1) := by decide +kernel
theorem dL_law_544 : decode cL_law 544 = .ok (.iaload, 1) := by decide +kernel
theorem dL_law_545 : decode cL_law 545 = .ok (.invokevirtual 62, 3) := by decide +kernel
theorem dL_law_548 : decode cL_law 548 = .ok (.aload_n 2, 1) := by decide +kernel
theorem dL_law_549 : decode cL_law 549 = .ok (.aload_n 0, 1) := by decide +kernel
theorem dL_law_550 : decode cL_law 550 = .ok (.iload_n 3, 1) := by decide +kernel
theorem dL_law_551 : decode cL_law 551 = .ok (.iconst 1, 1) := by decide +kernel
theorem dL_law_552 : decode cL_law 552 = .ok (.iadd, 1) := by decide +kernel
theorem dL_law_553 : decode cL_law 553 = .ok (.iaload, 1) := by decide +kernel
theorem dL_law_554 : decode cL_law 554 = .ok (.aload_n 0, 1) := by decide +kernel
theorem dL_law_555 : decode cL_law 555 = .ok (.iload_n 3, 1) := by decide +kernel
theorem dL_law_556 : decode cL_law 556 = .ok (.iconst 2, 1) := by decide +kernel
theorem dL_law_557 : decode cL_law 557 = .ok (.iadd, 1) := by decide +kernel
theorem dL_law_558 : decode cL_law 558 = .ok (.iaload, 1) := by decide +kernel
theorem dL_law_559 : decode cL_law 559 = .ok (.aload_n 0, 1) := by decide +kernel
theorem dL_law_560 : decode cL_law 560 = .ok (.iload_n 3, 1) := by decide +kernel
theorem dL_law_561 : decode cL_law 561 = .ok (.iconst 3, 1) := by decide +kernel
theorem dL_law_562 : decode cL_law 562 = .ok (.iadd, 1) := by decide +kernel
theorem dL_law_563 : decode cL_law 563 = .ok (.iaload, 1) := by decide +kernel
theorem dL_law_564 : decode cL_law 564 = .ok (.invokevirtual 65, 3) := by decide +kernel
theorem dL_law_567 : decode cL_law 567 = .ok (.if_icmp .eq 150, 3) := by decide +kernel
theorem dL_law_570 : decode cL_law 570 = .ok (.iconst 0, 1) := by decide +kernel
theorem dL_law_571 : decode cL_law 571 = .ok (.ireturn, 1) := by decide +kernel
theorem dL_law_572 : decode cL_law 572 = .ok (.aload_n 1, 1) := by decide +kernel
theorem dL_law_573 : decode cL_law 573 = .ok (.aload_n 0, 1) := by decide +kernel
theorem dL_law_574 : decode cL_law 574 = .ok (.iload_n 3, 1) := by decide +kernel
theorem dL_law_575 : decode cL_law 575 = .ok (.iconst 1, 1) := by decide +kernel
theorem dL_law_576 : decode cL_law 576 = .ok (.iadd, 1) := by decide +kernel
theorem dL_law_577 : decode cL_law 577 = .ok (.iaload, 1) := by decide +kernel
theorem dL_law_578 : decode cL_law 578 = .ok (.aload_n 0, 1) := by decide +kernel
theorem dL_law_579 : decode cL_law 579 = .ok (.iload_n 3, 1) := by decide +kernel
theorem dL_law_580 : decode cL_law 580 = .ok (.iconst 2, 1) := by decide +kernel
theorem dL_law_581 : decode cL_law 581 = .ok (.iadd, 1) := by decide +kernel
theorem dL_law_582 : decode cL_law 582 = .ok (.iaload, 1) := by decide +kernel
theorem dL_law_583 : decode cL_law 583 = .ok (.aload_n 0, 1) := by decide +kernel
theorem dL_law_584 : decode cL_law 584 = .ok (.iload_n 3, 1) := by decide +kernel
theorem dL_law_585 : decode cL_law 585 = .ok (.iconst 3, 1) := by decide +kernel
theorem dL_law_586 : decode cL_law 586 = .ok (.iadd, 1) := by decide +kernel
theorem dL_law_587 : decode cL_law 587 = .ok (.iaload, 1) := by decide +kernel
theorem dL_law_588 : decode cL_law 588 = .ok (.aload_n 0, 1) := by decide +kernel
theorem dL_law_589 : decode cL_law 589 = .ok (.iload_n 3, 1) := by decide +kernel
theorem dL_law_590 : decode cL_law 590 = .ok (.iconst 4, 1) := by decide +kernel
theorem dL_law_591 : decode cL_law 591 = .ok (.iadd, 1) := by decide +kernel
theorem dL_law_592 : decode cL_law 592 = .ok (.iaload, 1) := by decide +kernel
theorem dL_law_593 : decode cL_law 593 = .ok (.aload_n 0, 1) := by decide +kernel
theorem dL_law_594 : decode cL_law 594 = .ok (.iload_n 3, 1) := by decide +kernel
theorem dL_law_595 : decode cL_law 595 = .ok (.iconst 5, 1) := by decide +kernel
theorem dL_law_596 : decode cL_law 596 = .ok (.iadd, 1) := by decide +kernel
theorem dL_law_597 : decode cL_law 597 = .ok (.iaload, 1) := by decide +kernel
theorem dL_law_598 : decode cL_law 598 = .ok (.invokevirtual 66, 3) := by decide +kernel
theorem dL_law_601 : decode cL_law 601 = .ok (.aload_n 2, 1) := by decide +kernel
theorem dL_law_602 : decode cL_law 602 = .ok (.aload_n 0, 1) := by decide +kernel
theorem dL_law_603 : decode cL_law 603 = .ok (.iload_n 3, 1) := by decide +kernel
theorem dL_law_604 : decode cL_law 604 = .ok (.iconst 1, 1) := by decide +kernel
theorem dL_law_605 : decode cL_law 605 = .ok (.iadd, 1) := by decide +kernel
theorem dL_law_606 : decode cL_law 606 = .ok (.iaload, 1) := by decide +kernel
theorem dL_law_607 : decode cL_law 607 = .ok (.aload_n 0, 1) := by decide +kernel
theorem dL_law_608 : decode cL_law 608 = .ok (.iload_n 3, 1) := by decide +kernel
theorem dL_law_609 : decode cL_law 609 = .ok (.iconst 2, 1) := by decide +kernel
theorem dL_law_610 : decode cL_law 610 = .ok (.iadd, 1) := by decide +kernel
theorem dL_law_611 : decode cL_law 611 = .ok (.iaload, 1) := by decide +kernel
theorem dL_law_612 : decode cL_law 612 = .ok (.aload_n 0, 1) := by decide +kernel
theorem dL_law_613 : decode cL_law 613 = .ok (.iload_n 3, 1) := by decide +kernel
theorem dL_law_614 : decode cL_law 614 = .ok (.iconst 3, 1) := by decide +kernel
theorem dL_law_615 : decode cL_law 615 = .ok (.iadd, 1) := by decide +kernel
theorem dL_law_616 : decode cL_law 616 = .ok (.iaload, 1) := by decide +kernel
theorem dL_law_617 : decode cL_law 617 = .ok (.aload_n 0, 1) := by decide +kernel
theorem dL_law_618 : decode cL_law 618 = .ok (.iload_n 3, 1) := by decide +kernel
theorem dL_law_619 : decode cL_law 619 = .ok (.iconst 4, 1) := by decide +kernel
theorem dL_law_620 : decode cL_law 620 = .ok (.iadd, 1) := by decide +kernel
theorem dL_law_621 : decode cL_law 621 = .ok (.iaload, 1) := by decide +kernel
theorem dL_law_622 : decode cL_law 622 = .ok (.aload_n 0, 1) := by decide +kernel
theorem dL_law_623 : decode cL_law 623 = .ok (.iload_n 3, 1) := by decide +kernel
theorem dL_law_624 : decode cL_law 624 = .ok (.iconst 5, 1) := by decide +kernel
theorem dL_law_625 : decode cL_law 625 = .ok (.iadd, 1) := by decide +kernel
theorem dL_law_626 : decode cL_law 626 = .ok (.iaload, 1) := by decide +kernel
theorem dL_law_627 : decode cL_law 627 = .ok (.invokevirtual 69, 3) := by decide +kernel
theorem dL_law_630 : decode cL_law 630 = .ok (.if_icmp .eq 87, 3) := by decide +kernel
theorem dL_law_633 : decode cL_law 633 = .ok (.iconst 0, 1) := by decide +kernel
theorem dL_law_634 : decode cL_law 634 = .ok (.ireturn, 1) := by decide +kernel
theorem dL_law_635 : decode cL_law 635 = .ok (.aload_n 1, 1) := by decide +kernel
theorem dL_law_636 : decode cL_law 636 = .ok (.invokevirtual 70, 3) := by decide +kernel
theorem dL_law_639 : decode cL_law 639 = .ok (.aload_n 2, 1) := by decide +kernel
theorem dL_law_640 : decode cL_law 640 = .ok (.invokevirtual 74, 3) := by decide +kernel
theorem dL_law_643 : decode cL_law 643 = .ok (.if_icmp .eq 74, 3) := by decide +kernel
theorem dL_law_646 : decode cL_law 646 = .ok (.iconst 0, 1) := by decide +kernel
theorem dL_law_647 : decode cL_law 647 = .ok (.ireturn, 1) := by decide +kernel
theorem dL_law_648 : decode cL_law 648 = .ok (.aload_n 1, 1) := by decide +kernel
theorem dL_law_649 : decode cL_law 649 = .ok (.aload_n 0, 1) := by decide +kernel
theorem dL_law_650 : decode cL_law 650 = .ok (.iload_n 3, 1) := by decide +kernel
theorem dL_law_651 : decode cL_law 651 = .ok (.iconst 1, 1) := by decide +kernel
theorem dL_law_652 : decode cL_law 652 = .ok (.iadd, 1) := by decide +kernel
theorem dL_law_653 : decode cL_law 653 = .ok (.iaload, 1) := by decide +kernel
theorem dL_law_654 : decode cL_law 654 = .ok (.invokevirtual 75, 3) := by decide +kernel
theorem dL_law_657 : decode cL_law 657 = .ok (.aload_n 2, 1) := by decide +kernel
theorem dL_law_658 : decode cL_law 658 = .ok (.aload_n 0, 1) := by decide +kernel
theorem dL_law_659 : decode cL_law 659 = .ok (.iload_n 3, 1) := by decide +kernel
theorem dL_law_660 : decode cL_law 660 = .ok (.iconst 1, 1) := by decide +kernel
theorem dL_law_661 : decode cL_law 661 = .ok (.iadd, 1) := by decide +kernel
theorem dL_law_662 : decode cL_law 662 = .ok (.iaload, 1) := by decide +kernel
theorem dL_law_663 : decode cL_law 663 = .ok (.invokevirtual 79, 3) := by decide +kernel
theorem dL_law_666 : decode cL_law 666 = .ok (.if_icmp .eq 51, 3) := by decide +kernel
theorem dL_law_669 : decode cL_law 669 = .ok (.iconst 0, 1) := by decide +kernel
theorem dL_law_670 : decode cL_law 670 = .ok (.ireturn, 1) := by decide +kernel
theorem dL_law_671 : decode cL_law 671 = .ok (.aload_n 1, 1) := by decide +kernel
theorem dL_law_672 : decode cL_law 672 = .ok (.aload_n 0, 1) := by decide +kernel
theorem dL_law_673 : decode cL_law 673 = .ok (.iload_n 3, 1) := by decide +kernel
theorem dL_law_674 : decode cL_law 674 = .ok (.iconst 1, 1) := by decide +kernel
theorem dL_law_675 : decode cL_law 675 = .ok (.iadd, 1) := by decide +kernel
theorem dL_law_676 : decode cL_law 676 = .ok (.iaload, 1) := by decide +kernel
theorem dL_law_677 : decode cL_law 677 = .ok (.invokevirtual 80, 3) := by decide +kernel
theorem dL_law_680 : decode cL_law 680 = .ok (.aload_n 2, 1) := by decide +kernel
theorem dL_law_681 : decode cL_law 681 = .ok (.aload_n 0, 1) := by decide +kernel
theorem dL_law_682 : decode cL_law 682 = .ok (.iload_n 3, 1) := by decide +kernel
theorem dL_law_683 : decode cL_law 683 = .ok (.iconst 1, 1) := by decide +kernel
theorem dL_law_684 : decode cL_law 684 = .ok (.iadd, 1) := by decide +kernel
theorem dL_law_685 : decode cL_law 685 = .ok (.iaload, 1) := by decide +kernel
theorem dL_law_686 : decode cL_law 686 = .ok (.invokevirtual 83, 3) := by decide +kernel
theorem dL_law_689 : decode cL_law 689 = .ok (.if_icmp .eq 28, 3) := by decide +kernel
theorem dL_law_692 : decode cL_law 692 = .ok (.iconst 0, 1) := by decide +kernel
theorem dL_law_693 : decode cL_law 693 = .ok (.ireturn, 1) := by decide +kernel
theorem dL_law_694 : decode cL_law 694 = .ok (.aload_n 1, 1) := by decide +kernel
theorem dL_law_695 : decode cL_law 695 = .ok (.aload_n 0, 1) := by decide +kernel
theorem dL_law_696 : decode cL_law 696 = .ok (.iload_n 3, 1) := by decide +kernel
theorem dL_law_697 : decode cL_law 697 = .ok (.iconst 1, 1) := by decide +kernel
theorem dL_law_698 : decode cL_law 698 = .ok (.iadd, 1) := by decide +kernel
theorem dL_law_699 : decode cL_law 699 = .ok (.iaload, 1) := by decide +kernel
theorem dL_law_700 : decode cL_law 700 = .ok (.invokevirtual 84, 3) := by decide +kernel
theorem dL_law_703 : decode cL_law 703 = .ok (.aload_n 2, 1) := by decide +kernel
theorem dL_law_704 : decode cL_law 704 = .ok (.aload_n 0, 1) := by decide +kernel
theorem dL_law_705 : decode cL_law 705 = .ok (.iload_n 3, 1) := by decide +kernel
theorem dL_law_706 : decode cL_law 706 = .ok (.iconst 1, 1) := by decide +kernel
theorem dL_law_707 : decode cL_law 707 = .ok (.iadd, 1) := by decide +kernel
theorem dL_law_708 : decode cL_law 708 = .ok (.iaload, 1) := by decide +kernel
theorem dL_law_709 : decode cL_law 709 = .ok (.invokevirtual 87, 3) := by decide +kernel
theorem dL_law_712 : decode cL_law 712 = .ok (.if_icmp .eq 5, 3) := by decide +kernel
theorem dL_law_715 : decode cL_law 715 = .ok (.iconst 0, 1) := by decide +kernel
theorem dL_law_716 : decode cL_law 716 = .ok (.ireturn, 1) := by decide +kernel
theorem dL_law_717 : decode cL_law 717 = .ok (.iinc 3 6, 3) := by decide +kernel
theorem dL_law_720 : decode cL_law 720 = .ok (.goto (-702), 3) := by decide +kernel
theorem dL_law_723 : decode cL_law 723 = .ok (.iconst 1, 1) := by decide +kernel
theorem dL_law_724 : decode cL_law 724 = .ok (.ireturn, 1) := by decide +kernel
end
section
/-! the words: one list for every method; those that a warmed start keeps by a row of their own stand in nw_l -/
def lw_all : List Cond := lw_tbl.filter goodWord
theorem lw_in {w : Cond} (i : Nat) (h : lw_tbl[i]? = some w) (hg : goodWord w = true) : w ∈ lw_all := List.mem_filter.mpr ⟨List.mem_of_getElem? h, hg⟩
theorem lw_all_tbl {w : Cond} (h : w ∈ lw_all) : w ∈ lw_tbl := (List.mem_filter.mp h).1
theorem lw_all_good {ws : List Cond} {y : MethodName} {b : ByteArray} {n : Nat} {r : Option FieldType} (hb : ∀ w ∈ lw_all, w ∈ ws) (hc : Cond.code y b n r ∈ lw_all) : GoodIn ws (Cond.code y b n r :: lw_all) := by
  intro w hw
  rcases List.mem_cons.mp hw with rfl | hw
  · exact ⟨hb _ hc, Or.inl rfl⟩
  · exact ⟨hb _ hw, good_of_word (List.mem_filter.mp hw).2⟩
def nw_l : List Cond := [Cond.arrayOver (FieldType.object "HandLoom$Lane"),
  Cond.methodLinkNest "HandLoom$Warp" (26 : Nat) ({ cls := "HandLoom$TensionLane", name := "<init>", desc := "()V" } : MethodName) "HandLoom",
  Cond.methodLinkNest "HandLoom$TensionLane" (3 : Nat) ({ cls := "HandLoom$Lane", name := "<init>", desc := "()V" } : MethodName) "HandLoom",
  Cond.methodLinkNest "HandLoom$Warp" (29 : Nat) ({ cls := "HandLoom$LiftLane", name := "<init>", desc := "()V" } : MethodName) "HandLoom",
  Cond.methodLinkNest "HandLoom$LiftLane" (3 : Nat) ({ cls := "HandLoom$Lane", name := "<init>", desc := "()V" } : MethodName) "HandLoom",
  Cond.methodLinkNest "HandLoom$WholeLane" (3 : Nat) ({ cls := "HandLoom$Lane", name := "<init>", desc := "()V" } : MethodName) "HandLoom",
  Cond.methodLinkNest "HandLoom" (18 : Nat) ({ cls := "HandLoom$Spool", name := "<init>", desc := "()V" } : MethodName) "HandLoom",
  Cond.methodLinkNest "HandLoom" (25 : Nat) ({ cls := "HandLoom$Cloth", name := "<init>", desc := "()V" } : MethodName) "HandLoom",
  Cond.arrayOver (FieldType.object "HandLoom$Card"),
  Cond.methodLinkNest "HandLoom$Deck" (21 : Nat) ({ cls := "HandLoom$Card", name := "<init>", desc := "()V" } : MethodName) "HandLoom",
  Cond.fieldLinkNest "HandLoom$Deck" (26 : Nat) "HandLoom$Card" "kind" "I" "HandLoom",
  Cond.fieldLinkNest "HandLoom" (160 : Nat) "HandLoom$Card" "kind" "I" "HandLoom",
  Cond.fieldLinkNest "HandLoom$Deck" (29 : Nat) "HandLoom$Card" "frame" "I" "HandLoom",
  Cond.fieldLinkNest "HandLoom" (165 : Nat) "HandLoom$Card" "frame" "I" "HandLoom",
  Cond.fieldLinkNest "HandLoom$Deck" (32 : Nat) "HandLoom$Card" "sort" "I" "HandLoom",
  Cond.fieldLinkNest "HandLoom" (168 : Nat) "HandLoom$Card" "sort" "I" "HandLoom",
  Cond.fieldLinkNest "HandLoom$Deck" (35 : Nat) "HandLoom$Card" "end" "I" "HandLoom",
  Cond.fieldLinkNest "HandLoom" (171 : Nat) "HandLoom$Card" "end" "I" "HandLoom",
  Cond.fieldLinkNest "HandLoom$Deck" (38 : Nat) "HandLoom$Card" "v" "I" "HandLoom",
  Cond.fieldLinkNest "HandLoom" (174 : Nat) "HandLoom$Card" "v" "I" "HandLoom",
  Cond.methodLinkNest "HandLoom" (39 : Nat) ({ cls := "HandLoom$Ledger", name := "<init>", desc := "()V" } : MethodName) "HandLoom",
  Cond.declares ({ cls := "HandLoom$Lane", name := "reset", desc := "(I)V" } : MethodName),
  Cond.declares ({ cls := "HandLoom$Lane", name := "lay", desc := "(II)V" } : MethodName),
  Cond.declares ({ cls := "HandLoom$Lane", name := "pull", desc := "(II)V" } : MethodName),
  Cond.declares ({ cls := "HandLoom$Lane", name := "turn", desc := "(I)V" } : MethodName),
  Cond.declares ({ cls := "HandLoom$Lane", name := "part", desc := "(II)Z" } : MethodName),
  Cond.declares ({ cls := "HandLoom$Lane", name := "tells", desc := "(I)I" } : MethodName),
  Cond.declares ({ cls := "HandLoom$Lane", name := "exchange", desc := "(II)V" } : MethodName),
  Cond.castable "HandLoom$TensionLane" "HandLoom$Lane",
  Cond.castable "HandLoom$LiftLane" "HandLoom$Lane",
  Cond.castable "HandLoom$WholeLane" "HandLoom$Lane"]
theorem nw_tbl : ∀ w ∈ nw_l, w ∈ lw_tbl := by
  intro w hw
  simp only [nw_l, List.mem_cons, List.not_mem_nil, or_false] at hw
  rcases hw with rfl | rfl | rfl | rfl | rfl | rfl | rfl | rfl | rfl | rfl | rfl | rfl | rfl | rfl | rfl | rfl | rfl | rfl | rfl | rfl | rfl | rfl | rfl | rfl | rfl | rfl | rfl | rfl | rfl | rfl | rfl
  · exact List.mem_of_getElem? (i := 49) (by decide +kernel)
  · exact List.mem_of_getElem? (i := 55) (by decide +kernel)
  · exact List.mem_of_getElem? (i := 58) (by decide +kernel)
  · exact List.mem_of_getElem? (i := 72) (by decide +kernel)
  · exact List.mem_of_getElem? (i := 75) (by decide +kernel)
  · exact List.mem_of_getElem? (i := 87) (by decide +kernel)
  · exact List.mem_of_getElem? (i := 106) (by decide +kernel)
  · exact List.mem_of_getElem? (i := 122) (by decide +kernel)
  · exact List.mem_of_getElem? (i := 149) (by decide +kernel)
  · exact List.mem_of_getElem? (i := 151) (by decide +kernel)
  · exact List.mem_of_getElem? (i := 156) (by decide +kernel)
  · exact List.mem_of_getElem? (i := 157) (by decide +kernel)
  · exact List.mem_of_getElem? (i := 159) (by decide +kernel)
  · exact List.mem_of_getElem? (i := 160) (by decide +kernel)
  · exact List.mem_of_getElem? (i := 162) (by decide +kernel)
  · exact List.mem_of_getElem? (i := 163) (by decide +kernel)
  · exact List.mem_of_getElem? (i := 165) (by decide +kernel)
  · exact List.mem_of_getElem? (i := 166) (by decide +kernel)
  · exact List.mem_of_getElem? (i := 168) (by decide +kernel)
  · exact List.mem_of_getElem? (i := 169) (by decide +kernel)
  · exact List.mem_of_getElem? (i := 190) (by decide +kernel)
  · exact List.mem_of_getElem? (i := 273) (by decide +kernel)
  · exact List.mem_of_getElem? (i := 363) (by decide +kernel)
  · exact List.mem_of_getElem? (i := 391) (by decide +kernel)
  · exact List.mem_of_getElem? (i := 407) (by decide +kernel)
  · exact List.mem_of_getElem? (i := 417) (by decide +kernel)
  · exact List.mem_of_getElem? (i := 429) (by decide +kernel)
  · exact List.mem_of_getElem? (i := 445) (by decide +kernel)
  · exact List.mem_of_getElem? (i := 784) (by decide +kernel)
  · exact List.mem_of_getElem? (i := 785) (by decide +kernel)
  · exact List.mem_of_getElem? (i := 786) (by decide +kernel)
def NW (U : State) : Prop := ∀ w ∈ nw_l, va_Nw w U
theorem NW.warm {s U : State} (hW : s.WarmedH U.vm) (h : NW s) : NW U := by
  intro w hw
  have h1 := h w hw
  simp only [nw_l, List.mem_cons, List.not_mem_nil, or_false] at hw
  rcases hw with rfl | rfl | rfl | rfl | rfl | rfl | rfl | rfl | rfl | rfl | rfl | rfl | rfl | rfl | rfl | rfl | rfl | rfl | rfl | rfl | rfl | rfl | rfl | rfl | rfl | rfl | rfl | rfl | rfl | rfl | rfl
  all_goals first | exact va_Nw.warmF hW h1 | exact va_Nw.warmM hW h1 | exact va_Nw.warmD hW h1 | exact va_Nw.warmC hW h1 | exact va_AO.moved hW.alike h1
theorem NW.same {u U : State} (hv : u.vm = U.vm) (h : NW u) : NW U := by
  intro w hw
  have h1 := h w hw
  simp only [nw_l, List.mem_cons, List.not_mem_nil, or_false] at hw
  rcases hw with rfl | rfl | rfl | rfl | rfl | rfl | rfl | rfl | rfl | rfl | rfl | rfl | rfl | rfl | rfl | rfl | rfl | rfl | rfl | rfl | rfl | rfl | rfl | rfl | rfl | rfl | rfl | rfl | rfl | rfl | rfl
  all_goals first | exact va_Nw.same rfl hv h1 | exact va_AO.moved (by rw [hv]; exact Vm.Alike.refl _) h1
theorem qp_0 : Cond.selects "HandLoom$Warp" ⟨"HandLoom$Warp", "spareLane", "(I)LHandLoom$Lane;"⟩ ⟨"HandLoom$Warp", "spareLane", "(I)LHandLoom$Lane;"⟩ ∈ lw_all := lw_in 0 (by decide +kernel) (by decide +kernel)
theorem qp_1 : Cond.selects "HandLoom$Warp" ⟨"HandLoom$Warp", "isHeld", "(LHandLoom$Lane;I)Z"⟩ ⟨"HandLoom$Warp", "isHeld", "(LHandLoom$Lane;I)Z"⟩ ∈ lw_all := lw_in 1 (by decide +kernel) (by decide +kernel)
theorem qp_2 : Cond.selects "HandLoom" ⟨"HandLoom", "work", "(ILHandLoom$Lane;II)I"⟩ ⟨"HandLoom", "work", "(ILHandLoom$Lane;II)I"⟩ ∈ lw_all := lw_in 2 (by decide +kernel) (by decide +kernel)
theorem qp_3 : Cond.selects "HandLoom" ⟨"HandLoom", "change", "(ILHandLoom$Lane;II)I"⟩ ⟨"HandLoom", "change", "(ILHandLoom$Lane;II)I"⟩ ∈ lw_all := lw_in 3 (by decide +kernel) (by decide +kernel)
theorem qp_4 : Cond.selects "HandLoom$WholeLane" ⟨"HandLoom$WholeLane", "fit", "(I)I"⟩ ⟨"HandLoom$WholeLane", "fit", "(I)I"⟩ ∈ lw_all := lw_in 4 (by decide +kernel) (by decide +kernel)
theorem qp_5 : Cond.selects "HandLoom$Cloth" ⟨"HandLoom$Cloth", "isPlace", "(I)Z"⟩ ⟨"HandLoom$Cloth", "isPlace", "(I)Z"⟩ ∈ lw_all := lw_in 5 (by decide +kernel) (by decide +kernel)
theorem qp_6 : Cond.selects "HandLoom" ⟨"HandLoom", "weaveCell", "(IIII)I"⟩ ⟨"HandLoom", "weaveCell", "(IIII)I"⟩ ∈ lw_all := lw_in 6 (by decide +kernel) (by decide +kernel)
theorem qp_7 : Cond.selects "HandLoom" ⟨"HandLoom", "isEndedBy", "(I)Z"⟩ ⟨"HandLoom", "isEndedBy", "(I)Z"⟩ ∈ lw_all := lw_in 7 (by decide +kernel) (by decide +kernel)
theorem qp_8 : Cond.selects "HandLoomModel" ⟨"HandLoomModel", "bad", "(I)I"⟩ ⟨"HandLoomModel", "bad", "(I)I"⟩ ∈ lw_all := lw_in 8 (by decide +kernel) (by decide +kernel)
theorem qp_9 : Cond.selects "HandLoomModel" ⟨"HandLoomModel", "isUsed", "(I)Z"⟩ ⟨"HandLoomModel", "isUsed", "(I)Z"⟩ ∈ lw_all := lw_in 9 (by decide +kernel) (by decide +kernel)
theorem qp_10 : Cond.selects "HandLoomModel" ⟨"HandLoomModel", "good", "(I)I"⟩ ⟨"HandLoomModel", "good", "(I)I"⟩ ∈ lw_all := lw_in 10 (by decide +kernel) (by decide +kernel)
theorem qp_11 : Cond.selects "HandLoomModel" ⟨"HandLoomModel", "done", "(IIIII)I"⟩ ⟨"HandLoomModel", "done", "(IIIII)I"⟩ ∈ lw_all := lw_in 11 (by decide +kernel) (by decide +kernel)
theorem qp_12 : Cond.selects "HandLoomModel" ⟨"HandLoomModel", "drawn", "()I"⟩ ⟨"HandLoomModel", "drawn", "()I"⟩ ∈ lw_all := lw_in 12 (by decide +kernel) (by decide +kernel)
theorem qp_13 : Cond.selects "HandLoomModel" ⟨"HandLoomModel", "wrong", "(II)I"⟩ ⟨"HandLoomModel", "wrong", "(II)I"⟩ ∈ lw_all := lw_in 13 (by decide +kernel) (by decide +kernel)
theorem qp_14 : Cond.selects "HandLoomModel" ⟨"HandLoomModel", "lay", "(III)V"⟩ ⟨"HandLoomModel", "lay", "(III)V"⟩ ∈ lw_all := lw_in 14 (by decide +kernel) (by decide +kernel)
theorem qp_15 : Cond.selects "HandLoomModel" ⟨"HandLoomModel", "pull", "(III)V"⟩ ⟨"HandLoomModel", "pull", "(III)V"⟩ ∈ lw_all := lw_in 15 (by decide +kernel) (by decide +kernel)
theorem qp_16 : Cond.selects "HandLoomModel" ⟨"HandLoomModel", "part", "(III)V"⟩ ⟨"HandLoomModel", "part", "(III)V"⟩ ∈ lw_all := lw_in 16 (by decide +kernel) (by decide +kernel)
theorem qp_17 : Cond.selects "HandLoomModel" ⟨"HandLoomModel", "tells", "(II)I"⟩ ⟨"HandLoomModel", "tells", "(II)I"⟩ ∈ lw_all := lw_in 17 (by decide +kernel) (by decide +kernel)
theorem qp_18 : Cond.selects "HandLoomModel" ⟨"HandLoomModel", "wrongPick", "(I)I"⟩ ⟨"HandLoomModel", "wrongPick", "(I)I"⟩ ∈ lw_all := lw_in 18 (by decide +kernel) (by decide +kernel)
theorem qp_19 : Cond.selects "HandLoomModel" ⟨"HandLoomModel", "goneOrWrong", "(I)I"⟩ ⟨"HandLoomModel", "goneOrWrong", "(I)I"⟩ ∈ lw_all := lw_in 19 (by decide +kernel) (by decide +kernel)
theorem qp_20 : Cond.selects "HandLoomModel" ⟨"HandLoomModel", "isUp", "(II)Z"⟩ ⟨"HandLoomModel", "isUp", "(II)Z"⟩ ∈ lw_all := lw_in 20 (by decide +kernel) (by decide +kernel)
theorem qw_0 : Cond.initialized "HandLoomLaw" ∈ lw_all := lw_in 21 (by decide +kernel) (by decide +kernel)
theorem qw_1 : Cond.initialized "HandLoom" ∈ lw_all := lw_in 22 (by decide +kernel) (by decide +kernel)
theorem qw_2 : Cond.initialized "HandLoom$Warp" ∈ lw_all := lw_in 23 (by decide +kernel) (by decide +kernel)
theorem qw_3 : Cond.initialized "HandLoom$Lane" ∈ lw_all := lw_in 24 (by decide +kernel) (by decide +kernel)
theorem qw_4 : Cond.initialized "HandLoom$TensionLane" ∈ lw_all := lw_in 25 (by decide +kernel) (by decide +kernel)
theorem qw_5 : Cond.initialized "HandLoom$LiftLane" ∈ lw_all := lw_in 26 (by decide +kernel) (by decide +kernel)
theorem qw_6 : Cond.initialized "HandLoom$WholeLane" ∈ lw_all := lw_in 27 (by decide +kernel) (by decide +kernel)
theorem qw_7 : Cond.initialized "HandLoom$Spool" ∈ lw_all := lw_in 28 (by decide +kernel) (by decide +kernel)
theorem qw_8 : Cond.initialized "HandLoom$Cloth" ∈ lw_all := lw_in 29 (by decide +kernel) (by decide +kernel)
theorem qw_9 : Cond.initialized "HandLoom$Deck" ∈ lw_all := lw_in 30 (by decide +kernel) (by decide +kernel)
theorem qw_10 : Cond.initialized "HandLoom$Card" ∈ lw_all := lw_in 31 (by decide +kernel) (by decide +kernel)
theorem qw_11 : Cond.initialized "HandLoom$Ledger" ∈ lw_all := lw_in 32 (by decide +kernel) (by decide +kernel)
theorem qw_12 : Cond.initialized "HandLoomModel" ∈ lw_all := lw_in 33 (by decide +kernel) (by decide +kernel)
theorem qw_13 : Cond.classLink "HandLoomLaw" (7 : Nat) "HandLoom" ∈ lw_all := lw_in 34 (by decide +kernel) (by decide +kernel)
theorem qw_14 : Cond.instantiable "HandLoom" (8 : Nat) ∈ lw_all := lw_in 35 (by decide +kernel) (by decide +kernel)
theorem qw_15 : Cond.methodLink "HandLoomLaw" (9 : Nat) ({ cls := "HandLoom", name := "<init>", desc := "()V" } : MethodName) ∈ lw_all := lw_in 36 (by decide +kernel) (by decide +kernel)
theorem qw_16 : Cond.instanceMethod ({ cls := "HandLoom", name := "<init>", desc := "()V" } : MethodName) ∈ lw_all := lw_in 37 (by decide +kernel) (by decide +kernel)
theorem qw_17 : Cond.code ({ cls := "HandLoom", name := "<init>", desc := "()V" } : MethodName) prog_1_method_1_code (1 : Nat) (Option.none : Option ClassFile.FieldType) ∈ lw_all := lw_in 38 (by decide +kernel) (by decide +kernel)
theorem qw_18 : Cond.methodLink "HandLoom" (1 : Nat) ({ cls := "java/lang/Object", name := "<init>", desc := "()V" } : MethodName) ∈ lw_all := lw_in 39 (by decide +kernel) (by decide +kernel)
theorem qw_19 : Cond.instanceMethod ({ cls := "java/lang/Object", name := "<init>", desc := "()V" } : MethodName) ∈ lw_all := lw_in 40 (by decide +kernel) (by decide +kernel)
theorem qw_20 : Cond.code ({ cls := "java/lang/Object", name := "<init>", desc := "()V" } : MethodName) object_method_1_code (1 : Nat) (Option.none : Option ClassFile.FieldType) ∈ lw_all := lw_in 41 (by decide +kernel) (by decide +kernel)
theorem qw_21 : Cond.classLink "HandLoom" (7 : Nat) "HandLoom$Warp" ∈ lw_all := lw_in 42 (by decide +kernel) (by decide +kernel)
theorem qw_22 : Cond.instantiable "HandLoom$Warp" (2 : Nat) ∈ lw_all := lw_in 43 (by decide +kernel) (by decide +kernel)
theorem qw_23 : Cond.methodLink "HandLoom" (9 : Nat) ({ cls := "HandLoom$Warp", name := "<init>", desc := "()V" } : MethodName) ∈ lw_all := lw_in 44 (by decide +kernel) (by decide +kernel)
theorem qw_24 : Cond.instanceMethod ({ cls := "HandLoom$Warp", name := "<init>", desc := "()V" } : MethodName) ∈ lw_all := lw_in 45 (by decide +kernel) (by decide +kernel)
theorem qw_25 : Cond.code ({ cls := "HandLoom$Warp", name := "<init>", desc := "()V" } : MethodName) prog_10_method_1_code (2 : Nat) (Option.none : Option ClassFile.FieldType) ∈ lw_all := lw_in 46 (by decide +kernel) (by decide +kernel)
theorem qw_26 : Cond.methodLink "HandLoom$Warp" (3 : Nat) ({ cls := "java/lang/Object", name := "<init>", desc := "()V" } : MethodName) ∈ lw_all := lw_in 47 (by decide +kernel) (by decide +kernel)
theorem qw_27 : Cond.classLink "HandLoom$Warp" (9 : Nat) "HandLoom$Lane" ∈ lw_all := lw_in 48 (by decide +kernel) (by decide +kernel)
theorem qw_29 : Cond.methodLink "HandLoom$Warp" (20 : Nat) ({ cls := "HandLoom$Warp", name := "newLane", desc := "(I)LHandLoom$Lane;" } : MethodName) ∈ lw_all := lw_in 50 (by decide +kernel) (by decide +kernel)
theorem qw_30 : Cond.static ({ cls := "HandLoom$Warp", name := "newLane", desc := "(I)LHandLoom$Lane;" } : MethodName) ∈ lw_all := lw_in 51 (by decide +kernel) (by decide +kernel)
theorem qw_31 : Cond.code ({ cls := "HandLoom$Warp", name := "newLane", desc := "(I)LHandLoom$Lane;" } : MethodName) prog_10_method_2_code (1 : Nat) (Option.some (FieldType.object "HandLoom$Lane")) ∈ lw_all := lw_in 52 (by decide +kernel) (by decide +kernel)
theorem qw_32 : Cond.classLink "HandLoom$Warp" (24 : Nat) "HandLoom$TensionLane" ∈ lw_all := lw_in 53 (by decide +kernel) (by decide +kernel)
theorem qw_33 : Cond.instantiable "HandLoom$TensionLane" (2 : Nat) ∈ lw_all := lw_in 54 (by decide +kernel) (by decide +kernel)
theorem qw_35 : Cond.instanceMethod ({ cls := "HandLoom$TensionLane", name := "<init>", desc := "()V" } : MethodName) ∈ lw_all := lw_in 56 (by decide +kernel) (by decide +kernel)
theorem qw_36 : Cond.code ({ cls := "HandLoom$TensionLane", name := "<init>", desc := "()V" } : MethodName) prog_9_method_1_code (1 : Nat) (Option.none : Option ClassFile.FieldType) ∈ lw_all := lw_in 57 (by decide +kernel) (by decide +kernel)
theorem qw_38 : Cond.instanceMethod ({ cls := "HandLoom$Lane", name := "<init>", desc := "()V" } : MethodName) ∈ lw_all := lw_in 59 (by decide +kernel) (by decide +kernel)
theorem qw_39 : Cond.code ({ cls := "HandLoom$Lane", name := "<init>", desc := "()V" } : MethodName) prog_5_method_1_code (1 : Nat) (Option.none : Option ClassFile.FieldType) ∈ lw_all := lw_in 60 (by decide +kernel) (by decide +kernel)
theorem qw_40 : Cond.methodLink "HandLoom$Lane" (3 : Nat) ({ cls := "java/lang/Object", name := "<init>", desc := "()V" } : MethodName) ∈ lw_all := lw_in 61 (by decide +kernel) (by decide +kernel)
theorem qw_41 : Cond.fieldLink "HandLoom$TensionLane" (9 : Nat) "HandLoom$TensionLane" "values" "[F" ∈ lw_all := lw_in 62 (by decide +kernel) (by decide +kernel)
theorem qw_42 : Cond.fieldLink "HandLoom$Lane" (9 : Nat) "HandLoom$Lane" "count" "I" ∈ lw_all := lw_in 63 (by decide +kernel) (by decide +kernel)
theorem qw_43 : Cond.laysFinal "HandLoom$TensionLane" "HandLoom$TensionLane" "values" "[F" ∈ lw_all := lw_in 64 (by decide +kernel) (by decide +kernel)
theorem qw_44 : Cond.soleField "HandLoom$TensionLane" "values" ∈ lw_all := lw_in 65 (by decide +kernel) (by decide +kernel)
theorem qw_45 : Cond.lays "HandLoom$TensionLane" "HandLoom$Lane" "count" "I" ∈ lw_all := lw_in 66 (by decide +kernel) (by decide +kernel)
theorem qw_46 : Cond.soleField "HandLoom$Lane" "count" ∈ lw_all := lw_in 67 (by decide +kernel) (by decide +kernel)
theorem qw_47 : Cond.superclass "HandLoom$TensionLane" "HandLoom$Lane" ∈ lw_all := lw_in 68 (by decide +kernel) (by decide +kernel)
theorem qw_48 : Cond.arrayClass FieldType.float ∈ lw_all := lw_in 69 (by decide +kernel) (by decide +kernel)
theorem qw_49 : Cond.classLink "HandLoom$Warp" (27 : Nat) "HandLoom$LiftLane" ∈ lw_all := lw_in 70 (by decide +kernel) (by decide +kernel)
theorem qw_50 : Cond.instantiable "HandLoom$LiftLane" (2 : Nat) ∈ lw_all := lw_in 71 (by decide +kernel) (by decide +kernel)
theorem qw_52 : Cond.instanceMethod ({ cls := "HandLoom$LiftLane", name := "<init>", desc := "()V" } : MethodName) ∈ lw_all := lw_in 73 (by decide +kernel) (by decide +kernel)
theorem qw_53 : Cond.code ({ cls := "HandLoom$LiftLane", name := "<init>", desc := "()V" } : MethodName) prog_7_method_1_code (1 : Nat) (Option.none : Option ClassFile.FieldType) ∈ lw_all := lw_in 74 (by decide +kernel) (by decide +kernel)
theorem qw_55 : Cond.fieldLink "HandLoom$LiftLane" (9 : Nat) "HandLoom$LiftLane" "up" "[Z" ∈ lw_all := lw_in 76 (by decide +kernel) (by decide +kernel)
theorem qw_56 : Cond.laysFinal "HandLoom$LiftLane" "HandLoom$LiftLane" "up" "[Z" ∈ lw_all := lw_in 77 (by decide +kernel) (by decide +kernel)
theorem qw_57 : Cond.soleField "HandLoom$LiftLane" "up" ∈ lw_all := lw_in 78 (by decide +kernel) (by decide +kernel)
theorem qw_58 : Cond.lays "HandLoom$LiftLane" "HandLoom$Lane" "count" "I" ∈ lw_all := lw_in 79 (by decide +kernel) (by decide +kernel)
theorem qw_59 : Cond.superclass "HandLoom$LiftLane" "HandLoom$Lane" ∈ lw_all := lw_in 80 (by decide +kernel) (by decide +kernel)
theorem qw_60 : Cond.arrayClass FieldType.boolean ∈ lw_all := lw_in 81 (by decide +kernel) (by decide +kernel)
theorem qw_61 : Cond.classLink "HandLoom$Warp" (30 : Nat) "HandLoom$WholeLane" ∈ lw_all := lw_in 82 (by decide +kernel) (by decide +kernel)
theorem qw_62 : Cond.instantiable "HandLoom$WholeLane" (3 : Nat) ∈ lw_all := lw_in 83 (by decide +kernel) (by decide +kernel)
theorem qw_63 : Cond.methodLink "HandLoom$Warp" (32 : Nat) ({ cls := "HandLoom$WholeLane", name := "<init>", desc := "(I)V" } : MethodName) ∈ lw_all := lw_in 84 (by decide +kernel) (by decide +kernel)
theorem qw_64 : Cond.instanceMethod ({ cls := "HandLoom$WholeLane", name := "<init>", desc := "(I)V" } : MethodName) ∈ lw_all := lw_in 85 (by decide +kernel) (by decide +kernel)
theorem qw_65 : Cond.code ({ cls := "HandLoom$WholeLane", name := "<init>", desc := "(I)V" } : MethodName) prog_11_method_1_code (2 : Nat) (Option.none : Option ClassFile.FieldType) ∈ lw_all := lw_in 86 (by decide +kernel) (by decide +kernel)
theorem qw_67 : Cond.fieldLink "HandLoom$WholeLane" (15 : Nat) "HandLoom$WholeLane" "sort" "I" ∈ lw_all := lw_in 88 (by decide +kernel) (by decide +kernel)
theorem qw_68 : Cond.fieldLink "HandLoom$WholeLane" (9 : Nat) "HandLoom$WholeLane" "values" "[I" ∈ lw_all := lw_in 89 (by decide +kernel) (by decide +kernel)
theorem qw_69 : Cond.laysFinal "HandLoom$WholeLane" "HandLoom$WholeLane" "sort" "I" ∈ lw_all := lw_in 90 (by decide +kernel) (by decide +kernel)
theorem qw_70 : Cond.soleField "HandLoom$WholeLane" "sort" ∈ lw_all := lw_in 91 (by decide +kernel) (by decide +kernel)
theorem qw_71 : Cond.laysFinal "HandLoom$WholeLane" "HandLoom$WholeLane" "values" "[I" ∈ lw_all := lw_in 92 (by decide +kernel) (by decide +kernel)
theorem qw_72 : Cond.soleField "HandLoom$WholeLane" "values" ∈ lw_all := lw_in 93 (by decide +kernel) (by decide +kernel)
theorem qw_73 : Cond.lays "HandLoom$WholeLane" "HandLoom$Lane" "count" "I" ∈ lw_all := lw_in 94 (by decide +kernel) (by decide +kernel)
theorem qw_74 : Cond.superclass "HandLoom$WholeLane" "HandLoom$Lane" ∈ lw_all := lw_in 95 (by decide +kernel) (by decide +kernel)
theorem qw_75 : Cond.arrayClass FieldType.int ∈ lw_all := lw_in 96 (by decide +kernel) (by decide +kernel)
theorem qw_76 : Cond.fieldLink "HandLoom$Warp" (11 : Nat) "HandLoom$Warp" "store" "[LHandLoom$Lane;" ∈ lw_all := lw_in 97 (by decide +kernel) (by decide +kernel)
theorem qw_77 : Cond.fieldLink "HandLoom$Warp" (17 : Nat) "HandLoom$Warp" "lanes" "[LHandLoom$Lane;" ∈ lw_all := lw_in 98 (by decide +kernel) (by decide +kernel)
theorem qw_78 : Cond.laysFinal "HandLoom$Warp" "HandLoom$Warp" "store" "[LHandLoom$Lane;" ∈ lw_all := lw_in 99 (by decide +kernel) (by decide +kernel)
theorem qw_79 : Cond.soleField "HandLoom$Warp" "store" ∈ lw_all := lw_in 100 (by decide +kernel) (by decide +kernel)
theorem qw_80 : Cond.laysFinal "HandLoom$Warp" "HandLoom$Warp" "lanes" "[LHandLoom$Lane;" ∈ lw_all := lw_in 101 (by decide +kernel) (by decide +kernel)
theorem qw_81 : Cond.soleField "HandLoom$Warp" "lanes" ∈ lw_all := lw_in 102 (by decide +kernel) (by decide +kernel)
theorem qw_82 : Cond.superclass "HandLoom$Warp" "java/lang/Object" ∈ lw_all := lw_in 103 (by decide +kernel) (by decide +kernel)
theorem qw_83 : Cond.classLink "HandLoom" (16 : Nat) "HandLoom$Spool" ∈ lw_all := lw_in 104 (by decide +kernel) (by decide +kernel)
theorem qw_84 : Cond.instantiable "HandLoom$Spool" (3 : Nat) ∈ lw_all := lw_in 105 (by decide +kernel) (by decide +kernel)
theorem qw_86 : Cond.instanceMethod ({ cls := "HandLoom$Spool", name := "<init>", desc := "()V" } : MethodName) ∈ lw_all := lw_in 107 (by decide +kernel) (by decide +kernel)
theorem qw_87 : Cond.code ({ cls := "HandLoom$Spool", name := "<init>", desc := "()V" } : MethodName) prog_8_method_1_code (1 : Nat) (Option.none : Option ClassFile.FieldType) ∈ lw_all := lw_in 108 (by decide +kernel) (by decide +kernel)
theorem qw_88 : Cond.methodLink "HandLoom$Spool" (3 : Nat) ({ cls := "java/lang/Object", name := "<init>", desc := "()V" } : MethodName) ∈ lw_all := lw_in 109 (by decide +kernel) (by decide +kernel)
theorem qw_89 : Cond.fieldLink "HandLoom$Spool" (9 : Nat) "HandLoom$Spool" "ring" "[I" ∈ lw_all := lw_in 110 (by decide +kernel) (by decide +kernel)
theorem qw_90 : Cond.fieldLink "HandLoom$Spool" (15 : Nat) "HandLoom$Spool" "first" "I" ∈ lw_all := lw_in 111 (by decide +kernel) (by decide +kernel)
theorem qw_91 : Cond.fieldLink "HandLoom$Spool" (19 : Nat) "HandLoom$Spool" "count" "I" ∈ lw_all := lw_in 112 (by decide +kernel) (by decide +kernel)
theorem qw_92 : Cond.laysFinal "HandLoom$Spool" "HandLoom$Spool" "ring" "[I" ∈ lw_all := lw_in 113 (by decide +kernel) (by decide +kernel)
theorem qw_93 : Cond.soleField "HandLoom$Spool" "ring" ∈ lw_all := lw_in 114 (by decide +kernel) (by decide +kernel)
theorem qw_94 : Cond.lays "HandLoom$Spool" "HandLoom$Spool" "first" "I" ∈ lw_all := lw_in 115 (by decide +kernel) (by decide +kernel)
theorem qw_95 : Cond.soleField "HandLoom$Spool" "first" ∈ lw_all := lw_in 116 (by decide +kernel) (by decide +kernel)
theorem qw_96 : Cond.lays "HandLoom$Spool" "HandLoom$Spool" "count" "I" ∈ lw_all := lw_in 117 (by decide +kernel) (by decide +kernel)
theorem qw_97 : Cond.soleField "HandLoom$Spool" "count" ∈ lw_all := lw_in 118 (by decide +kernel) (by decide +kernel)
theorem qw_98 : Cond.superclass "HandLoom$Spool" "java/lang/Object" ∈ lw_all := lw_in 119 (by decide +kernel) (by decide +kernel)
theorem qw_99 : Cond.classLink "HandLoom" (23 : Nat) "HandLoom$Cloth" ∈ lw_all := lw_in 120 (by decide +kernel) (by decide +kernel)
theorem qw_100 : Cond.instantiable "HandLoom$Cloth" (5 : Nat) ∈ lw_all := lw_in 121 (by decide +kernel) (by decide +kernel)
theorem qw_102 : Cond.instanceMethod ({ cls := "HandLoom$Cloth", name := "<init>", desc := "()V" } : MethodName) ∈ lw_all := lw_in 123 (by decide +kernel) (by decide +kernel)
theorem qw_103 : Cond.code ({ cls := "HandLoom$Cloth", name := "<init>", desc := "()V" } : MethodName) prog_3_method_1_code (1 : Nat) (Option.none : Option ClassFile.FieldType) ∈ lw_all := lw_in 124 (by decide +kernel) (by decide +kernel)
theorem qw_104 : Cond.methodLink "HandLoom$Cloth" (3 : Nat) ({ cls := "java/lang/Object", name := "<init>", desc := "()V" } : MethodName) ∈ lw_all := lw_in 125 (by decide +kernel) (by decide +kernel)
theorem qw_105 : Cond.fieldLink "HandLoom$Cloth" (9 : Nat) "HandLoom$Cloth" "cells" "[I" ∈ lw_all := lw_in 126 (by decide +kernel) (by decide +kernel)
theorem qw_106 : Cond.fieldLink "HandLoom$Cloth" (15 : Nat) "HandLoom$Cloth" "rows" "[I" ∈ lw_all := lw_in 127 (by decide +kernel) (by decide +kernel)
theorem qw_107 : Cond.fieldLink "HandLoom$Cloth" (18 : Nat) "HandLoom$Cloth" "there" "Z" ∈ lw_all := lw_in 128 (by decide +kernel) (by decide +kernel)
theorem qw_108 : Cond.fieldLink "HandLoom$Cloth" (22 : Nat) "HandLoom$Cloth" "picks" "I" ∈ lw_all := lw_in 129 (by decide +kernel) (by decide +kernel)
theorem qw_109 : Cond.fieldLink "HandLoom$Cloth" (26 : Nat) "HandLoom$Cloth" "width" "I" ∈ lw_all := lw_in 130 (by decide +kernel) (by decide +kernel)
theorem qw_110 : Cond.laysFinal "HandLoom$Cloth" "HandLoom$Cloth" "cells" "[I" ∈ lw_all := lw_in 131 (by decide +kernel) (by decide +kernel)
theorem qw_111 : Cond.soleField "HandLoom$Cloth" "cells" ∈ lw_all := lw_in 132 (by decide +kernel) (by decide +kernel)
theorem qw_112 : Cond.laysFinal "HandLoom$Cloth" "HandLoom$Cloth" "rows" "[I" ∈ lw_all := lw_in 133 (by decide +kernel) (by decide +kernel)
theorem qw_113 : Cond.soleField "HandLoom$Cloth" "rows" ∈ lw_all := lw_in 134 (by decide +kernel) (by decide +kernel)
theorem qw_114 : Cond.lays "HandLoom$Cloth" "HandLoom$Cloth" "there" "Z" ∈ lw_all := lw_in 135 (by decide +kernel) (by decide +kernel)
theorem qw_115 : Cond.soleField "HandLoom$Cloth" "there" ∈ lw_all := lw_in 136 (by decide +kernel) (by decide +kernel)
theorem qw_116 : Cond.lays "HandLoom$Cloth" "HandLoom$Cloth" "picks" "I" ∈ lw_all := lw_in 137 (by decide +kernel) (by decide +kernel)
theorem qw_117 : Cond.soleField "HandLoom$Cloth" "picks" ∈ lw_all := lw_in 138 (by decide +kernel) (by decide +kernel)
theorem qw_118 : Cond.lays "HandLoom$Cloth" "HandLoom$Cloth" "width" "I" ∈ lw_all := lw_in 139 (by decide +kernel) (by decide +kernel)
theorem qw_119 : Cond.soleField "HandLoom$Cloth" "width" ∈ lw_all := lw_in 140 (by decide +kernel) (by decide +kernel)
theorem qw_120 : Cond.superclass "HandLoom$Cloth" "java/lang/Object" ∈ lw_all := lw_in 141 (by decide +kernel) (by decide +kernel)
theorem qw_121 : Cond.classLink "HandLoom" (30 : Nat) "HandLoom$Deck" ∈ lw_all := lw_in 142 (by decide +kernel) (by decide +kernel)
theorem qw_122 : Cond.instantiable "HandLoom$Deck" (2 : Nat) ∈ lw_all := lw_in 143 (by decide +kernel) (by decide +kernel)
theorem qw_123 : Cond.methodLink "HandLoom" (32 : Nat) ({ cls := "HandLoom$Deck", name := "<init>", desc := "()V" } : MethodName) ∈ lw_all := lw_in 144 (by decide +kernel) (by decide +kernel)
theorem qw_124 : Cond.instanceMethod ({ cls := "HandLoom$Deck", name := "<init>", desc := "()V" } : MethodName) ∈ lw_all := lw_in 145 (by decide +kernel) (by decide +kernel)
theorem qw_125 : Cond.code ({ cls := "HandLoom$Deck", name := "<init>", desc := "()V" } : MethodName) prog_4_method_1_code (2 : Nat) (Option.none : Option ClassFile.FieldType) ∈ lw_all := lw_in 146 (by decide +kernel) (by decide +kernel)
theorem qw_126 : Cond.methodLink "HandLoom$Deck" (3 : Nat) ({ cls := "java/lang/Object", name := "<init>", desc := "()V" } : MethodName) ∈ lw_all := lw_in 147 (by decide +kernel) (by decide +kernel)
theorem qw_127 : Cond.classLink "HandLoom$Deck" (9 : Nat) "HandLoom$Card" ∈ lw_all := lw_in 148 (by decide +kernel) (by decide +kernel)
theorem qw_129 : Cond.instantiable "HandLoom$Card" (5 : Nat) ∈ lw_all := lw_in 150 (by decide +kernel) (by decide +kernel)
theorem qw_131 : Cond.instanceMethod ({ cls := "HandLoom$Card", name := "<init>", desc := "()V" } : MethodName) ∈ lw_all := lw_in 152 (by decide +kernel) (by decide +kernel)
theorem qw_132 : Cond.code ({ cls := "HandLoom$Card", name := "<init>", desc := "()V" } : MethodName) prog_2_method_1_code (1 : Nat) (Option.none : Option ClassFile.FieldType) ∈ lw_all := lw_in 153 (by decide +kernel) (by decide +kernel)
theorem qw_133 : Cond.methodLink "HandLoom$Card" (3 : Nat) ({ cls := "java/lang/Object", name := "<init>", desc := "()V" } : MethodName) ∈ lw_all := lw_in 154 (by decide +kernel) (by decide +kernel)
theorem qw_134 : Cond.fieldLink "HandLoom$Card" (9 : Nat) "HandLoom$Card" "kind" "I" ∈ lw_all := lw_in 155 (by decide +kernel) (by decide +kernel)
theorem qw_137 : Cond.fieldLink "HandLoom$Card" (15 : Nat) "HandLoom$Card" "frame" "I" ∈ lw_all := lw_in 158 (by decide +kernel) (by decide +kernel)
theorem qw_140 : Cond.fieldLink "HandLoom$Card" (18 : Nat) "HandLoom$Card" "sort" "I" ∈ lw_all := lw_in 161 (by decide +kernel) (by decide +kernel)
theorem qw_143 : Cond.fieldLink "HandLoom$Card" (21 : Nat) "HandLoom$Card" "end" "I" ∈ lw_all := lw_in 164 (by decide +kernel) (by decide +kernel)
theorem qw_146 : Cond.fieldLink "HandLoom$Card" (24 : Nat) "HandLoom$Card" "v" "I" ∈ lw_all := lw_in 167 (by decide +kernel) (by decide +kernel)
theorem qw_149 : Cond.lays "HandLoom$Card" "HandLoom$Card" "kind" "I" ∈ lw_all := lw_in 170 (by decide +kernel) (by decide +kernel)
theorem qw_150 : Cond.soleField "HandLoom$Card" "kind" ∈ lw_all := lw_in 171 (by decide +kernel) (by decide +kernel)
theorem qw_151 : Cond.lays "HandLoom$Card" "HandLoom$Card" "frame" "I" ∈ lw_all := lw_in 172 (by decide +kernel) (by decide +kernel)
theorem qw_152 : Cond.soleField "HandLoom$Card" "frame" ∈ lw_all := lw_in 173 (by decide +kernel) (by decide +kernel)
theorem qw_153 : Cond.lays "HandLoom$Card" "HandLoom$Card" "sort" "I" ∈ lw_all := lw_in 174 (by decide +kernel) (by decide +kernel)
theorem qw_154 : Cond.soleField "HandLoom$Card" "sort" ∈ lw_all := lw_in 175 (by decide +kernel) (by decide +kernel)
theorem qw_155 : Cond.lays "HandLoom$Card" "HandLoom$Card" "end" "I" ∈ lw_all := lw_in 176 (by decide +kernel) (by decide +kernel)
theorem qw_156 : Cond.soleField "HandLoom$Card" "end" ∈ lw_all := lw_in 177 (by decide +kernel) (by decide +kernel)
theorem qw_157 : Cond.lays "HandLoom$Card" "HandLoom$Card" "v" "I" ∈ lw_all := lw_in 178 (by decide +kernel) (by decide +kernel)
theorem qw_158 : Cond.soleField "HandLoom$Card" "v" ∈ lw_all := lw_in 179 (by decide +kernel) (by decide +kernel)
theorem qw_159 : Cond.superclass "HandLoom$Card" "java/lang/Object" ∈ lw_all := lw_in 180 (by decide +kernel) (by decide +kernel)
theorem qw_160 : Cond.fieldLink "HandLoom$Deck" (11 : Nat) "HandLoom$Deck" "cards" "[LHandLoom$Card;" ∈ lw_all := lw_in 181 (by decide +kernel) (by decide +kernel)
theorem qw_161 : Cond.fieldLink "HandLoom$Deck" (17 : Nat) "HandLoom$Deck" "count" "I" ∈ lw_all := lw_in 182 (by decide +kernel) (by decide +kernel)
theorem qw_162 : Cond.laysFinal "HandLoom$Deck" "HandLoom$Deck" "cards" "[LHandLoom$Card;" ∈ lw_all := lw_in 183 (by decide +kernel) (by decide +kernel)
theorem qw_163 : Cond.soleField "HandLoom$Deck" "cards" ∈ lw_all := lw_in 184 (by decide +kernel) (by decide +kernel)
theorem qw_164 : Cond.lays "HandLoom$Deck" "HandLoom$Deck" "count" "I" ∈ lw_all := lw_in 185 (by decide +kernel) (by decide +kernel)
theorem qw_165 : Cond.soleField "HandLoom$Deck" "count" ∈ lw_all := lw_in 186 (by decide +kernel) (by decide +kernel)
theorem qw_166 : Cond.superclass "HandLoom$Deck" "java/lang/Object" ∈ lw_all := lw_in 187 (by decide +kernel) (by decide +kernel)
theorem qw_167 : Cond.classLink "HandLoom" (37 : Nat) "HandLoom$Ledger" ∈ lw_all := lw_in 188 (by decide +kernel) (by decide +kernel)
theorem qw_168 : Cond.instantiable "HandLoom$Ledger" (2 : Nat) ∈ lw_all := lw_in 189 (by decide +kernel) (by decide +kernel)
theorem qw_170 : Cond.instanceMethod ({ cls := "HandLoom$Ledger", name := "<init>", desc := "()V" } : MethodName) ∈ lw_all := lw_in 191 (by decide +kernel) (by decide +kernel)
theorem qw_171 : Cond.code ({ cls := "HandLoom$Ledger", name := "<init>", desc := "()V" } : MethodName) prog_6_method_1_code (1 : Nat) (Option.none : Option ClassFile.FieldType) ∈ lw_all := lw_in 192 (by decide +kernel) (by decide +kernel)
theorem qw_172 : Cond.methodLink "HandLoom$Ledger" (3 : Nat) ({ cls := "java/lang/Object", name := "<init>", desc := "()V" } : MethodName) ∈ lw_all := lw_in 193 (by decide +kernel) (by decide +kernel)
theorem qw_173 : Cond.fieldLink "HandLoom$Ledger" (9 : Nat) "HandLoom$Ledger" "counts" "[I" ∈ lw_all := lw_in 194 (by decide +kernel) (by decide +kernel)
theorem qw_174 : Cond.fieldLink "HandLoom$Ledger" (15 : Nat) "HandLoom$Ledger" "latest" "I" ∈ lw_all := lw_in 195 (by decide +kernel) (by decide +kernel)
theorem qw_175 : Cond.laysFinal "HandLoom$Ledger" "HandLoom$Ledger" "counts" "[I" ∈ lw_all := lw_in 196 (by decide +kernel) (by decide +kernel)
theorem qw_176 : Cond.soleField "HandLoom$Ledger" "counts" ∈ lw_all := lw_in 197 (by decide +kernel) (by decide +kernel)
theorem qw_177 : Cond.lays "HandLoom$Ledger" "HandLoom$Ledger" "latest" "I" ∈ lw_all := lw_in 198 (by decide +kernel) (by decide +kernel)
theorem qw_178 : Cond.soleField "HandLoom$Ledger" "latest" ∈ lw_all := lw_in 199 (by decide +kernel) (by decide +kernel)
theorem qw_179 : Cond.superclass "HandLoom$Ledger" "java/lang/Object" ∈ lw_all := lw_in 200 (by decide +kernel) (by decide +kernel)
theorem qw_180 : Cond.fieldLink "HandLoom" (10 : Nat) "HandLoom" "warp" "LHandLoom$Warp;" ∈ lw_all := lw_in 201 (by decide +kernel) (by decide +kernel)
theorem qw_181 : Cond.fieldLink "HandLoom" (19 : Nat) "HandLoom" "threads" "LHandLoom$Spool;" ∈ lw_all := lw_in 202 (by decide +kernel) (by decide +kernel)
theorem qw_182 : Cond.fieldLink "HandLoom" (26 : Nat) "HandLoom" "fabric" "LHandLoom$Cloth;" ∈ lw_all := lw_in 203 (by decide +kernel) (by decide +kernel)
theorem qw_183 : Cond.fieldLink "HandLoom" (33 : Nat) "HandLoom" "deck" "LHandLoom$Deck;" ∈ lw_all := lw_in 204 (by decide +kernel) (by decide +kernel)
theorem qw_184 : Cond.fieldLink "HandLoom" (40 : Nat) "HandLoom" "ledger" "LHandLoom$Ledger;" ∈ lw_all := lw_in 205 (by decide +kernel) (by decide +kernel)
theorem qw_185 : Cond.fieldLink "HandLoom" (44 : Nat) "HandLoom" "passedOver" "I" ∈ lw_all := lw_in 206 (by decide +kernel) (by decide +kernel)
theorem qw_186 : Cond.fieldLink "HandLoom" (48 : Nat) "HandLoom" "runSum" "I" ∈ lw_all := lw_in 207 (by decide +kernel) (by decide +kernel)
theorem qw_187 : Cond.fieldLink "HandLoom" (51 : Nat) "HandLoom" "wovenToEnd" "I" ∈ lw_all := lw_in 208 (by decide +kernel) (by decide +kernel)
theorem qw_188 : Cond.laysFinal "HandLoom" "HandLoom" "warp" "LHandLoom$Warp;" ∈ lw_all := lw_in 209 (by decide +kernel) (by decide +kernel)
theorem qw_189 : Cond.soleField "HandLoom" "warp" ∈ lw_all := lw_in 210 (by decide +kernel) (by decide +kernel)
theorem qw_190 : Cond.laysFinal "HandLoom" "HandLoom" "threads" "LHandLoom$Spool;" ∈ lw_all := lw_in 211 (by decide +kernel) (by decide +kernel)
theorem qw_191 : Cond.soleField "HandLoom" "threads" ∈ lw_all := lw_in 212 (by decide +kernel) (by decide +kernel)
theorem qw_192 : Cond.laysFinal "HandLoom" "HandLoom" "fabric" "LHandLoom$Cloth;" ∈ lw_all := lw_in 213 (by decide +kernel) (by decide +kernel)
theorem qw_193 : Cond.soleField "HandLoom" "fabric" ∈ lw_all := lw_in 214 (by decide +kernel) (by decide +kernel)
theorem qw_194 : Cond.laysFinal "HandLoom" "HandLoom" "deck" "LHandLoom$Deck;" ∈ lw_all := lw_in 215 (by decide +kernel) (by decide +kernel)
theorem qw_195 : Cond.soleField "HandLoom" "deck" ∈ lw_all := lw_in 216 (by decide +kernel) (by decide +kernel)
theorem qw_196 : Cond.laysFinal "HandLoom" "HandLoom" "ledger" "LHandLoom$Ledger;" ∈ lw_all := lw_in 217 (by decide +kernel) (by decide +kernel)
theorem qw_197 : Cond.soleField "HandLoom" "ledger" ∈ lw_all := lw_in 218 (by decide +kernel) (by decide +kernel)
theorem qw_198 : Cond.lays "HandLoom" "HandLoom" "passedOver" "I" ∈ lw_all := lw_in 219 (by decide +kernel) (by decide +kernel)
theorem qw_199 : Cond.soleField "HandLoom" "passedOver" ∈ lw_all := lw_in 220 (by decide +kernel) (by decide +kernel)
theorem qw_200 : Cond.lays "HandLoom" "HandLoom" "runSum" "I" ∈ lw_all := lw_in 221 (by decide +kernel) (by decide +kernel)
theorem qw_201 : Cond.soleField "HandLoom" "runSum" ∈ lw_all := lw_in 222 (by decide +kernel) (by decide +kernel)
theorem qw_202 : Cond.lays "HandLoom" "HandLoom" "wovenToEnd" "I" ∈ lw_all := lw_in 223 (by decide +kernel) (by decide +kernel)
theorem qw_203 : Cond.soleField "HandLoom" "wovenToEnd" ∈ lw_all := lw_in 224 (by decide +kernel) (by decide +kernel)
theorem qw_204 : Cond.superclass "HandLoom" "java/lang/Object" ∈ lw_all := lw_in 225 (by decide +kernel) (by decide +kernel)
theorem qw_205 : Cond.methodLink "HandLoomLaw" (13 : Nat) ({ cls := "HandLoom", name := "thread", desc := "(III)I" } : MethodName) ∈ lw_all := lw_in 226 (by decide +kernel) (by decide +kernel)
theorem qw_206 : Cond.instanceMethod ({ cls := "HandLoom", name := "thread", desc := "(III)I" } : MethodName) ∈ lw_all := lw_in 227 (by decide +kernel) (by decide +kernel)
theorem qw_207 : Cond.selects "HandLoom" ({ cls := "HandLoom", name := "thread", desc := "(III)I" } : MethodName) ({ cls := "HandLoom", name := "thread", desc := "(III)I" } : MethodName) ∈ lw_all := lw_in 228 (by decide +kernel) (by decide +kernel)
theorem qw_208 : Cond.code ({ cls := "HandLoom", name := "thread", desc := "(III)I" } : MethodName) prog_1_method_2_code (4 : Nat) (Option.some FieldType.int) ∈ lw_all := lw_in 229 (by decide +kernel) (by decide +kernel)
theorem qw_209 : Cond.methodLink "HandLoom" (54 : Nat) ({ cls := "HandLoom$Warp", name := "isLane", desc := "(II)Z" } : MethodName) ∈ lw_all := lw_in 230 (by decide +kernel) (by decide +kernel)
theorem qw_210 : Cond.static ({ cls := "HandLoom$Warp", name := "isLane", desc := "(II)Z" } : MethodName) ∈ lw_all := lw_in 231 (by decide +kernel) (by decide +kernel)
theorem qw_211 : Cond.code ({ cls := "HandLoom$Warp", name := "isLane", desc := "(II)Z" } : MethodName) prog_10_method_4_code (2 : Nat) (Option.some FieldType.boolean) ∈ lw_all := lw_in 232 (by decide +kernel) (by decide +kernel)
theorem qw_212 : Cond.methodLink "HandLoom$Warp" (35 : Nat) ({ cls := "HandLoom$Warp", name := "isFrame", desc := "(I)Z" } : MethodName) ∈ lw_all := lw_in 233 (by decide +kernel) (by decide +kernel)
theorem qw_213 : Cond.static ({ cls := "HandLoom$Warp", name := "isFrame", desc := "(I)Z" } : MethodName) ∈ lw_all := lw_in 234 (by decide +kernel) (by decide +kernel)
theorem qw_214 : Cond.code ({ cls := "HandLoom$Warp", name := "isFrame", desc := "(I)Z" } : MethodName) prog_10_method_3_code (1 : Nat) (Option.some FieldType.boolean) ∈ lw_all := lw_in 235 (by decide +kernel) (by decide +kernel)
theorem qw_215 : Cond.constant "HandLoom" (58 : Nat) (-2147483648 : Int32) ∈ lw_all := lw_in 236 (by decide +kernel) (by decide +kernel)
theorem qw_216 : Cond.methodLink "HandLoom" (59 : Nat) ({ cls := "HandLoom$Ledger", name := "begin", desc := "()V" } : MethodName) ∈ lw_all := lw_in 237 (by decide +kernel) (by decide +kernel)
theorem qw_217 : Cond.instanceMethod ({ cls := "HandLoom$Ledger", name := "begin", desc := "()V" } : MethodName) ∈ lw_all := lw_in 238 (by decide +kernel) (by decide +kernel)
theorem qw_218 : Cond.selects "HandLoom$Ledger" ({ cls := "HandLoom$Ledger", name := "begin", desc := "()V" } : MethodName) ({ cls := "HandLoom$Ledger", name := "begin", desc := "()V" } : MethodName) ∈ lw_all := lw_in 239 (by decide +kernel) (by decide +kernel)
theorem qw_219 : Cond.code ({ cls := "HandLoom$Ledger", name := "begin", desc := "()V" } : MethodName) prog_6_method_2_code (1 : Nat) (Option.none : Option ClassFile.FieldType) ∈ lw_all := lw_in 240 (by decide +kernel) (by decide +kernel)
theorem qw_220 : Cond.methodLink "HandLoom" (62 : Nat) ({ cls := "HandLoom$Ledger", name := "tell", desc := "(I)I" } : MethodName) ∈ lw_all := lw_in 241 (by decide +kernel) (by decide +kernel)
theorem qw_221 : Cond.instanceMethod ({ cls := "HandLoom$Ledger", name := "tell", desc := "(I)I" } : MethodName) ∈ lw_all := lw_in 242 (by decide +kernel) (by decide +kernel)
theorem qw_222 : Cond.selects "HandLoom$Ledger" ({ cls := "HandLoom$Ledger", name := "tell", desc := "(I)I" } : MethodName) ({ cls := "HandLoom$Ledger", name := "tell", desc := "(I)I" } : MethodName) ∈ lw_all := lw_in 243 (by decide +kernel) (by decide +kernel)
theorem qw_223 : Cond.code ({ cls := "HandLoom$Ledger", name := "tell", desc := "(I)I" } : MethodName) prog_6_method_3_code (2 : Nat) (Option.some FieldType.int) ∈ lw_all := lw_in 244 (by decide +kernel) (by decide +kernel)
theorem qw_224 : Cond.methodLink "HandLoom" (66 : Nat) ({ cls := "HandLoom$Warp", name := "stretch", desc := "(III)V" } : MethodName) ∈ lw_all := lw_in 245 (by decide +kernel) (by decide +kernel)
theorem qw_225 : Cond.instanceMethod ({ cls := "HandLoom$Warp", name := "stretch", desc := "(III)V" } : MethodName) ∈ lw_all := lw_in 246 (by decide +kernel) (by decide +kernel)
theorem qw_226 : Cond.selects "HandLoom$Warp" ({ cls := "HandLoom$Warp", name := "stretch", desc := "(III)V" } : MethodName) ({ cls := "HandLoom$Warp", name := "stretch", desc := "(III)V" } : MethodName) ∈ lw_all := lw_in 247 (by decide +kernel) (by decide +kernel)
theorem qw_227 : Cond.code ({ cls := "HandLoom$Warp", name := "stretch", desc := "(III)V" } : MethodName) prog_10_method_9_code (5 : Nat) (Option.none : Option ClassFile.FieldType) ∈ lw_all := lw_in 248 (by decide +kernel) (by decide +kernel)
theorem qw_228 : Cond.methodLink "HandLoom$Warp" (39 : Nat) ({ cls := "HandLoom$Warp", name := "isLane", desc := "(II)Z" } : MethodName) ∈ lw_all := lw_in 249 (by decide +kernel) (by decide +kernel)
theorem qw_229 : Cond.methodLink "HandLoom$Warp" (51 : Nat) ({ cls := "HandLoom$Warp", name := "loosen", desc := "(II)V" } : MethodName) ∈ lw_all := lw_in 250 (by decide +kernel) (by decide +kernel)
theorem qw_230 : Cond.instanceMethod ({ cls := "HandLoom$Warp", name := "loosen", desc := "(II)V" } : MethodName) ∈ lw_all := lw_in 251 (by decide +kernel) (by decide +kernel)
theorem qw_231 : Cond.selects "HandLoom$Warp" ({ cls := "HandLoom$Warp", name := "loosen", desc := "(II)V" } : MethodName) ({ cls := "HandLoom$Warp", name := "loosen", desc := "(II)V" } : MethodName) ∈ lw_all := lw_in 252 (by decide +kernel) (by decide +kernel)
theorem qw_232 : Cond.code ({ cls := "HandLoom$Warp", name := "loosen", desc := "(II)V" } : MethodName) prog_10_method_7_code (3 : Nat) (Option.none : Option ClassFile.FieldType) ∈ lw_all := lw_in 253 (by decide +kernel) (by decide +kernel)
theorem qw_233 : Cond.methodLink "HandLoom$Warp" (43 : Nat) ({ cls := "HandLoom$Warp", name := "place", desc := "(II)I" } : MethodName) ∈ lw_all := lw_in 254 (by decide +kernel) (by decide +kernel)
theorem qw_234 : Cond.static ({ cls := "HandLoom$Warp", name := "place", desc := "(II)I" } : MethodName) ∈ lw_all := lw_in 255 (by decide +kernel) (by decide +kernel)
theorem qw_235 : Cond.code ({ cls := "HandLoom$Warp", name := "place", desc := "(II)I" } : MethodName) prog_10_method_5_code (2 : Nat) (Option.some FieldType.int) ∈ lw_all := lw_in 256 (by decide +kernel) (by decide +kernel)
theorem qw_236 : Cond.methodLink "HandLoom$Warp" (55 : Nat) ({ cls := "HandLoom$Warp", name := "spareLane", desc := "(I)LHandLoom$Lane;" } : MethodName) ∈ lw_all := lw_in 257 (by decide +kernel) (by decide +kernel)
theorem qw_238 : Cond.instanceMethod ({ cls := "HandLoom$Warp", name := "spareLane", desc := "(I)LHandLoom$Lane;" } : MethodName) ∈ lw_all := lw_in 259 (by decide +kernel) (by decide +kernel)
theorem qw_239 : Cond.code ({ cls := "HandLoom$Warp", name := "spareLane", desc := "(I)LHandLoom$Lane;" } : MethodName) prog_10_method_10_code (4 : Nat) (Option.some (FieldType.object "HandLoom$Lane")) ∈ lw_all := lw_in 260 (by decide +kernel) (by decide +kernel)
theorem qw_240 : Cond.methodLink "HandLoom$Warp" (61 : Nat) ({ cls := "HandLoom$Warp", name := "isHeld", desc := "(LHandLoom$Lane;I)Z" } : MethodName) ∈ lw_all := lw_in 261 (by decide +kernel) (by decide +kernel)
theorem qw_242 : Cond.instanceMethod ({ cls := "HandLoom$Warp", name := "isHeld", desc := "(LHandLoom$Lane;I)Z" } : MethodName) ∈ lw_all := lw_in 263 (by decide +kernel) (by decide +kernel)
theorem qw_243 : Cond.code ({ cls := "HandLoom$Warp", name := "isHeld", desc := "(LHandLoom$Lane;I)Z" } : MethodName) prog_10_method_11_code (4 : Nat) (Option.some FieldType.boolean) ∈ lw_all := lw_in 264 (by decide +kernel) (by decide +kernel)
theorem qw_244 : Cond.methodLink "HandLoom$Warp" (58 : Nat) ({ cls := "HandLoom$Lane", name := "restretch", desc := "(I)V" } : MethodName) ∈ lw_all := lw_in 265 (by decide +kernel) (by decide +kernel)
theorem qw_245 : Cond.instanceMethod ({ cls := "HandLoom$Lane", name := "restretch", desc := "(I)V" } : MethodName) ∈ lw_all := lw_in 266 (by decide +kernel) (by decide +kernel)
theorem qw_246 : Cond.sameMethod "HandLoom$Lane" "HandLoom$Lane" "restretch" "(I)V" ∈ lw_all := lw_in 267 (by decide +kernel) (by decide +kernel)
theorem qw_247 : Cond.selects "HandLoom$LiftLane" ({ cls := "HandLoom$Lane", name := "restretch", desc := "(I)V" } : MethodName) ({ cls := "HandLoom$Lane", name := "restretch", desc := "(I)V" } : MethodName) ∈ lw_all := lw_in 268 (by decide +kernel) (by decide +kernel)
theorem qw_248 : Cond.selects "HandLoom$TensionLane" ({ cls := "HandLoom$Lane", name := "restretch", desc := "(I)V" } : MethodName) ({ cls := "HandLoom$Lane", name := "restretch", desc := "(I)V" } : MethodName) ∈ lw_all := lw_in 269 (by decide +kernel) (by decide +kernel)
theorem qw_249 : Cond.selects "HandLoom$WholeLane" ({ cls := "HandLoom$Lane", name := "restretch", desc := "(I)V" } : MethodName) ({ cls := "HandLoom$Lane", name := "restretch", desc := "(I)V" } : MethodName) ∈ lw_all := lw_in 270 (by decide +kernel) (by decide +kernel)
theorem qw_250 : Cond.code ({ cls := "HandLoom$Lane", name := "restretch", desc := "(I)V" } : MethodName) prog_5_method_4_code (3 : Nat) (Option.none : Option ClassFile.FieldType) ∈ lw_all := lw_in 271 (by decide +kernel) (by decide +kernel)
theorem qw_251 : Cond.methodLink "HandLoom$Lane" (15 : Nat) ({ cls := "HandLoom$Lane", name := "reset", desc := "(I)V" } : MethodName) ∈ lw_all := lw_in 272 (by decide +kernel) (by decide +kernel)
theorem qw_253 : Cond.sameMethod "HandLoom$Lane" "HandLoom$Lane" "reset" "(I)V" ∈ lw_all := lw_in 274 (by decide +kernel) (by decide +kernel)
theorem qw_254 : Cond.selects "HandLoom$LiftLane" ({ cls := "HandLoom$Lane", name := "reset", desc := "(I)V" } : MethodName) ({ cls := "HandLoom$LiftLane", name := "reset", desc := "(I)V" } : MethodName) ∈ lw_all := lw_in 275 (by decide +kernel) (by decide +kernel)
theorem qw_255 : Cond.instanceMethod ({ cls := "HandLoom$LiftLane", name := "reset", desc := "(I)V" } : MethodName) ∈ lw_all := lw_in 276 (by decide +kernel) (by decide +kernel)
theorem qw_256 : Cond.code ({ cls := "HandLoom$LiftLane", name := "reset", desc := "(I)V" } : MethodName) prog_7_method_3_code (2 : Nat) (Option.none : Option ClassFile.FieldType) ∈ lw_all := lw_in 277 (by decide +kernel) (by decide +kernel)
theorem qw_257 : Cond.selects "HandLoom$TensionLane" ({ cls := "HandLoom$Lane", name := "reset", desc := "(I)V" } : MethodName) ({ cls := "HandLoom$TensionLane", name := "reset", desc := "(I)V" } : MethodName) ∈ lw_all := lw_in 278 (by decide +kernel) (by decide +kernel)
theorem qw_258 : Cond.instanceMethod ({ cls := "HandLoom$TensionLane", name := "reset", desc := "(I)V" } : MethodName) ∈ lw_all := lw_in 279 (by decide +kernel) (by decide +kernel)
theorem qw_259 : Cond.code ({ cls := "HandLoom$TensionLane", name := "reset", desc := "(I)V" } : MethodName) prog_9_method_4_code (2 : Nat) (Option.none : Option ClassFile.FieldType) ∈ lw_all := lw_in 280 (by decide +kernel) (by decide +kernel)
theorem qw_260 : Cond.selects "HandLoom$WholeLane" ({ cls := "HandLoom$Lane", name := "reset", desc := "(I)V" } : MethodName) ({ cls := "HandLoom$WholeLane", name := "reset", desc := "(I)V" } : MethodName) ∈ lw_all := lw_in 281 (by decide +kernel) (by decide +kernel)
theorem qw_261 : Cond.instanceMethod ({ cls := "HandLoom$WholeLane", name := "reset", desc := "(I)V" } : MethodName) ∈ lw_all := lw_in 282 (by decide +kernel) (by decide +kernel)
theorem qw_262 : Cond.code ({ cls := "HandLoom$WholeLane", name := "reset", desc := "(I)V" } : MethodName) prog_11_method_3_code (2 : Nat) (Option.none : Option ClassFile.FieldType) ∈ lw_all := lw_in 283 (by decide +kernel) (by decide +kernel)
theorem qw_263 : Cond.methodLink "HandLoomLaw" (18 : Nat) ({ cls := "HandLoom", name := "cut", desc := "(II)I" } : MethodName) ∈ lw_all := lw_in 284 (by decide +kernel) (by decide +kernel)
theorem qw_264 : Cond.instanceMethod ({ cls := "HandLoom", name := "cut", desc := "(II)I" } : MethodName) ∈ lw_all := lw_in 285 (by decide +kernel) (by decide +kernel)
theorem qw_265 : Cond.selects "HandLoom" ({ cls := "HandLoom", name := "cut", desc := "(II)I" } : MethodName) ({ cls := "HandLoom", name := "cut", desc := "(II)I" } : MethodName) ∈ lw_all := lw_in 286 (by decide +kernel) (by decide +kernel)
theorem qw_266 : Cond.code ({ cls := "HandLoom", name := "cut", desc := "(II)I" } : MethodName) prog_1_method_3_code (4 : Nat) (Option.some FieldType.int) ∈ lw_all := lw_in 287 (by decide +kernel) (by decide +kernel)
theorem qw_267 : Cond.methodLink "HandLoom" (70 : Nat) ({ cls := "HandLoom$Warp", name := "laneAt", desc := "(II)LHandLoom$Lane;" } : MethodName) ∈ lw_all := lw_in 288 (by decide +kernel) (by decide +kernel)
theorem qw_268 : Cond.instanceMethod ({ cls := "HandLoom$Warp", name := "laneAt", desc := "(II)LHandLoom$Lane;" } : MethodName) ∈ lw_all := lw_in 289 (by decide +kernel) (by decide +kernel)
theorem qw_269 : Cond.selects "HandLoom$Warp" ({ cls := "HandLoom$Warp", name := "laneAt", desc := "(II)LHandLoom$Lane;" } : MethodName) ({ cls := "HandLoom$Warp", name := "laneAt", desc := "(II)LHandLoom$Lane;" } : MethodName) ∈ lw_all := lw_in 290 (by decide +kernel) (by decide +kernel)
theorem qw_270 : Cond.code ({ cls := "HandLoom$Warp", name := "laneAt", desc := "(II)LHandLoom$Lane;" } : MethodName) prog_10_method_6_code (3 : Nat) (Option.some (FieldType.object "HandLoom$Lane")) ∈ lw_all := lw_in 291 (by decide +kernel) (by decide +kernel)
theorem qw_271 : Cond.methodLink "HandLoom" (74 : Nat) ({ cls := "HandLoom$Warp", name := "loosen", desc := "(II)V" } : MethodName) ∈ lw_all := lw_in 292 (by decide +kernel) (by decide +kernel)
theorem qw_272 : Cond.methodLink "HandLoomLaw" (23 : Nat) ({ cls := "HandLoom", name := "tie", desc := "(III)I" } : MethodName) ∈ lw_all := lw_in 293 (by decide +kernel) (by decide +kernel)
theorem qw_273 : Cond.instanceMethod ({ cls := "HandLoom", name := "tie", desc := "(III)I" } : MethodName) ∈ lw_all := lw_in 294 (by decide +kernel) (by decide +kernel)
theorem qw_274 : Cond.selects "HandLoom" ({ cls := "HandLoom", name := "tie", desc := "(III)I" } : MethodName) ({ cls := "HandLoom", name := "tie", desc := "(III)I" } : MethodName) ∈ lw_all := lw_in 295 (by decide +kernel) (by decide +kernel)
theorem qw_275 : Cond.code ({ cls := "HandLoom", name := "tie", desc := "(III)I" } : MethodName) prog_1_method_4_code (5 : Nat) (Option.some FieldType.int) ∈ lw_all := lw_in 296 (by decide +kernel) (by decide +kernel)
theorem qw_276 : Cond.methodLink "HandLoom" (78 : Nat) ({ cls := "HandLoom$Warp", name := "isFrame", desc := "(I)Z" } : MethodName) ∈ lw_all := lw_in 297 (by decide +kernel) (by decide +kernel)
theorem qw_277 : Cond.methodLink "HandLoom" (82 : Nat) ({ cls := "HandLoom$Warp", name := "join", desc := "(III)V" } : MethodName) ∈ lw_all := lw_in 298 (by decide +kernel) (by decide +kernel)
theorem qw_278 : Cond.instanceMethod ({ cls := "HandLoom$Warp", name := "join", desc := "(III)V" } : MethodName) ∈ lw_all := lw_in 299 (by decide +kernel) (by decide +kernel)
theorem qw_279 : Cond.selects "HandLoom$Warp" ({ cls := "HandLoom$Warp", name := "join", desc := "(III)V" } : MethodName) ({ cls := "HandLoom$Warp", name := "join", desc := "(III)V" } : MethodName) ∈ lw_all := lw_in 300 (by decide +kernel) (by decide +kernel)
theorem qw_280 : Cond.code ({ cls := "HandLoom$Warp", name := "join", desc := "(III)V" } : MethodName) prog_10_method_8_code (4 : Nat) (Option.none : Option ClassFile.FieldType) ∈ lw_all := lw_in 301 (by decide +kernel) (by decide +kernel)
theorem qw_281 : Cond.methodLink "HandLoom$Warp" (47 : Nat) ({ cls := "HandLoom$Warp", name := "laneAt", desc := "(II)LHandLoom$Lane;" } : MethodName) ∈ lw_all := lw_in 302 (by decide +kernel) (by decide +kernel)
theorem qw_282 : Cond.methodLink "HandLoom" (85 : Nat) ({ cls := "HandLoom$Lane", name := "count", desc := "()I" } : MethodName) ∈ lw_all := lw_in 303 (by decide +kernel) (by decide +kernel)
theorem qw_283 : Cond.instanceMethod ({ cls := "HandLoom$Lane", name := "count", desc := "()I" } : MethodName) ∈ lw_all := lw_in 304 (by decide +kernel) (by decide +kernel)
theorem qw_284 : Cond.sameMethod "HandLoom$Lane" "HandLoom$Lane" "count" "()I" ∈ lw_all := lw_in 305 (by decide +kernel) (by decide +kernel)
theorem qw_285 : Cond.selects "HandLoom$LiftLane" ({ cls := "HandLoom$Lane", name := "count", desc := "()I" } : MethodName) ({ cls := "HandLoom$Lane", name := "count", desc := "()I" } : MethodName) ∈ lw_all := lw_in 306 (by decide +kernel) (by decide +kernel)
theorem qw_286 : Cond.selects "HandLoom$TensionLane" ({ cls := "HandLoom$Lane", name := "count", desc := "()I" } : MethodName) ({ cls := "HandLoom$Lane", name := "count", desc := "()I" } : MethodName) ∈ lw_all := lw_in 307 (by decide +kernel) (by decide +kernel)
theorem qw_287 : Cond.selects "HandLoom$WholeLane" ({ cls := "HandLoom$Lane", name := "count", desc := "()I" } : MethodName) ({ cls := "HandLoom$Lane", name := "count", desc := "()I" } : MethodName) ∈ lw_all := lw_in 308 (by decide +kernel) (by decide +kernel)
theorem qw_288 : Cond.code ({ cls := "HandLoom$Lane", name := "count", desc := "()I" } : MethodName) prog_5_method_2_code (1 : Nat) (Option.some FieldType.int) ∈ lw_all := lw_in 309 (by decide +kernel) (by decide +kernel)
theorem qw_289 : Cond.methodLink "HandLoomLaw" (27 : Nat) ({ cls := "HandLoom", name := "ends", desc := "(II)I" } : MethodName) ∈ lw_all := lw_in 310 (by decide +kernel) (by decide +kernel)
theorem qw_290 : Cond.instanceMethod ({ cls := "HandLoom", name := "ends", desc := "(II)I" } : MethodName) ∈ lw_all := lw_in 311 (by decide +kernel) (by decide +kernel)
theorem qw_291 : Cond.selects "HandLoom" ({ cls := "HandLoom", name := "ends", desc := "(II)I" } : MethodName) ({ cls := "HandLoom", name := "ends", desc := "(II)I" } : MethodName) ∈ lw_all := lw_in 312 (by decide +kernel) (by decide +kernel)
theorem qw_292 : Cond.code ({ cls := "HandLoom", name := "ends", desc := "(II)I" } : MethodName) prog_1_method_5_code (4 : Nat) (Option.some FieldType.int) ∈ lw_all := lw_in 313 (by decide +kernel) (by decide +kernel)
theorem qw_293 : Cond.methodLink "HandLoomLaw" (31 : Nat) ({ cls := "HandLoom", name := "spool", desc := "(I)I" } : MethodName) ∈ lw_all := lw_in 314 (by decide +kernel) (by decide +kernel)
theorem qw_294 : Cond.instanceMethod ({ cls := "HandLoom", name := "spool", desc := "(I)I" } : MethodName) ∈ lw_all := lw_in 315 (by decide +kernel) (by decide +kernel)
theorem qw_295 : Cond.selects "HandLoom" ({ cls := "HandLoom", name := "spool", desc := "(I)I" } : MethodName) ({ cls := "HandLoom", name := "spool", desc := "(I)I" } : MethodName) ∈ lw_all := lw_in 316 (by decide +kernel) (by decide +kernel)
theorem qw_296 : Cond.code ({ cls := "HandLoom", name := "spool", desc := "(I)I" } : MethodName) prog_1_method_6_code (2 : Nat) (Option.some FieldType.int) ∈ lw_all := lw_in 317 (by decide +kernel) (by decide +kernel)
theorem qw_297 : Cond.methodLink "HandLoom" (91 : Nat) ({ cls := "HandLoom$Spool", name := "isFull", desc := "()Z" } : MethodName) ∈ lw_all := lw_in 318 (by decide +kernel) (by decide +kernel)
theorem qw_298 : Cond.instanceMethod ({ cls := "HandLoom$Spool", name := "isFull", desc := "()Z" } : MethodName) ∈ lw_all := lw_in 319 (by decide +kernel) (by decide +kernel)
theorem qw_299 : Cond.selects "HandLoom$Spool" ({ cls := "HandLoom$Spool", name := "isFull", desc := "()Z" } : MethodName) ({ cls := "HandLoom$Spool", name := "isFull", desc := "()Z" } : MethodName) ∈ lw_all := lw_in 320 (by decide +kernel) (by decide +kernel)
theorem qw_300 : Cond.code ({ cls := "HandLoom$Spool", name := "isFull", desc := "()Z" } : MethodName) prog_8_method_4_code (1 : Nat) (Option.some FieldType.boolean) ∈ lw_all := lw_in 321 (by decide +kernel) (by decide +kernel)
theorem qw_301 : Cond.methodLink "HandLoom" (95 : Nat) ({ cls := "HandLoom$Spool", name := "wind", desc := "(I)V" } : MethodName) ∈ lw_all := lw_in 322 (by decide +kernel) (by decide +kernel)
theorem qw_302 : Cond.instanceMethod ({ cls := "HandLoom$Spool", name := "wind", desc := "(I)V" } : MethodName) ∈ lw_all := lw_in 323 (by decide +kernel) (by decide +kernel)
theorem qw_303 : Cond.selects "HandLoom$Spool" ({ cls := "HandLoom$Spool", name := "wind", desc := "(I)V" } : MethodName) ({ cls := "HandLoom$Spool", name := "wind", desc := "(I)V" } : MethodName) ∈ lw_all := lw_in 324 (by decide +kernel) (by decide +kernel)
theorem qw_304 : Cond.code ({ cls := "HandLoom$Spool", name := "wind", desc := "(I)V" } : MethodName) prog_8_method_5_code (2 : Nat) (Option.none : Option ClassFile.FieldType) ∈ lw_all := lw_in 325 (by decide +kernel) (by decide +kernel)
theorem qw_305 : Cond.methodLink "HandLoom$Spool" (22 : Nat) ({ cls := "HandLoom$Spool", name := "isFull", desc := "()Z" } : MethodName) ∈ lw_all := lw_in 326 (by decide +kernel) (by decide +kernel)
theorem qw_306 : Cond.methodLink "HandLoom" (99 : Nat) ({ cls := "HandLoom$Spool", name := "count", desc := "()I" } : MethodName) ∈ lw_all := lw_in 327 (by decide +kernel) (by decide +kernel)
theorem qw_307 : Cond.instanceMethod ({ cls := "HandLoom$Spool", name := "count", desc := "()I" } : MethodName) ∈ lw_all := lw_in 328 (by decide +kernel) (by decide +kernel)
theorem qw_308 : Cond.selects "HandLoom$Spool" ({ cls := "HandLoom$Spool", name := "count", desc := "()I" } : MethodName) ({ cls := "HandLoom$Spool", name := "count", desc := "()I" } : MethodName) ∈ lw_all := lw_in 329 (by decide +kernel) (by decide +kernel)
theorem qw_309 : Cond.code ({ cls := "HandLoom$Spool", name := "count", desc := "()I" } : MethodName) prog_8_method_2_code (1 : Nat) (Option.some FieldType.int) ∈ lw_all := lw_in 330 (by decide +kernel) (by decide +kernel)
theorem qw_310 : Cond.methodLink "HandLoomLaw" (36 : Nat) ({ cls := "HandLoom", name := "act", desc := "(IIIII)I" } : MethodName) ∈ lw_all := lw_in 331 (by decide +kernel) (by decide +kernel)
theorem qw_311 : Cond.instanceMethod ({ cls := "HandLoom", name := "act", desc := "(IIIII)I" } : MethodName) ∈ lw_all := lw_in 332 (by decide +kernel) (by decide +kernel)
theorem qw_312 : Cond.selects "HandLoom" ({ cls := "HandLoom", name := "act", desc := "(IIIII)I" } : MethodName) ({ cls := "HandLoom", name := "act", desc := "(IIIII)I" } : MethodName) ∈ lw_all := lw_in 333 (by decide +kernel) (by decide +kernel)
theorem qw_313 : Cond.code ({ cls := "HandLoom", name := "act", desc := "(IIIII)I" } : MethodName) prog_1_method_7_code (6 : Nat) (Option.some FieldType.int) ∈ lw_all := lw_in 334 (by decide +kernel) (by decide +kernel)
theorem qw_314 : Cond.methodLink "HandLoom" (100 : Nat) ({ cls := "HandLoom", name := "isAct", desc := "(I)Z" } : MethodName) ∈ lw_all := lw_in 335 (by decide +kernel) (by decide +kernel)
theorem qw_315 : Cond.static ({ cls := "HandLoom", name := "isAct", desc := "(I)Z" } : MethodName) ∈ lw_all := lw_in 336 (by decide +kernel) (by decide +kernel)
theorem qw_316 : Cond.code ({ cls := "HandLoom", name := "isAct", desc := "(I)Z" } : MethodName) prog_1_method_19_code (1 : Nat) (Option.some FieldType.boolean) ∈ lw_all := lw_in 337 (by decide +kernel) (by decide +kernel)
theorem qw_317 : Cond.methodLink "HandLoom" (103 : Nat) ({ cls := "HandLoom", name := "work", desc := "(ILHandLoom$Lane;II)I" } : MethodName) ∈ lw_all := lw_in 338 (by decide +kernel) (by decide +kernel)
theorem qw_319 : Cond.instanceMethod ({ cls := "HandLoom", name := "work", desc := "(ILHandLoom$Lane;II)I" } : MethodName) ∈ lw_all := lw_in 340 (by decide +kernel) (by decide +kernel)
theorem qw_320 : Cond.code ({ cls := "HandLoom", name := "work", desc := "(ILHandLoom$Lane;II)I" } : MethodName) prog_1_method_21_code (7 : Nat) (Option.some FieldType.int) ∈ lw_all := lw_in 341 (by decide +kernel) (by decide +kernel)
theorem qw_321 : Cond.methodLink "HandLoom" (186 : Nat) ({ cls := "HandLoom$Spool", name := "isEmpty", desc := "()Z" } : MethodName) ∈ lw_all := lw_in 342 (by decide +kernel) (by decide +kernel)
theorem qw_322 : Cond.instanceMethod ({ cls := "HandLoom$Spool", name := "isEmpty", desc := "()Z" } : MethodName) ∈ lw_all := lw_in 343 (by decide +kernel) (by decide +kernel)
theorem qw_323 : Cond.selects "HandLoom$Spool" ({ cls := "HandLoom$Spool", name := "isEmpty", desc := "()Z" } : MethodName) ({ cls := "HandLoom$Spool", name := "isEmpty", desc := "()Z" } : MethodName) ∈ lw_all := lw_in 344 (by decide +kernel) (by decide +kernel)
theorem qw_324 : Cond.code ({ cls := "HandLoom$Spool", name := "isEmpty", desc := "()Z" } : MethodName) prog_8_method_3_code (1 : Nat) (Option.some FieldType.boolean) ∈ lw_all := lw_in 345 (by decide +kernel) (by decide +kernel)
theorem qw_325 : Cond.methodLink "HandLoom" (189 : Nat) ({ cls := "HandLoom$Spool", name := "draw", desc := "()I" } : MethodName) ∈ lw_all := lw_in 346 (by decide +kernel) (by decide +kernel)
theorem qw_326 : Cond.instanceMethod ({ cls := "HandLoom$Spool", name := "draw", desc := "()I" } : MethodName) ∈ lw_all := lw_in 347 (by decide +kernel) (by decide +kernel)
theorem qw_327 : Cond.selects "HandLoom$Spool" ({ cls := "HandLoom$Spool", name := "draw", desc := "()I" } : MethodName) ({ cls := "HandLoom$Spool", name := "draw", desc := "()I" } : MethodName) ∈ lw_all := lw_in 348 (by decide +kernel) (by decide +kernel)
theorem qw_328 : Cond.code ({ cls := "HandLoom$Spool", name := "draw", desc := "()I" } : MethodName) prog_8_method_6_code (2 : Nat) (Option.some FieldType.int) ∈ lw_all := lw_in 349 (by decide +kernel) (by decide +kernel)
theorem qw_329 : Cond.methodLink "HandLoom$Spool" (26 : Nat) ({ cls := "HandLoom$Spool", name := "isEmpty", desc := "()Z" } : MethodName) ∈ lw_all := lw_in 350 (by decide +kernel) (by decide +kernel)
theorem qw_330 : Cond.methodLink "HandLoom" (107 : Nat) ({ cls := "HandLoom$Lane", name := "has", desc := "(I)Z" } : MethodName) ∈ lw_all := lw_in 351 (by decide +kernel) (by decide +kernel)
theorem qw_331 : Cond.instanceMethod ({ cls := "HandLoom$Lane", name := "has", desc := "(I)Z" } : MethodName) ∈ lw_all := lw_in 352 (by decide +kernel) (by decide +kernel)
theorem qw_332 : Cond.sameMethod "HandLoom$Lane" "HandLoom$Lane" "has" "(I)Z" ∈ lw_all := lw_in 353 (by decide +kernel) (by decide +kernel)
theorem qw_333 : Cond.selects "HandLoom$LiftLane" ({ cls := "HandLoom$Lane", name := "has", desc := "(I)Z" } : MethodName) ({ cls := "HandLoom$Lane", name := "has", desc := "(I)Z" } : MethodName) ∈ lw_all := lw_in 354 (by decide +kernel) (by decide +kernel)
theorem qw_334 : Cond.selects "HandLoom$TensionLane" ({ cls := "HandLoom$Lane", name := "has", desc := "(I)Z" } : MethodName) ({ cls := "HandLoom$Lane", name := "has", desc := "(I)Z" } : MethodName) ∈ lw_all := lw_in 355 (by decide +kernel) (by decide +kernel)
theorem qw_335 : Cond.selects "HandLoom$WholeLane" ({ cls := "HandLoom$Lane", name := "has", desc := "(I)Z" } : MethodName) ({ cls := "HandLoom$Lane", name := "has", desc := "(I)Z" } : MethodName) ∈ lw_all := lw_in 356 (by decide +kernel) (by decide +kernel)
theorem qw_336 : Cond.code ({ cls := "HandLoom$Lane", name := "has", desc := "(I)Z" } : MethodName) prog_5_method_3_code (2 : Nat) (Option.some FieldType.boolean) ∈ lw_all := lw_in 357 (by decide +kernel) (by decide +kernel)
theorem qw_337 : Cond.methodLink "HandLoom" (192 : Nat) ({ cls := "HandLoom", name := "change", desc := "(ILHandLoom$Lane;II)I" } : MethodName) ∈ lw_all := lw_in 358 (by decide +kernel) (by decide +kernel)
theorem qw_339 : Cond.instanceMethod ({ cls := "HandLoom", name := "change", desc := "(ILHandLoom$Lane;II)I" } : MethodName) ∈ lw_all := lw_in 360 (by decide +kernel) (by decide +kernel)
theorem qw_340 : Cond.code ({ cls := "HandLoom", name := "change", desc := "(ILHandLoom$Lane;II)I" } : MethodName) prog_1_method_22_code (5 : Nat) (Option.some FieldType.int) ∈ lw_all := lw_in 361 (by decide +kernel) (by decide +kernel)
theorem qw_341 : Cond.methodLink "HandLoom" (195 : Nat) ({ cls := "HandLoom$Lane", name := "lay", desc := "(II)V" } : MethodName) ∈ lw_all := lw_in 362 (by decide +kernel) (by decide +kernel)
theorem qw_343 : Cond.sameMethod "HandLoom$Lane" "HandLoom$Lane" "lay" "(II)V" ∈ lw_all := lw_in 364 (by decide +kernel) (by decide +kernel)
theorem qw_344 : Cond.selects "HandLoom$LiftLane" ({ cls := "HandLoom$Lane", name := "lay", desc := "(II)V" } : MethodName) ({ cls := "HandLoom$LiftLane", name := "lay", desc := "(II)V" } : MethodName) ∈ lw_all := lw_in 365 (by decide +kernel) (by decide +kernel)
theorem qw_345 : Cond.instanceMethod ({ cls := "HandLoom$LiftLane", name := "lay", desc := "(II)V" } : MethodName) ∈ lw_all := lw_in 366 (by decide +kernel) (by decide +kernel)
theorem qw_346 : Cond.code ({ cls := "HandLoom$LiftLane", name := "lay", desc := "(II)V" } : MethodName) prog_7_method_5_code (3 : Nat) (Option.none : Option ClassFile.FieldType) ∈ lw_all := lw_in 367 (by decide +kernel) (by decide +kernel)
theorem qw_347 : Cond.methodLink "HandLoom$LiftLane" (15 : Nat) ({ cls := "HandLoom$LiftLane", name := "isOdd", desc := "(I)Z" } : MethodName) ∈ lw_all := lw_in 368 (by decide +kernel) (by decide +kernel)
theorem qw_348 : Cond.static ({ cls := "HandLoom$LiftLane", name := "isOdd", desc := "(I)Z" } : MethodName) ∈ lw_all := lw_in 369 (by decide +kernel) (by decide +kernel)
theorem qw_349 : Cond.code ({ cls := "HandLoom$LiftLane", name := "isOdd", desc := "(I)Z" } : MethodName) prog_7_method_2_code (1 : Nat) (Option.some FieldType.boolean) ∈ lw_all := lw_in 370 (by decide +kernel) (by decide +kernel)
theorem qw_350 : Cond.selects "HandLoom$TensionLane" ({ cls := "HandLoom$Lane", name := "lay", desc := "(II)V" } : MethodName) ({ cls := "HandLoom$TensionLane", name := "lay", desc := "(II)V" } : MethodName) ∈ lw_all := lw_in 371 (by decide +kernel) (by decide +kernel)
theorem qw_351 : Cond.instanceMethod ({ cls := "HandLoom$TensionLane", name := "lay", desc := "(II)V" } : MethodName) ∈ lw_all := lw_in 372 (by decide +kernel) (by decide +kernel)
theorem qw_352 : Cond.code ({ cls := "HandLoom$TensionLane", name := "lay", desc := "(II)V" } : MethodName) prog_9_method_6_code (3 : Nat) (Option.none : Option ClassFile.FieldType) ∈ lw_all := lw_in 373 (by decide +kernel) (by decide +kernel)
theorem qw_353 : Cond.methodLink "HandLoom$TensionLane" (18 : Nat) ({ cls := "HandLoom$TensionLane", name := "eighths", desc := "(I)F" } : MethodName) ∈ lw_all := lw_in 374 (by decide +kernel) (by decide +kernel)
theorem qw_354 : Cond.static ({ cls := "HandLoom$TensionLane", name := "eighths", desc := "(I)F" } : MethodName) ∈ lw_all := lw_in 375 (by decide +kernel) (by decide +kernel)
theorem qw_355 : Cond.code ({ cls := "HandLoom$TensionLane", name := "eighths", desc := "(I)F" } : MethodName) prog_9_method_3_code (1 : Nat) (Option.some FieldType.float) ∈ lw_all := lw_in 376 (by decide +kernel) (by decide +kernel)
theorem qw_356 : Cond.constantFloat "HandLoom$TensionLane" (17 : Nat) (1090519040 : UInt32) ∈ lw_all := lw_in 377 (by decide +kernel) (by decide +kernel)
theorem qw_357 : Cond.methodLink "HandLoom$TensionLane" (22 : Nat) ({ cls := "HandLoom$TensionLane", name := "hold", desc := "(F)F" } : MethodName) ∈ lw_all := lw_in 378 (by decide +kernel) (by decide +kernel)
theorem qw_358 : Cond.static ({ cls := "HandLoom$TensionLane", name := "hold", desc := "(F)F" } : MethodName) ∈ lw_all := lw_in 379 (by decide +kernel) (by decide +kernel)
theorem qw_359 : Cond.code ({ cls := "HandLoom$TensionLane", name := "hold", desc := "(F)F" } : MethodName) prog_9_method_2_code (1 : Nat) (Option.some FieldType.float) ∈ lw_all := lw_in 380 (by decide +kernel) (by decide +kernel)
theorem qw_360 : Cond.constantFloat "HandLoom$TensionLane" (15 : Nat) (3313500160 : UInt32) ∈ lw_all := lw_in 381 (by decide +kernel) (by decide +kernel)
theorem qw_361 : Cond.constantFloat "HandLoom$TensionLane" (16 : Nat) (1166016512 : UInt32) ∈ lw_all := lw_in 382 (by decide +kernel) (by decide +kernel)
theorem qw_362 : Cond.selects "HandLoom$WholeLane" ({ cls := "HandLoom$Lane", name := "lay", desc := "(II)V" } : MethodName) ({ cls := "HandLoom$WholeLane", name := "lay", desc := "(II)V" } : MethodName) ∈ lw_all := lw_in 383 (by decide +kernel) (by decide +kernel)
theorem qw_363 : Cond.instanceMethod ({ cls := "HandLoom$WholeLane", name := "lay", desc := "(II)V" } : MethodName) ∈ lw_all := lw_in 384 (by decide +kernel) (by decide +kernel)
theorem qw_364 : Cond.code ({ cls := "HandLoom$WholeLane", name := "lay", desc := "(II)V" } : MethodName) prog_11_method_5_code (3 : Nat) (Option.none : Option ClassFile.FieldType) ∈ lw_all := lw_in 385 (by decide +kernel) (by decide +kernel)
theorem qw_365 : Cond.methodLink "HandLoom$WholeLane" (19 : Nat) ({ cls := "HandLoom$WholeLane", name := "fit", desc := "(I)I" } : MethodName) ∈ lw_all := lw_in 386 (by decide +kernel) (by decide +kernel)
theorem qw_367 : Cond.instanceMethod ({ cls := "HandLoom$WholeLane", name := "fit", desc := "(I)I" } : MethodName) ∈ lw_all := lw_in 388 (by decide +kernel) (by decide +kernel)
theorem qw_368 : Cond.code ({ cls := "HandLoom$WholeLane", name := "fit", desc := "(I)I" } : MethodName) prog_11_method_2_code (2 : Nat) (Option.some FieldType.int) ∈ lw_all := lw_in 389 (by decide +kernel) (by decide +kernel)
theorem qw_369 : Cond.methodLink "HandLoom" (198 : Nat) ({ cls := "HandLoom$Lane", name := "pull", desc := "(II)V" } : MethodName) ∈ lw_all := lw_in 390 (by decide +kernel) (by decide +kernel)
theorem qw_371 : Cond.sameMethod "HandLoom$Lane" "HandLoom$Lane" "pull" "(II)V" ∈ lw_all := lw_in 392 (by decide +kernel) (by decide +kernel)
theorem qw_372 : Cond.selects "HandLoom$LiftLane" ({ cls := "HandLoom$Lane", name := "pull", desc := "(II)V" } : MethodName) ({ cls := "HandLoom$LiftLane", name := "pull", desc := "(II)V" } : MethodName) ∈ lw_all := lw_in 393 (by decide +kernel) (by decide +kernel)
theorem qw_373 : Cond.instanceMethod ({ cls := "HandLoom$LiftLane", name := "pull", desc := "(II)V" } : MethodName) ∈ lw_all := lw_in 394 (by decide +kernel) (by decide +kernel)
theorem qw_374 : Cond.code ({ cls := "HandLoom$LiftLane", name := "pull", desc := "(II)V" } : MethodName) prog_7_method_6_code (3 : Nat) (Option.none : Option ClassFile.FieldType) ∈ lw_all := lw_in 395 (by decide +kernel) (by decide +kernel)
theorem qw_375 : Cond.methodLink "HandLoom$LiftLane" (19 : Nat) ({ cls := "HandLoom$LiftLane", name := "turn", desc := "(I)V" } : MethodName) ∈ lw_all := lw_in 396 (by decide +kernel) (by decide +kernel)
theorem qw_376 : Cond.instanceMethod ({ cls := "HandLoom$LiftLane", name := "turn", desc := "(I)V" } : MethodName) ∈ lw_all := lw_in 397 (by decide +kernel) (by decide +kernel)
theorem qw_377 : Cond.selects "HandLoom$LiftLane" ({ cls := "HandLoom$LiftLane", name := "turn", desc := "(I)V" } : MethodName) ({ cls := "HandLoom$LiftLane", name := "turn", desc := "(I)V" } : MethodName) ∈ lw_all := lw_in 398 (by decide +kernel) (by decide +kernel)
theorem qw_378 : Cond.code ({ cls := "HandLoom$LiftLane", name := "turn", desc := "(I)V" } : MethodName) prog_7_method_7_code (2 : Nat) (Option.none : Option ClassFile.FieldType) ∈ lw_all := lw_in 399 (by decide +kernel) (by decide +kernel)
theorem qw_379 : Cond.selects "HandLoom$TensionLane" ({ cls := "HandLoom$Lane", name := "pull", desc := "(II)V" } : MethodName) ({ cls := "HandLoom$TensionLane", name := "pull", desc := "(II)V" } : MethodName) ∈ lw_all := lw_in 400 (by decide +kernel) (by decide +kernel)
theorem qw_380 : Cond.instanceMethod ({ cls := "HandLoom$TensionLane", name := "pull", desc := "(II)V" } : MethodName) ∈ lw_all := lw_in 401 (by decide +kernel) (by decide +kernel)
theorem qw_381 : Cond.code ({ cls := "HandLoom$TensionLane", name := "pull", desc := "(II)V" } : MethodName) prog_9_method_7_code (3 : Nat) (Option.none : Option ClassFile.FieldType) ∈ lw_all := lw_in 402 (by decide +kernel) (by decide +kernel)
theorem qw_382 : Cond.selects "HandLoom$WholeLane" ({ cls := "HandLoom$Lane", name := "pull", desc := "(II)V" } : MethodName) ({ cls := "HandLoom$WholeLane", name := "pull", desc := "(II)V" } : MethodName) ∈ lw_all := lw_in 403 (by decide +kernel) (by decide +kernel)
theorem qw_383 : Cond.instanceMethod ({ cls := "HandLoom$WholeLane", name := "pull", desc := "(II)V" } : MethodName) ∈ lw_all := lw_in 404 (by decide +kernel) (by decide +kernel)
theorem qw_384 : Cond.code ({ cls := "HandLoom$WholeLane", name := "pull", desc := "(II)V" } : MethodName) prog_11_method_6_code (3 : Nat) (Option.none : Option ClassFile.FieldType) ∈ lw_all := lw_in 405 (by decide +kernel) (by decide +kernel)
theorem qw_385 : Cond.methodLink "HandLoom" (201 : Nat) ({ cls := "HandLoom$Lane", name := "turn", desc := "(I)V" } : MethodName) ∈ lw_all := lw_in 406 (by decide +kernel) (by decide +kernel)
theorem qw_387 : Cond.sameMethod "HandLoom$Lane" "HandLoom$Lane" "turn" "(I)V" ∈ lw_all := lw_in 408 (by decide +kernel) (by decide +kernel)
theorem qw_388 : Cond.selects "HandLoom$LiftLane" ({ cls := "HandLoom$Lane", name := "turn", desc := "(I)V" } : MethodName) ({ cls := "HandLoom$LiftLane", name := "turn", desc := "(I)V" } : MethodName) ∈ lw_all := lw_in 409 (by decide +kernel) (by decide +kernel)
theorem qw_389 : Cond.selects "HandLoom$TensionLane" ({ cls := "HandLoom$Lane", name := "turn", desc := "(I)V" } : MethodName) ({ cls := "HandLoom$TensionLane", name := "turn", desc := "(I)V" } : MethodName) ∈ lw_all := lw_in 410 (by decide +kernel) (by decide +kernel)
theorem qw_390 : Cond.instanceMethod ({ cls := "HandLoom$TensionLane", name := "turn", desc := "(I)V" } : MethodName) ∈ lw_all := lw_in 411 (by decide +kernel) (by decide +kernel)
theorem qw_391 : Cond.code ({ cls := "HandLoom$TensionLane", name := "turn", desc := "(I)V" } : MethodName) prog_9_method_8_code (2 : Nat) (Option.none : Option ClassFile.FieldType) ∈ lw_all := lw_in 412 (by decide +kernel) (by decide +kernel)
theorem qw_392 : Cond.selects "HandLoom$WholeLane" ({ cls := "HandLoom$Lane", name := "turn", desc := "(I)V" } : MethodName) ({ cls := "HandLoom$WholeLane", name := "turn", desc := "(I)V" } : MethodName) ∈ lw_all := lw_in 413 (by decide +kernel) (by decide +kernel)
theorem qw_393 : Cond.instanceMethod ({ cls := "HandLoom$WholeLane", name := "turn", desc := "(I)V" } : MethodName) ∈ lw_all := lw_in 414 (by decide +kernel) (by decide +kernel)
theorem qw_394 : Cond.code ({ cls := "HandLoom$WholeLane", name := "turn", desc := "(I)V" } : MethodName) prog_11_method_7_code (2 : Nat) (Option.none : Option ClassFile.FieldType) ∈ lw_all := lw_in 415 (by decide +kernel) (by decide +kernel)
theorem qw_395 : Cond.methodLink "HandLoom" (204 : Nat) ({ cls := "HandLoom$Lane", name := "part", desc := "(II)Z" } : MethodName) ∈ lw_all := lw_in 416 (by decide +kernel) (by decide +kernel)
theorem qw_397 : Cond.sameMethod "HandLoom$Lane" "HandLoom$Lane" "part" "(II)Z" ∈ lw_all := lw_in 418 (by decide +kernel) (by decide +kernel)
theorem qw_398 : Cond.selects "HandLoom$LiftLane" ({ cls := "HandLoom$Lane", name := "part", desc := "(II)Z" } : MethodName) ({ cls := "HandLoom$LiftLane", name := "part", desc := "(II)Z" } : MethodName) ∈ lw_all := lw_in 419 (by decide +kernel) (by decide +kernel)
theorem qw_399 : Cond.instanceMethod ({ cls := "HandLoom$LiftLane", name := "part", desc := "(II)Z" } : MethodName) ∈ lw_all := lw_in 420 (by decide +kernel) (by decide +kernel)
theorem qw_400 : Cond.code ({ cls := "HandLoom$LiftLane", name := "part", desc := "(II)Z" } : MethodName) prog_7_method_8_code (3 : Nat) (Option.some FieldType.boolean) ∈ lw_all := lw_in 421 (by decide +kernel) (by decide +kernel)
theorem qw_401 : Cond.selects "HandLoom$TensionLane" ({ cls := "HandLoom$Lane", name := "part", desc := "(II)Z" } : MethodName) ({ cls := "HandLoom$TensionLane", name := "part", desc := "(II)Z" } : MethodName) ∈ lw_all := lw_in 422 (by decide +kernel) (by decide +kernel)
theorem qw_402 : Cond.instanceMethod ({ cls := "HandLoom$TensionLane", name := "part", desc := "(II)Z" } : MethodName) ∈ lw_all := lw_in 423 (by decide +kernel) (by decide +kernel)
theorem qw_403 : Cond.code ({ cls := "HandLoom$TensionLane", name := "part", desc := "(II)Z" } : MethodName) prog_9_method_9_code (3 : Nat) (Option.some FieldType.boolean) ∈ lw_all := lw_in 424 (by decide +kernel) (by decide +kernel)
theorem qw_404 : Cond.selects "HandLoom$WholeLane" ({ cls := "HandLoom$Lane", name := "part", desc := "(II)Z" } : MethodName) ({ cls := "HandLoom$WholeLane", name := "part", desc := "(II)Z" } : MethodName) ∈ lw_all := lw_in 425 (by decide +kernel) (by decide +kernel)
theorem qw_405 : Cond.instanceMethod ({ cls := "HandLoom$WholeLane", name := "part", desc := "(II)Z" } : MethodName) ∈ lw_all := lw_in 426 (by decide +kernel) (by decide +kernel)
theorem qw_406 : Cond.code ({ cls := "HandLoom$WholeLane", name := "part", desc := "(II)Z" } : MethodName) prog_11_method_8_code (3 : Nat) (Option.some FieldType.boolean) ∈ lw_all := lw_in 427 (by decide +kernel) (by decide +kernel)
theorem qw_407 : Cond.methodLink "HandLoom" (110 : Nat) ({ cls := "HandLoom$Lane", name := "tells", desc := "(I)I" } : MethodName) ∈ lw_all := lw_in 428 (by decide +kernel) (by decide +kernel)
theorem qw_409 : Cond.sameMethod "HandLoom$Lane" "HandLoom$Lane" "tells" "(I)I" ∈ lw_all := lw_in 430 (by decide +kernel) (by decide +kernel)
theorem qw_410 : Cond.selects "HandLoom$LiftLane" ({ cls := "HandLoom$Lane", name := "tells", desc := "(I)I" } : MethodName) ({ cls := "HandLoom$LiftLane", name := "tells", desc := "(I)I" } : MethodName) ∈ lw_all := lw_in 431 (by decide +kernel) (by decide +kernel)
theorem qw_411 : Cond.instanceMethod ({ cls := "HandLoom$LiftLane", name := "tells", desc := "(I)I" } : MethodName) ∈ lw_all := lw_in 432 (by decide +kernel) (by decide +kernel)
theorem qw_412 : Cond.code ({ cls := "HandLoom$LiftLane", name := "tells", desc := "(I)I" } : MethodName) prog_7_method_4_code (2 : Nat) (Option.some FieldType.int) ∈ lw_all := lw_in 433 (by decide +kernel) (by decide +kernel)
theorem qw_413 : Cond.selects "HandLoom$TensionLane" ({ cls := "HandLoom$Lane", name := "tells", desc := "(I)I" } : MethodName) ({ cls := "HandLoom$TensionLane", name := "tells", desc := "(I)I" } : MethodName) ∈ lw_all := lw_in 434 (by decide +kernel) (by decide +kernel)
theorem qw_414 : Cond.instanceMethod ({ cls := "HandLoom$TensionLane", name := "tells", desc := "(I)I" } : MethodName) ∈ lw_all := lw_in 435 (by decide +kernel) (by decide +kernel)
theorem qw_415 : Cond.code ({ cls := "HandLoom$TensionLane", name := "tells", desc := "(I)I" } : MethodName) prog_9_method_5_code (2 : Nat) (Option.some FieldType.int) ∈ lw_all := lw_in 436 (by decide +kernel) (by decide +kernel)
theorem qw_416 : Cond.selects "HandLoom$WholeLane" ({ cls := "HandLoom$Lane", name := "tells", desc := "(I)I" } : MethodName) ({ cls := "HandLoom$WholeLane", name := "tells", desc := "(I)I" } : MethodName) ∈ lw_all := lw_in 437 (by decide +kernel) (by decide +kernel)
theorem qw_417 : Cond.instanceMethod ({ cls := "HandLoom$WholeLane", name := "tells", desc := "(I)I" } : MethodName) ∈ lw_all := lw_in 438 (by decide +kernel) (by decide +kernel)
theorem qw_418 : Cond.code ({ cls := "HandLoom$WholeLane", name := "tells", desc := "(I)I" } : MethodName) prog_11_method_4_code (2 : Nat) (Option.some FieldType.int) ∈ lw_all := lw_in 439 (by decide +kernel) (by decide +kernel)
theorem qw_419 : Cond.methodLink "HandLoomLaw" (41 : Nat) ({ cls := "HandLoom", name := "swap", desc := "(IIII)I" } : MethodName) ∈ lw_all := lw_in 440 (by decide +kernel) (by decide +kernel)
theorem qw_420 : Cond.instanceMethod ({ cls := "HandLoom", name := "swap", desc := "(IIII)I" } : MethodName) ∈ lw_all := lw_in 441 (by decide +kernel) (by decide +kernel)
theorem qw_421 : Cond.selects "HandLoom" ({ cls := "HandLoom", name := "swap", desc := "(IIII)I" } : MethodName) ({ cls := "HandLoom", name := "swap", desc := "(IIII)I" } : MethodName) ∈ lw_all := lw_in 442 (by decide +kernel) (by decide +kernel)
theorem qw_422 : Cond.code ({ cls := "HandLoom", name := "swap", desc := "(IIII)I" } : MethodName) prog_1_method_8_code (7 : Nat) (Option.some FieldType.int) ∈ lw_all := lw_in 443 (by decide +kernel) (by decide +kernel)
theorem qw_423 : Cond.methodLink "HandLoom" (113 : Nat) ({ cls := "HandLoom$Lane", name := "exchange", desc := "(II)V" } : MethodName) ∈ lw_all := lw_in 444 (by decide +kernel) (by decide +kernel)
theorem qw_425 : Cond.sameMethod "HandLoom$Lane" "HandLoom$Lane" "exchange" "(II)V" ∈ lw_all := lw_in 446 (by decide +kernel) (by decide +kernel)
theorem qw_426 : Cond.selects "HandLoom$LiftLane" ({ cls := "HandLoom$Lane", name := "exchange", desc := "(II)V" } : MethodName) ({ cls := "HandLoom$LiftLane", name := "exchange", desc := "(II)V" } : MethodName) ∈ lw_all := lw_in 447 (by decide +kernel) (by decide +kernel)
theorem qw_427 : Cond.instanceMethod ({ cls := "HandLoom$LiftLane", name := "exchange", desc := "(II)V" } : MethodName) ∈ lw_all := lw_in 448 (by decide +kernel) (by decide +kernel)
theorem qw_428 : Cond.code ({ cls := "HandLoom$LiftLane", name := "exchange", desc := "(II)V" } : MethodName) prog_7_method_9_code (4 : Nat) (Option.none : Option ClassFile.FieldType) ∈ lw_all := lw_in 449 (by decide +kernel) (by decide +kernel)
theorem qw_429 : Cond.selects "HandLoom$TensionLane" ({ cls := "HandLoom$Lane", name := "exchange", desc := "(II)V" } : MethodName) ({ cls := "HandLoom$TensionLane", name := "exchange", desc := "(II)V" } : MethodName) ∈ lw_all := lw_in 450 (by decide +kernel) (by decide +kernel)
theorem qw_430 : Cond.instanceMethod ({ cls := "HandLoom$TensionLane", name := "exchange", desc := "(II)V" } : MethodName) ∈ lw_all := lw_in 451 (by decide +kernel) (by decide +kernel)
theorem qw_431 : Cond.code ({ cls := "HandLoom$TensionLane", name := "exchange", desc := "(II)V" } : MethodName) prog_9_method_10_code (4 : Nat) (Option.none : Option ClassFile.FieldType) ∈ lw_all := lw_in 452 (by decide +kernel) (by decide +kernel)
theorem qw_432 : Cond.selects "HandLoom$WholeLane" ({ cls := "HandLoom$Lane", name := "exchange", desc := "(II)V" } : MethodName) ({ cls := "HandLoom$WholeLane", name := "exchange", desc := "(II)V" } : MethodName) ∈ lw_all := lw_in 453 (by decide +kernel) (by decide +kernel)
theorem qw_433 : Cond.instanceMethod ({ cls := "HandLoom$WholeLane", name := "exchange", desc := "(II)V" } : MethodName) ∈ lw_all := lw_in 454 (by decide +kernel) (by decide +kernel)
theorem qw_434 : Cond.code ({ cls := "HandLoom$WholeLane", name := "exchange", desc := "(II)V" } : MethodName) prog_11_method_9_code (4 : Nat) (Option.none : Option ClassFile.FieldType) ∈ lw_all := lw_in 455 (by decide +kernel) (by decide +kernel)
theorem qw_435 : Cond.methodLink "HandLoomLaw" (46 : Nat) ({ cls := "HandLoom", name := "cloth", desc := "(II)I" } : MethodName) ∈ lw_all := lw_in 456 (by decide +kernel) (by decide +kernel)
theorem qw_436 : Cond.instanceMethod ({ cls := "HandLoom", name := "cloth", desc := "(II)I" } : MethodName) ∈ lw_all := lw_in 457 (by decide +kernel) (by decide +kernel)
theorem qw_437 : Cond.selects "HandLoom" ({ cls := "HandLoom", name := "cloth", desc := "(II)I" } : MethodName) ({ cls := "HandLoom", name := "cloth", desc := "(II)I" } : MethodName) ∈ lw_all := lw_in 458 (by decide +kernel) (by decide +kernel)
theorem qw_438 : Cond.code ({ cls := "HandLoom", name := "cloth", desc := "(II)I" } : MethodName) prog_1_method_9_code (3 : Nat) (Option.some FieldType.int) ∈ lw_all := lw_in 459 (by decide +kernel) (by decide +kernel)
theorem qw_439 : Cond.methodLink "HandLoom" (116 : Nat) ({ cls := "HandLoom$Cloth", name := "renew", desc := "(II)V" } : MethodName) ∈ lw_all := lw_in 460 (by decide +kernel) (by decide +kernel)
theorem qw_440 : Cond.instanceMethod ({ cls := "HandLoom$Cloth", name := "renew", desc := "(II)V" } : MethodName) ∈ lw_all := lw_in 461 (by decide +kernel) (by decide +kernel)
theorem qw_441 : Cond.selects "HandLoom$Cloth" ({ cls := "HandLoom$Cloth", name := "renew", desc := "(II)V" } : MethodName) ({ cls := "HandLoom$Cloth", name := "renew", desc := "(II)V" } : MethodName) ∈ lw_all := lw_in 462 (by decide +kernel) (by decide +kernel)
theorem qw_442 : Cond.code ({ cls := "HandLoom$Cloth", name := "renew", desc := "(II)V" } : MethodName) prog_3_method_3_code (5 : Nat) (Option.none : Option ClassFile.FieldType) ∈ lw_all := lw_in 463 (by decide +kernel) (by decide +kernel)
theorem qw_443 : Cond.methodLink "HandLoomLaw" (50 : Nat) ({ cls := "HandLoom", name := "snip", desc := "(I)I" } : MethodName) ∈ lw_all := lw_in 464 (by decide +kernel) (by decide +kernel)
theorem qw_444 : Cond.instanceMethod ({ cls := "HandLoom", name := "snip", desc := "(I)I" } : MethodName) ∈ lw_all := lw_in 465 (by decide +kernel) (by decide +kernel)
theorem qw_445 : Cond.selects "HandLoom" ({ cls := "HandLoom", name := "snip", desc := "(I)I" } : MethodName) ({ cls := "HandLoom", name := "snip", desc := "(I)I" } : MethodName) ∈ lw_all := lw_in 466 (by decide +kernel) (by decide +kernel)
theorem qw_446 : Cond.code ({ cls := "HandLoom", name := "snip", desc := "(I)I" } : MethodName) prog_1_method_10_code (4 : Nat) (Option.some FieldType.int) ∈ lw_all := lw_in 467 (by decide +kernel) (by decide +kernel)
theorem qw_447 : Cond.methodLink "HandLoom" (119 : Nat) ({ cls := "HandLoom$Cloth", name := "placeFault", desc := "(I)I" } : MethodName) ∈ lw_all := lw_in 468 (by decide +kernel) (by decide +kernel)
theorem qw_448 : Cond.instanceMethod ({ cls := "HandLoom$Cloth", name := "placeFault", desc := "(I)I" } : MethodName) ∈ lw_all := lw_in 469 (by decide +kernel) (by decide +kernel)
theorem qw_449 : Cond.selects "HandLoom$Cloth" ({ cls := "HandLoom$Cloth", name := "placeFault", desc := "(I)I" } : MethodName) ({ cls := "HandLoom$Cloth", name := "placeFault", desc := "(I)I" } : MethodName) ∈ lw_all := lw_in 470 (by decide +kernel) (by decide +kernel)
theorem qw_450 : Cond.code ({ cls := "HandLoom$Cloth", name := "placeFault", desc := "(I)I" } : MethodName) prog_3_method_5_code (2 : Nat) (Option.some FieldType.int) ∈ lw_all := lw_in 471 (by decide +kernel) (by decide +kernel)
theorem qw_451 : Cond.methodLink "HandLoom$Cloth" (29 : Nat) ({ cls := "HandLoom$Cloth", name := "isPlace", desc := "(I)Z" } : MethodName) ∈ lw_all := lw_in 472 (by decide +kernel) (by decide +kernel)
theorem qw_453 : Cond.instanceMethod ({ cls := "HandLoom$Cloth", name := "isPlace", desc := "(I)Z" } : MethodName) ∈ lw_all := lw_in 474 (by decide +kernel) (by decide +kernel)
theorem qw_454 : Cond.code ({ cls := "HandLoom$Cloth", name := "isPlace", desc := "(I)Z" } : MethodName) prog_3_method_4_code (2 : Nat) (Option.some FieldType.boolean) ∈ lw_all := lw_in 475 (by decide +kernel) (by decide +kernel)
theorem qw_455 : Cond.methodLink "HandLoom" (122 : Nat) ({ cls := "HandLoom$Cloth", name := "hasPick", desc := "(I)Z" } : MethodName) ∈ lw_all := lw_in 476 (by decide +kernel) (by decide +kernel)
theorem qw_456 : Cond.instanceMethod ({ cls := "HandLoom$Cloth", name := "hasPick", desc := "(I)Z" } : MethodName) ∈ lw_all := lw_in 477 (by decide +kernel) (by decide +kernel)
theorem qw_457 : Cond.selects "HandLoom$Cloth" ({ cls := "HandLoom$Cloth", name := "hasPick", desc := "(I)Z" } : MethodName) ({ cls := "HandLoom$Cloth", name := "hasPick", desc := "(I)Z" } : MethodName) ∈ lw_all := lw_in 478 (by decide +kernel) (by decide +kernel)
theorem qw_458 : Cond.code ({ cls := "HandLoom$Cloth", name := "hasPick", desc := "(I)Z" } : MethodName) prog_3_method_7_code (2 : Nat) (Option.some FieldType.boolean) ∈ lw_all := lw_in 479 (by decide +kernel) (by decide +kernel)
theorem qw_459 : Cond.methodLink "HandLoom" (125 : Nat) ({ cls := "HandLoom$Cloth", name := "drop", desc := "(I)V" } : MethodName) ∈ lw_all := lw_in 480 (by decide +kernel) (by decide +kernel)
theorem qw_460 : Cond.instanceMethod ({ cls := "HandLoom$Cloth", name := "drop", desc := "(I)V" } : MethodName) ∈ lw_all := lw_in 481 (by decide +kernel) (by decide +kernel)
theorem qw_461 : Cond.selects "HandLoom$Cloth" ({ cls := "HandLoom$Cloth", name := "drop", desc := "(I)V" } : MethodName) ({ cls := "HandLoom$Cloth", name := "drop", desc := "(I)V" } : MethodName) ∈ lw_all := lw_in 482 (by decide +kernel) (by decide +kernel)
theorem qw_462 : Cond.code ({ cls := "HandLoom$Cloth", name := "drop", desc := "(I)V" } : MethodName) prog_3_method_9_code (2 : Nat) (Option.none : Option ClassFile.FieldType) ∈ lw_all := lw_in 483 (by decide +kernel) (by decide +kernel)
theorem qw_463 : Cond.methodLink "HandLoomLaw" (54 : Nat) ({ cls := "HandLoom", name := "hang", desc := "(II)I" } : MethodName) ∈ lw_all := lw_in 484 (by decide +kernel) (by decide +kernel)
theorem qw_464 : Cond.instanceMethod ({ cls := "HandLoom", name := "hang", desc := "(II)I" } : MethodName) ∈ lw_all := lw_in 485 (by decide +kernel) (by decide +kernel)
theorem qw_465 : Cond.selects "HandLoom" ({ cls := "HandLoom", name := "hang", desc := "(II)I" } : MethodName) ({ cls := "HandLoom", name := "hang", desc := "(II)I" } : MethodName) ∈ lw_all := lw_in 486 (by decide +kernel) (by decide +kernel)
theorem qw_466 : Cond.code ({ cls := "HandLoom", name := "hang", desc := "(II)I" } : MethodName) prog_1_method_11_code (4 : Nat) (Option.some FieldType.int) ∈ lw_all := lw_in 487 (by decide +kernel) (by decide +kernel)
theorem qw_467 : Cond.methodLink "HandLoom" (128 : Nat) ({ cls := "HandLoom$Cloth", name := "join", desc := "(II)V" } : MethodName) ∈ lw_all := lw_in 488 (by decide +kernel) (by decide +kernel)
theorem qw_468 : Cond.instanceMethod ({ cls := "HandLoom$Cloth", name := "join", desc := "(II)V" } : MethodName) ∈ lw_all := lw_in 489 (by decide +kernel) (by decide +kernel)
theorem qw_469 : Cond.selects "HandLoom$Cloth" ({ cls := "HandLoom$Cloth", name := "join", desc := "(II)V" } : MethodName) ({ cls := "HandLoom$Cloth", name := "join", desc := "(II)V" } : MethodName) ∈ lw_all := lw_in 490 (by decide +kernel) (by decide +kernel)
theorem qw_470 : Cond.code ({ cls := "HandLoom$Cloth", name := "join", desc := "(II)V" } : MethodName) prog_3_method_10_code (3 : Nat) (Option.none : Option ClassFile.FieldType) ∈ lw_all := lw_in 491 (by decide +kernel) (by decide +kernel)
theorem qw_471 : Cond.methodLink "HandLoom" (130 : Nat) ({ cls := "HandLoom$Cloth", name := "width", desc := "()I" } : MethodName) ∈ lw_all := lw_in 492 (by decide +kernel) (by decide +kernel)
theorem qw_472 : Cond.instanceMethod ({ cls := "HandLoom$Cloth", name := "width", desc := "()I" } : MethodName) ∈ lw_all := lw_in 493 (by decide +kernel) (by decide +kernel)
theorem qw_473 : Cond.selects "HandLoom$Cloth" ({ cls := "HandLoom$Cloth", name := "width", desc := "()I" } : MethodName) ({ cls := "HandLoom$Cloth", name := "width", desc := "()I" } : MethodName) ∈ lw_all := lw_in 494 (by decide +kernel) (by decide +kernel)
theorem qw_474 : Cond.code ({ cls := "HandLoom$Cloth", name := "width", desc := "()I" } : MethodName) prog_3_method_2_code (1 : Nat) (Option.some FieldType.int) ∈ lw_all := lw_in 495 (by decide +kernel) (by decide +kernel)
theorem qw_475 : Cond.methodLink "HandLoomLaw" (58 : Nat) ({ cls := "HandLoom", name := "cell", desc := "(II)I" } : MethodName) ∈ lw_all := lw_in 496 (by decide +kernel) (by decide +kernel)
theorem qw_476 : Cond.instanceMethod ({ cls := "HandLoom", name := "cell", desc := "(II)I" } : MethodName) ∈ lw_all := lw_in 497 (by decide +kernel) (by decide +kernel)
theorem qw_477 : Cond.selects "HandLoom" ({ cls := "HandLoom", name := "cell", desc := "(II)I" } : MethodName) ({ cls := "HandLoom", name := "cell", desc := "(II)I" } : MethodName) ∈ lw_all := lw_in 498 (by decide +kernel) (by decide +kernel)
theorem qw_478 : Cond.code ({ cls := "HandLoom", name := "cell", desc := "(II)I" } : MethodName) prog_1_method_12_code (4 : Nat) (Option.some FieldType.int) ∈ lw_all := lw_in 499 (by decide +kernel) (by decide +kernel)
theorem qw_479 : Cond.methodLink "HandLoom" (133 : Nat) ({ cls := "HandLoom$Cloth", name := "pickFault", desc := "(I)I" } : MethodName) ∈ lw_all := lw_in 500 (by decide +kernel) (by decide +kernel)
theorem qw_480 : Cond.instanceMethod ({ cls := "HandLoom$Cloth", name := "pickFault", desc := "(I)I" } : MethodName) ∈ lw_all := lw_in 501 (by decide +kernel) (by decide +kernel)
theorem qw_481 : Cond.selects "HandLoom$Cloth" ({ cls := "HandLoom$Cloth", name := "pickFault", desc := "(I)I" } : MethodName) ({ cls := "HandLoom$Cloth", name := "pickFault", desc := "(I)I" } : MethodName) ∈ lw_all := lw_in 502 (by decide +kernel) (by decide +kernel)
theorem qw_482 : Cond.code ({ cls := "HandLoom$Cloth", name := "pickFault", desc := "(I)I" } : MethodName) prog_3_method_6_code (3 : Nat) (Option.some FieldType.int) ∈ lw_all := lw_in 503 (by decide +kernel) (by decide +kernel)
theorem qw_483 : Cond.methodLink "HandLoom$Cloth" (33 : Nat) ({ cls := "HandLoom$Cloth", name := "placeFault", desc := "(I)I" } : MethodName) ∈ lw_all := lw_in 504 (by decide +kernel) (by decide +kernel)
theorem qw_484 : Cond.methodLink "HandLoom$Cloth" (37 : Nat) ({ cls := "HandLoom$Cloth", name := "hasPick", desc := "(I)Z" } : MethodName) ∈ lw_all := lw_in 505 (by decide +kernel) (by decide +kernel)
theorem qw_485 : Cond.methodLink "HandLoom" (136 : Nat) ({ cls := "HandLoom$Cloth", name := "hasCell", desc := "(I)Z" } : MethodName) ∈ lw_all := lw_in 506 (by decide +kernel) (by decide +kernel)
theorem qw_486 : Cond.instanceMethod ({ cls := "HandLoom$Cloth", name := "hasCell", desc := "(I)Z" } : MethodName) ∈ lw_all := lw_in 507 (by decide +kernel) (by decide +kernel)
theorem qw_487 : Cond.selects "HandLoom$Cloth" ({ cls := "HandLoom$Cloth", name := "hasCell", desc := "(I)Z" } : MethodName) ({ cls := "HandLoom$Cloth", name := "hasCell", desc := "(I)Z" } : MethodName) ∈ lw_all := lw_in 508 (by decide +kernel) (by decide +kernel)
theorem qw_488 : Cond.code ({ cls := "HandLoom$Cloth", name := "hasCell", desc := "(I)Z" } : MethodName) prog_3_method_8_code (2 : Nat) (Option.some FieldType.boolean) ∈ lw_all := lw_in 509 (by decide +kernel) (by decide +kernel)
theorem qw_489 : Cond.methodLink "HandLoom" (139 : Nat) ({ cls := "HandLoom$Cloth", name := "get", desc := "(II)I" } : MethodName) ∈ lw_all := lw_in 510 (by decide +kernel) (by decide +kernel)
theorem qw_490 : Cond.instanceMethod ({ cls := "HandLoom$Cloth", name := "get", desc := "(II)I" } : MethodName) ∈ lw_all := lw_in 511 (by decide +kernel) (by decide +kernel)
theorem qw_491 : Cond.selects "HandLoom$Cloth" ({ cls := "HandLoom$Cloth", name := "get", desc := "(II)I" } : MethodName) ({ cls := "HandLoom$Cloth", name := "get", desc := "(II)I" } : MethodName) ∈ lw_all := lw_in 512 (by decide +kernel) (by decide +kernel)
theorem qw_492 : Cond.code ({ cls := "HandLoom$Cloth", name := "get", desc := "(II)I" } : MethodName) prog_3_method_11_code (3 : Nat) (Option.some FieldType.int) ∈ lw_all := lw_in 513 (by decide +kernel) (by decide +kernel)
theorem qw_493 : Cond.methodLink "HandLoom$Cloth" (40 : Nat) ({ cls := "HandLoom$Cloth", name := "hasCell", desc := "(I)Z" } : MethodName) ∈ lw_all := lw_in 514 (by decide +kernel) (by decide +kernel)
theorem qw_494 : Cond.methodLink "HandLoomLaw" (62 : Nat) ({ cls := "HandLoom", name := "weave", desc := "(III)I" } : MethodName) ∈ lw_all := lw_in 515 (by decide +kernel) (by decide +kernel)
theorem qw_495 : Cond.instanceMethod ({ cls := "HandLoom", name := "weave", desc := "(III)I" } : MethodName) ∈ lw_all := lw_in 516 (by decide +kernel) (by decide +kernel)
theorem qw_496 : Cond.selects "HandLoom" ({ cls := "HandLoom", name := "weave", desc := "(III)I" } : MethodName) ({ cls := "HandLoom", name := "weave", desc := "(III)I" } : MethodName) ∈ lw_all := lw_in 517 (by decide +kernel) (by decide +kernel)
theorem qw_497 : Cond.code ({ cls := "HandLoom", name := "weave", desc := "(III)I" } : MethodName) prog_1_method_13_code (7 : Nat) (Option.some FieldType.int) ∈ lw_all := lw_in 518 (by decide +kernel) (by decide +kernel)
theorem qw_498 : Cond.methodLink "HandLoom" (143 : Nat) ({ cls := "HandLoom", name := "weaveCell", desc := "(IIII)I" } : MethodName) ∈ lw_all := lw_in 519 (by decide +kernel) (by decide +kernel)
theorem qw_500 : Cond.instanceMethod ({ cls := "HandLoom", name := "weaveCell", desc := "(IIII)I" } : MethodName) ∈ lw_all := lw_in 521 (by decide +kernel) (by decide +kernel)
theorem qw_501 : Cond.code ({ cls := "HandLoom", name := "weaveCell", desc := "(IIII)I" } : MethodName) prog_1_method_23_code (8 : Nat) (Option.some FieldType.int) ∈ lw_all := lw_in 522 (by decide +kernel) (by decide +kernel)
theorem qw_502 : Cond.methodLink "HandLoom" (207 : Nat) ({ cls := "HandLoom", name := "faultAtEnd", desc := "(LHandLoom$Lane;)I" } : MethodName) ∈ lw_all := lw_in 523 (by decide +kernel) (by decide +kernel)
theorem qw_503 : Cond.static ({ cls := "HandLoom", name := "faultAtEnd", desc := "(LHandLoom$Lane;)I" } : MethodName) ∈ lw_all := lw_in 524 (by decide +kernel) (by decide +kernel)
theorem qw_504 : Cond.code ({ cls := "HandLoom", name := "faultAtEnd", desc := "(LHandLoom$Lane;)I" } : MethodName) prog_1_method_24_code (1 : Nat) (Option.some FieldType.int) ∈ lw_all := lw_in 525 (by decide +kernel) (by decide +kernel)
theorem qw_505 : Cond.methodLink "HandLoom" (211 : Nat) ({ cls := "HandLoom$Cloth", name := "set", desc := "(III)V" } : MethodName) ∈ lw_all := lw_in 526 (by decide +kernel) (by decide +kernel)
theorem qw_506 : Cond.instanceMethod ({ cls := "HandLoom$Cloth", name := "set", desc := "(III)V" } : MethodName) ∈ lw_all := lw_in 527 (by decide +kernel) (by decide +kernel)
theorem qw_507 : Cond.selects "HandLoom$Cloth" ({ cls := "HandLoom$Cloth", name := "set", desc := "(III)V" } : MethodName) ({ cls := "HandLoom$Cloth", name := "set", desc := "(III)V" } : MethodName) ∈ lw_all := lw_in 528 (by decide +kernel) (by decide +kernel)
theorem qw_508 : Cond.code ({ cls := "HandLoom$Cloth", name := "set", desc := "(III)V" } : MethodName) prog_3_method_12_code (4 : Nat) (Option.none : Option ClassFile.FieldType) ∈ lw_all := lw_in 529 (by decide +kernel) (by decide +kernel)
theorem qw_509 : Cond.methodLink "HandLoomLaw" (66 : Nat) ({ cls := "HandLoom", name := "card", desc := "(IIIII)I" } : MethodName) ∈ lw_all := lw_in 530 (by decide +kernel) (by decide +kernel)
theorem qw_510 : Cond.instanceMethod ({ cls := "HandLoom", name := "card", desc := "(IIIII)I" } : MethodName) ∈ lw_all := lw_in 531 (by decide +kernel) (by decide +kernel)
theorem qw_511 : Cond.selects "HandLoom" ({ cls := "HandLoom", name := "card", desc := "(IIIII)I" } : MethodName) ({ cls := "HandLoom", name := "card", desc := "(IIIII)I" } : MethodName) ∈ lw_all := lw_in 532 (by decide +kernel) (by decide +kernel)
theorem qw_512 : Cond.code ({ cls := "HandLoom", name := "card", desc := "(IIIII)I" } : MethodName) prog_1_method_14_code (6 : Nat) (Option.some FieldType.int) ∈ lw_all := lw_in 533 (by decide +kernel) (by decide +kernel)
theorem qw_513 : Cond.methodLink "HandLoom" (147 : Nat) ({ cls := "HandLoom$Deck", name := "isFull", desc := "()Z" } : MethodName) ∈ lw_all := lw_in 534 (by decide +kernel) (by decide +kernel)
theorem qw_514 : Cond.instanceMethod ({ cls := "HandLoom$Deck", name := "isFull", desc := "()Z" } : MethodName) ∈ lw_all := lw_in 535 (by decide +kernel) (by decide +kernel)
theorem qw_515 : Cond.selects "HandLoom$Deck" ({ cls := "HandLoom$Deck", name := "isFull", desc := "()Z" } : MethodName) ({ cls := "HandLoom$Deck", name := "isFull", desc := "()Z" } : MethodName) ∈ lw_all := lw_in 536 (by decide +kernel) (by decide +kernel)
theorem qw_516 : Cond.code ({ cls := "HandLoom$Deck", name := "isFull", desc := "()Z" } : MethodName) prog_4_method_3_code (1 : Nat) (Option.some FieldType.boolean) ∈ lw_all := lw_in 537 (by decide +kernel) (by decide +kernel)
theorem qw_517 : Cond.methodLink "HandLoom" (148 : Nat) ({ cls := "HandLoom$Deck", name := "add", desc := "(IIIII)V" } : MethodName) ∈ lw_all := lw_in 538 (by decide +kernel) (by decide +kernel)
theorem qw_518 : Cond.instanceMethod ({ cls := "HandLoom$Deck", name := "add", desc := "(IIIII)V" } : MethodName) ∈ lw_all := lw_in 539 (by decide +kernel) (by decide +kernel)
theorem qw_519 : Cond.selects "HandLoom$Deck" ({ cls := "HandLoom$Deck", name := "add", desc := "(IIIII)V" } : MethodName) ({ cls := "HandLoom$Deck", name := "add", desc := "(IIIII)V" } : MethodName) ∈ lw_all := lw_in 540 (by decide +kernel) (by decide +kernel)
theorem qw_520 : Cond.code ({ cls := "HandLoom$Deck", name := "add", desc := "(IIIII)V" } : MethodName) prog_4_method_5_code (7 : Nat) (Option.none : Option ClassFile.FieldType) ∈ lw_all := lw_in 541 (by decide +kernel) (by decide +kernel)
theorem qw_521 : Cond.methodLink "HandLoom$Deck" (22 : Nat) ({ cls := "HandLoom$Deck", name := "isFull", desc := "()Z" } : MethodName) ∈ lw_all := lw_in 542 (by decide +kernel) (by decide +kernel)
theorem qw_522 : Cond.methodLink "HandLoom" (152 : Nat) ({ cls := "HandLoom$Deck", name := "count", desc := "()I" } : MethodName) ∈ lw_all := lw_in 543 (by decide +kernel) (by decide +kernel)
theorem qw_523 : Cond.instanceMethod ({ cls := "HandLoom$Deck", name := "count", desc := "()I" } : MethodName) ∈ lw_all := lw_in 544 (by decide +kernel) (by decide +kernel)
theorem qw_524 : Cond.selects "HandLoom$Deck" ({ cls := "HandLoom$Deck", name := "count", desc := "()I" } : MethodName) ({ cls := "HandLoom$Deck", name := "count", desc := "()I" } : MethodName) ∈ lw_all := lw_in 545 (by decide +kernel) (by decide +kernel)
theorem qw_525 : Cond.code ({ cls := "HandLoom$Deck", name := "count", desc := "()I" } : MethodName) prog_4_method_2_code (1 : Nat) (Option.some FieldType.int) ∈ lw_all := lw_in 546 (by decide +kernel) (by decide +kernel)
theorem qw_526 : Cond.methodLink "HandLoomLaw" (70 : Nat) ({ cls := "HandLoom", name := "unhook", desc := "()I" } : MethodName) ∈ lw_all := lw_in 547 (by decide +kernel) (by decide +kernel)
theorem qw_527 : Cond.instanceMethod ({ cls := "HandLoom", name := "unhook", desc := "()I" } : MethodName) ∈ lw_all := lw_in 548 (by decide +kernel) (by decide +kernel)
theorem qw_528 : Cond.selects "HandLoom" ({ cls := "HandLoom", name := "unhook", desc := "()I" } : MethodName) ({ cls := "HandLoom", name := "unhook", desc := "()I" } : MethodName) ∈ lw_all := lw_in 549 (by decide +kernel) (by decide +kernel)
theorem qw_529 : Cond.code ({ cls := "HandLoom", name := "unhook", desc := "()I" } : MethodName) prog_1_method_15_code (2 : Nat) (Option.some FieldType.int) ∈ lw_all := lw_in 550 (by decide +kernel) (by decide +kernel)
theorem qw_530 : Cond.methodLink "HandLoom" (153 : Nat) ({ cls := "HandLoom$Deck", name := "clear", desc := "()V" } : MethodName) ∈ lw_all := lw_in 551 (by decide +kernel) (by decide +kernel)
theorem qw_531 : Cond.instanceMethod ({ cls := "HandLoom$Deck", name := "clear", desc := "()V" } : MethodName) ∈ lw_all := lw_in 552 (by decide +kernel) (by decide +kernel)
theorem qw_532 : Cond.selects "HandLoom$Deck" ({ cls := "HandLoom$Deck", name := "clear", desc := "()V" } : MethodName) ({ cls := "HandLoom$Deck", name := "clear", desc := "()V" } : MethodName) ∈ lw_all := lw_in 553 (by decide +kernel) (by decide +kernel)
theorem qw_533 : Cond.code ({ cls := "HandLoom$Deck", name := "clear", desc := "()V" } : MethodName) prog_4_method_4_code (1 : Nat) (Option.none : Option ClassFile.FieldType) ∈ lw_all := lw_in 554 (by decide +kernel) (by decide +kernel)
theorem qw_534 : Cond.methodLink "HandLoomLaw" (75 : Nat) ({ cls := "HandLoom", name := "keeper", desc := "(I)Z" } : MethodName) ∈ lw_all := lw_in 555 (by decide +kernel) (by decide +kernel)
theorem qw_535 : Cond.instanceMethod ({ cls := "HandLoom", name := "keeper", desc := "(I)Z" } : MethodName) ∈ lw_all := lw_in 556 (by decide +kernel) (by decide +kernel)
theorem qw_536 : Cond.selects "HandLoom" ({ cls := "HandLoom", name := "keeper", desc := "(I)Z" } : MethodName) ({ cls := "HandLoom", name := "keeper", desc := "(I)Z" } : MethodName) ∈ lw_all := lw_in 557 (by decide +kernel) (by decide +kernel)
theorem qw_537 : Cond.code ({ cls := "HandLoom", name := "keeper", desc := "(I)Z" } : MethodName) prog_1_method_16_code (2 : Nat) (Option.some FieldType.boolean) ∈ lw_all := lw_in 558 (by decide +kernel) (by decide +kernel)
theorem qw_538 : Cond.methodLink "HandLoomLaw" (80 : Nat) ({ cls := "HandLoom", name := "run", desc := "(I)I" } : MethodName) ∈ lw_all := lw_in 559 (by decide +kernel) (by decide +kernel)
theorem qw_539 : Cond.instanceMethod ({ cls := "HandLoom", name := "run", desc := "(I)I" } : MethodName) ∈ lw_all := lw_in 560 (by decide +kernel) (by decide +kernel)
theorem qw_540 : Cond.selects "HandLoom" ({ cls := "HandLoom", name := "run", desc := "(I)I" } : MethodName) ({ cls := "HandLoom", name := "run", desc := "(I)I" } : MethodName) ∈ lw_all := lw_in 561 (by decide +kernel) (by decide +kernel)
theorem qw_541 : Cond.code ({ cls := "HandLoom", name := "run", desc := "(I)I" } : MethodName) prog_1_method_17_code (4 : Nat) (Option.some FieldType.int) ∈ lw_all := lw_in 562 (by decide +kernel) (by decide +kernel)
theorem qw_542 : Cond.methodLink "HandLoom" (156 : Nat) ({ cls := "HandLoom$Deck", name := "at", desc := "(I)LHandLoom$Card;" } : MethodName) ∈ lw_all := lw_in 563 (by decide +kernel) (by decide +kernel)
theorem qw_543 : Cond.instanceMethod ({ cls := "HandLoom$Deck", name := "at", desc := "(I)LHandLoom$Card;" } : MethodName) ∈ lw_all := lw_in 564 (by decide +kernel) (by decide +kernel)
theorem qw_544 : Cond.selects "HandLoom$Deck" ({ cls := "HandLoom$Deck", name := "at", desc := "(I)LHandLoom$Card;" } : MethodName) ({ cls := "HandLoom$Deck", name := "at", desc := "(I)LHandLoom$Card;" } : MethodName) ∈ lw_all := lw_in 565 (by decide +kernel) (by decide +kernel)
theorem qw_545 : Cond.code ({ cls := "HandLoom$Deck", name := "at", desc := "(I)LHandLoom$Card;" } : MethodName) prog_4_method_6_code (2 : Nat) (Option.some (FieldType.object "HandLoom$Card")) ∈ lw_all := lw_in 566 (by decide +kernel) (by decide +kernel)
theorem qw_546 : Cond.methodLink "HandLoom" (177 : Nat) ({ cls := "HandLoom$Ledger", name := "latest", desc := "()I" } : MethodName) ∈ lw_all := lw_in 567 (by decide +kernel) (by decide +kernel)
theorem qw_547 : Cond.instanceMethod ({ cls := "HandLoom$Ledger", name := "latest", desc := "()I" } : MethodName) ∈ lw_all := lw_in 568 (by decide +kernel) (by decide +kernel)
theorem qw_548 : Cond.selects "HandLoom$Ledger" ({ cls := "HandLoom$Ledger", name := "latest", desc := "()I" } : MethodName) ({ cls := "HandLoom$Ledger", name := "latest", desc := "()I" } : MethodName) ∈ lw_all := lw_in 569 (by decide +kernel) (by decide +kernel)
theorem qw_549 : Cond.code ({ cls := "HandLoom$Ledger", name := "latest", desc := "()I" } : MethodName) prog_6_method_4_code (1 : Nat) (Option.some FieldType.int) ∈ lw_all := lw_in 570 (by decide +kernel) (by decide +kernel)
theorem qw_550 : Cond.methodLink "HandLoom" (180 : Nat) ({ cls := "HandLoom", name := "isEndedBy", desc := "(I)Z" } : MethodName) ∈ lw_all := lw_in 571 (by decide +kernel) (by decide +kernel)
theorem qw_552 : Cond.instanceMethod ({ cls := "HandLoom", name := "isEndedBy", desc := "(I)Z" } : MethodName) ∈ lw_all := lw_in 573 (by decide +kernel) (by decide +kernel)
theorem qw_553 : Cond.code ({ cls := "HandLoom", name := "isEndedBy", desc := "(I)Z" } : MethodName) prog_1_method_20_code (2 : Nat) (Option.some FieldType.boolean) ∈ lw_all := lw_in 574 (by decide +kernel) (by decide +kernel)
theorem qw_554 : Cond.methodLink "HandLoomLaw" (84 : Nat) ({ cls := "HandLoom", name := "told", desc := "(I)I" } : MethodName) ∈ lw_all := lw_in 575 (by decide +kernel) (by decide +kernel)
theorem qw_555 : Cond.instanceMethod ({ cls := "HandLoom", name := "told", desc := "(I)I" } : MethodName) ∈ lw_all := lw_in 576 (by decide +kernel) (by decide +kernel)
theorem qw_556 : Cond.selects "HandLoom" ({ cls := "HandLoom", name := "told", desc := "(I)I" } : MethodName) ({ cls := "HandLoom", name := "told", desc := "(I)I" } : MethodName) ∈ lw_all := lw_in 577 (by decide +kernel) (by decide +kernel)
theorem qw_557 : Cond.code ({ cls := "HandLoom", name := "told", desc := "(I)I" } : MethodName) prog_1_method_18_code (2 : Nat) (Option.some FieldType.int) ∈ lw_all := lw_in 578 (by decide +kernel) (by decide +kernel)
theorem qw_558 : Cond.methodLink "HandLoom" (183 : Nat) ({ cls := "HandLoom$Ledger", name := "countOf", desc := "(I)I" } : MethodName) ∈ lw_all := lw_in 579 (by decide +kernel) (by decide +kernel)
theorem qw_559 : Cond.instanceMethod ({ cls := "HandLoom$Ledger", name := "countOf", desc := "(I)I" } : MethodName) ∈ lw_all := lw_in 580 (by decide +kernel) (by decide +kernel)
theorem qw_560 : Cond.selects "HandLoom$Ledger" ({ cls := "HandLoom$Ledger", name := "countOf", desc := "(I)I" } : MethodName) ({ cls := "HandLoom$Ledger", name := "countOf", desc := "(I)I" } : MethodName) ∈ lw_all := lw_in 581 (by decide +kernel) (by decide +kernel)
theorem qw_561 : Cond.code ({ cls := "HandLoom$Ledger", name := "countOf", desc := "(I)I" } : MethodName) prog_6_method_5_code (2 : Nat) (Option.some FieldType.int) ∈ lw_all := lw_in 582 (by decide +kernel) (by decide +kernel)
theorem qw_562 : Cond.classLink "HandLoomLaw" (10 : Nat) "HandLoomModel" ∈ lw_all := lw_in 583 (by decide +kernel) (by decide +kernel)
theorem qw_563 : Cond.instantiable "HandLoomModel" (18 : Nat) ∈ lw_all := lw_in 584 (by decide +kernel) (by decide +kernel)
theorem qw_564 : Cond.methodLink "HandLoomLaw" (12 : Nat) ({ cls := "HandLoomModel", name := "<init>", desc := "()V" } : MethodName) ∈ lw_all := lw_in 585 (by decide +kernel) (by decide +kernel)
theorem qw_565 : Cond.instanceMethod ({ cls := "HandLoomModel", name := "<init>", desc := "()V" } : MethodName) ∈ lw_all := lw_in 586 (by decide +kernel) (by decide +kernel)
theorem qw_566 : Cond.code ({ cls := "HandLoomModel", name := "<init>", desc := "()V" } : MethodName) prog_13_method_1_code (2 : Nat) (Option.none : Option ClassFile.FieldType) ∈ lw_all := lw_in 587 (by decide +kernel) (by decide +kernel)
theorem qw_567 : Cond.methodLink "HandLoomModel" (1 : Nat) ({ cls := "java/lang/Object", name := "<init>", desc := "()V" } : MethodName) ∈ lw_all := lw_in 588 (by decide +kernel) (by decide +kernel)
theorem qw_568 : Cond.fieldLink "HandLoomModel" (7 : Nat) "HandLoomModel" "rowOf" "[I" ∈ lw_all := lw_in 589 (by decide +kernel) (by decide +kernel)
theorem qw_569 : Cond.fieldLink "HandLoomModel" (13 : Nat) "HandLoomModel" "ends" "[I" ∈ lw_all := lw_in 590 (by decide +kernel) (by decide +kernel)
theorem qw_570 : Cond.fieldLink "HandLoomModel" (16 : Nat) "HandLoomModel" "has" "[I" ∈ lw_all := lw_in 591 (by decide +kernel) (by decide +kernel)
theorem qw_571 : Cond.fieldLink "HandLoomModel" (19 : Nat) "HandLoomModel" "pulls" "[F" ∈ lw_all := lw_in 592 (by decide +kernel) (by decide +kernel)
theorem qw_572 : Cond.fieldLink "HandLoomModel" (23 : Nat) "HandLoomModel" "thread" "[I" ∈ lw_all := lw_in 593 (by decide +kernel) (by decide +kernel)
theorem qw_573 : Cond.fieldLink "HandLoomModel" (61 : Nat) "HandLoomModel" "threads" "I" ∈ lw_all := lw_in 594 (by decide +kernel) (by decide +kernel)
theorem qw_574 : Cond.fieldLink "HandLoomModel" (104 : Nat) "HandLoomModel" "isCloth" "Z" ∈ lw_all := lw_in 595 (by decide +kernel) (by decide +kernel)
theorem qw_575 : Cond.fieldLink "HandLoomModel" (108 : Nat) "HandLoomModel" "picks" "I" ∈ lw_all := lw_in 596 (by decide +kernel) (by decide +kernel)
theorem qw_576 : Cond.fieldLink "HandLoomModel" (111 : Nat) "HandLoomModel" "wide" "I" ∈ lw_all := lw_in 597 (by decide +kernel) (by decide +kernel)
theorem qw_577 : Cond.fieldLink "HandLoomModel" (26 : Nat) "HandLoomModel" "pickOf" "[I" ∈ lw_all := lw_in 598 (by decide +kernel) (by decide +kernel)
theorem qw_578 : Cond.fieldLink "HandLoomModel" (29 : Nat) "HandLoomModel" "cells" "[I" ∈ lw_all := lw_in 599 (by decide +kernel) (by decide +kernel)
theorem qw_579 : Cond.fieldLink "HandLoomModel" (32 : Nat) "HandLoomModel" "card" "[I" ∈ lw_all := lw_in 600 (by decide +kernel) (by decide +kernel)
theorem qw_580 : Cond.fieldLink "HandLoomModel" (126 : Nat) "HandLoomModel" "cards" "I" ∈ lw_all := lw_in 601 (by decide +kernel) (by decide +kernel)
theorem qw_581 : Cond.fieldLink "HandLoomModel" (129 : Nat) "HandLoomModel" "passed" "I" ∈ lw_all := lw_in 602 (by decide +kernel) (by decide +kernel)
theorem qw_582 : Cond.fieldLink "HandLoomModel" (42 : Nat) "HandLoomModel" "fault" "I" ∈ lw_all := lw_in 603 (by decide +kernel) (by decide +kernel)
theorem qw_583 : Cond.fieldLink "HandLoomModel" (35 : Nat) "HandLoomModel" "faults" "[I" ∈ lw_all := lw_in 604 (by decide +kernel) (by decide +kernel)
theorem qw_584 : Cond.fieldLink "HandLoomModel" (132 : Nat) "HandLoomModel" "sum" "I" ∈ lw_all := lw_in 605 (by decide +kernel) (by decide +kernel)
theorem qw_585 : Cond.fieldLink "HandLoomModel" (123 : Nat) "HandLoomModel" "woven" "I" ∈ lw_all := lw_in 606 (by decide +kernel) (by decide +kernel)
theorem qw_586 : Cond.laysFinal "HandLoomModel" "HandLoomModel" "rowOf" "[I" ∈ lw_all := lw_in 607 (by decide +kernel) (by decide +kernel)
theorem qw_587 : Cond.soleField "HandLoomModel" "rowOf" ∈ lw_all := lw_in 608 (by decide +kernel) (by decide +kernel)
theorem qw_588 : Cond.laysFinal "HandLoomModel" "HandLoomModel" "ends" "[I" ∈ lw_all := lw_in 609 (by decide +kernel) (by decide +kernel)
theorem qw_589 : Cond.soleField "HandLoomModel" "ends" ∈ lw_all := lw_in 610 (by decide +kernel) (by decide +kernel)
theorem qw_590 : Cond.laysFinal "HandLoomModel" "HandLoomModel" "has" "[I" ∈ lw_all := lw_in 611 (by decide +kernel) (by decide +kernel)
theorem qw_591 : Cond.soleField "HandLoomModel" "has" ∈ lw_all := lw_in 612 (by decide +kernel) (by decide +kernel)
theorem qw_592 : Cond.laysFinal "HandLoomModel" "HandLoomModel" "pulls" "[F" ∈ lw_all := lw_in 613 (by decide +kernel) (by decide +kernel)
theorem qw_593 : Cond.soleField "HandLoomModel" "pulls" ∈ lw_all := lw_in 614 (by decide +kernel) (by decide +kernel)
theorem qw_594 : Cond.laysFinal "HandLoomModel" "HandLoomModel" "thread" "[I" ∈ lw_all := lw_in 615 (by decide +kernel) (by decide +kernel)
theorem qw_595 : Cond.soleField "HandLoomModel" "thread" ∈ lw_all := lw_in 616 (by decide +kernel) (by decide +kernel)
theorem qw_596 : Cond.lays "HandLoomModel" "HandLoomModel" "threads" "I" ∈ lw_all := lw_in 617 (by decide +kernel) (by decide +kernel)
theorem qw_597 : Cond.soleField "HandLoomModel" "threads" ∈ lw_all := lw_in 618 (by decide +kernel) (by decide +kernel)
theorem qw_598 : Cond.lays "HandLoomModel" "HandLoomModel" "isCloth" "Z" ∈ lw_all := lw_in 619 (by decide +kernel) (by decide +kernel)
theorem qw_599 : Cond.soleField "HandLoomModel" "isCloth" ∈ lw_all := lw_in 620 (by decide +kernel) (by decide +kernel)
theorem qw_600 : Cond.lays "HandLoomModel" "HandLoomModel" "picks" "I" ∈ lw_all := lw_in 621 (by decide +kernel) (by decide +kernel)
theorem qw_601 : Cond.soleField "HandLoomModel" "picks" ∈ lw_all := lw_in 622 (by decide +kernel) (by decide +kernel)
theorem qw_602 : Cond.lays "HandLoomModel" "HandLoomModel" "wide" "I" ∈ lw_all := lw_in 623 (by decide +kernel) (by decide +kernel)
theorem qw_603 : Cond.soleField "HandLoomModel" "wide" ∈ lw_all := lw_in 624 (by decide +kernel) (by decide +kernel)
theorem qw_604 : Cond.laysFinal "HandLoomModel" "HandLoomModel" "pickOf" "[I" ∈ lw_all := lw_in 625 (by decide +kernel) (by decide +kernel)
theorem qw_605 : Cond.soleField "HandLoomModel" "pickOf" ∈ lw_all := lw_in 626 (by decide +kernel) (by decide +kernel)
theorem qw_606 : Cond.laysFinal "HandLoomModel" "HandLoomModel" "cells" "[I" ∈ lw_all := lw_in 627 (by decide +kernel) (by decide +kernel)
theorem qw_607 : Cond.soleField "HandLoomModel" "cells" ∈ lw_all := lw_in 628 (by decide +kernel) (by decide +kernel)
theorem qw_608 : Cond.laysFinal "HandLoomModel" "HandLoomModel" "card" "[I" ∈ lw_all := lw_in 629 (by decide +kernel) (by decide +kernel)
theorem qw_609 : Cond.soleField "HandLoomModel" "card" ∈ lw_all := lw_in 630 (by decide +kernel) (by decide +kernel)
theorem qw_610 : Cond.lays "HandLoomModel" "HandLoomModel" "cards" "I" ∈ lw_all := lw_in 631 (by decide +kernel) (by decide +kernel)
theorem qw_611 : Cond.soleField "HandLoomModel" "cards" ∈ lw_all := lw_in 632 (by decide +kernel) (by decide +kernel)
theorem qw_612 : Cond.lays "HandLoomModel" "HandLoomModel" "passed" "I" ∈ lw_all := lw_in 633 (by decide +kernel) (by decide +kernel)
theorem qw_613 : Cond.soleField "HandLoomModel" "passed" ∈ lw_all := lw_in 634 (by decide +kernel) (by decide +kernel)
theorem qw_614 : Cond.lays "HandLoomModel" "HandLoomModel" "fault" "I" ∈ lw_all := lw_in 635 (by decide +kernel) (by decide +kernel)
theorem qw_615 : Cond.soleField "HandLoomModel" "fault" ∈ lw_all := lw_in 636 (by decide +kernel) (by decide +kernel)
theorem qw_616 : Cond.laysFinal "HandLoomModel" "HandLoomModel" "faults" "[I" ∈ lw_all := lw_in 637 (by decide +kernel) (by decide +kernel)
theorem qw_617 : Cond.soleField "HandLoomModel" "faults" ∈ lw_all := lw_in 638 (by decide +kernel) (by decide +kernel)
theorem qw_618 : Cond.lays "HandLoomModel" "HandLoomModel" "sum" "I" ∈ lw_all := lw_in 639 (by decide +kernel) (by decide +kernel)
theorem qw_619 : Cond.soleField "HandLoomModel" "sum" ∈ lw_all := lw_in 640 (by decide +kernel) (by decide +kernel)
theorem qw_620 : Cond.lays "HandLoomModel" "HandLoomModel" "woven" "I" ∈ lw_all := lw_in 641 (by decide +kernel) (by decide +kernel)
theorem qw_621 : Cond.soleField "HandLoomModel" "woven" ∈ lw_all := lw_in 642 (by decide +kernel) (by decide +kernel)
theorem qw_622 : Cond.superclass "HandLoomModel" "java/lang/Object" ∈ lw_all := lw_in 643 (by decide +kernel) (by decide +kernel)
theorem qw_623 : Cond.methodLink "HandLoomLaw" (17 : Nat) ({ cls := "HandLoomModel", name := "thread", desc := "(III)I" } : MethodName) ∈ lw_all := lw_in 644 (by decide +kernel) (by decide +kernel)
theorem qw_624 : Cond.instanceMethod ({ cls := "HandLoomModel", name := "thread", desc := "(III)I" } : MethodName) ∈ lw_all := lw_in 645 (by decide +kernel) (by decide +kernel)
theorem qw_625 : Cond.selects "HandLoomModel" ({ cls := "HandLoomModel", name := "thread", desc := "(III)I" } : MethodName) ({ cls := "HandLoomModel", name := "thread", desc := "(III)I" } : MethodName) ∈ lw_all := lw_in 646 (by decide +kernel) (by decide +kernel)
theorem qw_626 : Cond.code ({ cls := "HandLoomModel", name := "thread", desc := "(III)I" } : MethodName) prog_13_method_7_code (7 : Nat) (Option.some FieldType.int) ∈ lw_all := lw_in 647 (by decide +kernel) (by decide +kernel)
theorem qw_627 : Cond.methodLink "HandLoomModel" (46 : Nat) ({ cls := "HandLoomModel", name := "isLane", desc := "(II)Z" } : MethodName) ∈ lw_all := lw_in 648 (by decide +kernel) (by decide +kernel)
theorem qw_628 : Cond.static ({ cls := "HandLoomModel", name := "isLane", desc := "(II)Z" } : MethodName) ∈ lw_all := lw_in 649 (by decide +kernel) (by decide +kernel)
theorem qw_629 : Cond.code ({ cls := "HandLoomModel", name := "isLane", desc := "(II)Z" } : MethodName) prog_13_method_3_code (2 : Nat) (Option.some FieldType.boolean) ∈ lw_all := lw_in 650 (by decide +kernel) (by decide +kernel)
theorem qw_630 : Cond.methodLink "HandLoomModel" (38 : Nat) ({ cls := "HandLoomModel", name := "isFrame", desc := "(I)Z" } : MethodName) ∈ lw_all := lw_in 651 (by decide +kernel) (by decide +kernel)
theorem qw_631 : Cond.static ({ cls := "HandLoomModel", name := "isFrame", desc := "(I)Z" } : MethodName) ∈ lw_all := lw_in 652 (by decide +kernel) (by decide +kernel)
theorem qw_632 : Cond.code ({ cls := "HandLoomModel", name := "isFrame", desc := "(I)Z" } : MethodName) prog_13_method_2_code (1 : Nat) (Option.some FieldType.boolean) ∈ lw_all := lw_in 653 (by decide +kernel) (by decide +kernel)
theorem qw_633 : Cond.constant "HandLoomModel" (50 : Nat) (-2147483648 : Int32) ∈ lw_all := lw_in 654 (by decide +kernel) (by decide +kernel)
theorem qw_634 : Cond.methodLink "HandLoomModel" (51 : Nat) ({ cls := "HandLoomModel", name := "bad", desc := "(I)I" } : MethodName) ∈ lw_all := lw_in 655 (by decide +kernel) (by decide +kernel)
theorem qw_636 : Cond.instanceMethod ({ cls := "HandLoomModel", name := "bad", desc := "(I)I" } : MethodName) ∈ lw_all := lw_in 657 (by decide +kernel) (by decide +kernel)
theorem qw_637 : Cond.code ({ cls := "HandLoomModel", name := "bad", desc := "(I)I" } : MethodName) prog_13_method_4_code (2 : Nat) (Option.some FieldType.int) ∈ lw_all := lw_in 658 (by decide +kernel) (by decide +kernel)
theorem qw_638 : Cond.methodLink "HandLoomModel" (55 : Nat) ({ cls := "HandLoomModel", name := "isUsed", desc := "(I)Z" } : MethodName) ∈ lw_all := lw_in 659 (by decide +kernel) (by decide +kernel)
theorem qw_640 : Cond.instanceMethod ({ cls := "HandLoomModel", name := "isUsed", desc := "(I)Z" } : MethodName) ∈ lw_all := lw_in 661 (by decide +kernel) (by decide +kernel)
theorem qw_641 : Cond.code ({ cls := "HandLoomModel", name := "isUsed", desc := "(I)Z" } : MethodName) prog_13_method_8_code (4 : Nat) (Option.some FieldType.boolean) ∈ lw_all := lw_in 662 (by decide +kernel) (by decide +kernel)
theorem qw_642 : Cond.methodLink "HandLoomModel" (58 : Nat) ({ cls := "HandLoomModel", name := "good", desc := "(I)I" } : MethodName) ∈ lw_all := lw_in 663 (by decide +kernel) (by decide +kernel)
theorem qw_644 : Cond.instanceMethod ({ cls := "HandLoomModel", name := "good", desc := "(I)I" } : MethodName) ∈ lw_all := lw_in 665 (by decide +kernel) (by decide +kernel)
theorem qw_645 : Cond.code ({ cls := "HandLoomModel", name := "good", desc := "(I)I" } : MethodName) prog_13_method_5_code (2 : Nat) (Option.some FieldType.int) ∈ lw_all := lw_in 666 (by decide +kernel) (by decide +kernel)
theorem qw_646 : Cond.methodLink "HandLoomLaw" (22 : Nat) ({ cls := "HandLoomModel", name := "cut", desc := "(II)I" } : MethodName) ∈ lw_all := lw_in 667 (by decide +kernel) (by decide +kernel)
theorem qw_647 : Cond.instanceMethod ({ cls := "HandLoomModel", name := "cut", desc := "(II)I" } : MethodName) ∈ lw_all := lw_in 668 (by decide +kernel) (by decide +kernel)
theorem qw_648 : Cond.selects "HandLoomModel" ({ cls := "HandLoomModel", name := "cut", desc := "(II)I" } : MethodName) ({ cls := "HandLoomModel", name := "cut", desc := "(II)I" } : MethodName) ∈ lw_all := lw_in 669 (by decide +kernel) (by decide +kernel)
theorem qw_649 : Cond.code ({ cls := "HandLoomModel", name := "cut", desc := "(II)I" } : MethodName) prog_13_method_9_code (5 : Nat) (Option.some FieldType.int) ∈ lw_all := lw_in 670 (by decide +kernel) (by decide +kernel)
theorem qw_650 : Cond.methodLink "HandLoomLaw" (26 : Nat) ({ cls := "HandLoomModel", name := "tie", desc := "(III)I" } : MethodName) ∈ lw_all := lw_in 671 (by decide +kernel) (by decide +kernel)
theorem qw_651 : Cond.instanceMethod ({ cls := "HandLoomModel", name := "tie", desc := "(III)I" } : MethodName) ∈ lw_all := lw_in 672 (by decide +kernel) (by decide +kernel)
theorem qw_652 : Cond.selects "HandLoomModel" ({ cls := "HandLoomModel", name := "tie", desc := "(III)I" } : MethodName) ({ cls := "HandLoomModel", name := "tie", desc := "(III)I" } : MethodName) ∈ lw_all := lw_in 673 (by decide +kernel) (by decide +kernel)
theorem qw_653 : Cond.code ({ cls := "HandLoomModel", name := "tie", desc := "(III)I" } : MethodName) prog_13_method_10_code (5 : Nat) (Option.some FieldType.int) ∈ lw_all := lw_in 674 (by decide +kernel) (by decide +kernel)
theorem qw_654 : Cond.methodLink "HandLoomLaw" (30 : Nat) ({ cls := "HandLoomModel", name := "ends", desc := "(II)I" } : MethodName) ∈ lw_all := lw_in 675 (by decide +kernel) (by decide +kernel)
theorem qw_655 : Cond.instanceMethod ({ cls := "HandLoomModel", name := "ends", desc := "(II)I" } : MethodName) ∈ lw_all := lw_in 676 (by decide +kernel) (by decide +kernel)
theorem qw_656 : Cond.selects "HandLoomModel" ({ cls := "HandLoomModel", name := "ends", desc := "(II)I" } : MethodName) ({ cls := "HandLoomModel", name := "ends", desc := "(II)I" } : MethodName) ∈ lw_all := lw_in 677 (by decide +kernel) (by decide +kernel)
theorem qw_657 : Cond.code ({ cls := "HandLoomModel", name := "ends", desc := "(II)I" } : MethodName) prog_13_method_11_code (4 : Nat) (Option.some FieldType.int) ∈ lw_all := lw_in 678 (by decide +kernel) (by decide +kernel)
theorem qw_658 : Cond.methodLink "HandLoomLaw" (35 : Nat) ({ cls := "HandLoomModel", name := "spool", desc := "(I)I" } : MethodName) ∈ lw_all := lw_in 679 (by decide +kernel) (by decide +kernel)
theorem qw_659 : Cond.instanceMethod ({ cls := "HandLoomModel", name := "spool", desc := "(I)I" } : MethodName) ∈ lw_all := lw_in 680 (by decide +kernel) (by decide +kernel)
theorem qw_660 : Cond.selects "HandLoomModel" ({ cls := "HandLoomModel", name := "spool", desc := "(I)I" } : MethodName) ({ cls := "HandLoomModel", name := "spool", desc := "(I)I" } : MethodName) ∈ lw_all := lw_in 681 (by decide +kernel) (by decide +kernel)
theorem qw_661 : Cond.code ({ cls := "HandLoomModel", name := "spool", desc := "(I)I" } : MethodName) prog_13_method_12_code (2 : Nat) (Option.some FieldType.int) ∈ lw_all := lw_in 682 (by decide +kernel) (by decide +kernel)
theorem qw_662 : Cond.methodLink "HandLoomLaw" (40 : Nat) ({ cls := "HandLoomModel", name := "act", desc := "(IIIII)I" } : MethodName) ∈ lw_all := lw_in 683 (by decide +kernel) (by decide +kernel)
theorem qw_663 : Cond.instanceMethod ({ cls := "HandLoomModel", name := "act", desc := "(IIIII)I" } : MethodName) ∈ lw_all := lw_in 684 (by decide +kernel) (by decide +kernel)
theorem qw_664 : Cond.selects "HandLoomModel" ({ cls := "HandLoomModel", name := "act", desc := "(IIIII)I" } : MethodName) ({ cls := "HandLoomModel", name := "act", desc := "(IIIII)I" } : MethodName) ∈ lw_all := lw_in 685 (by decide +kernel) (by decide +kernel)
theorem qw_665 : Cond.code ({ cls := "HandLoomModel", name := "act", desc := "(IIIII)I" } : MethodName) prog_13_method_22_code (6 : Nat) (Option.some FieldType.int) ∈ lw_all := lw_in 686 (by decide +kernel) (by decide +kernel)
theorem qw_666 : Cond.methodLink "HandLoomModel" (100 : Nat) ({ cls := "HandLoomModel", name := "done", desc := "(IIIII)I" } : MethodName) ∈ lw_all := lw_in 687 (by decide +kernel) (by decide +kernel)
theorem qw_668 : Cond.instanceMethod ({ cls := "HandLoomModel", name := "done", desc := "(IIIII)I" } : MethodName) ∈ lw_all := lw_in 689 (by decide +kernel) (by decide +kernel)
theorem qw_669 : Cond.code ({ cls := "HandLoomModel", name := "done", desc := "(IIIII)I" } : MethodName) prog_13_method_21_code (10 : Nat) (Option.some FieldType.int) ∈ lw_all := lw_in 690 (by decide +kernel) (by decide +kernel)
theorem qw_670 : Cond.methodLink "HandLoomModel" (80 : Nat) ({ cls := "HandLoomModel", name := "drawn", desc := "()I" } : MethodName) ∈ lw_all := lw_in 691 (by decide +kernel) (by decide +kernel)
theorem qw_672 : Cond.instanceMethod ({ cls := "HandLoomModel", name := "drawn", desc := "()I" } : MethodName) ∈ lw_all := lw_in 693 (by decide +kernel) (by decide +kernel)
theorem qw_673 : Cond.code ({ cls := "HandLoomModel", name := "drawn", desc := "()I" } : MethodName) prog_13_method_13_code (3 : Nat) (Option.some FieldType.int) ∈ lw_all := lw_in 694 (by decide +kernel) (by decide +kernel)
theorem qw_674 : Cond.methodLink "HandLoomModel" (84 : Nat) ({ cls := "HandLoomModel", name := "wrong", desc := "(II)I" } : MethodName) ∈ lw_all := lw_in 695 (by decide +kernel) (by decide +kernel)
theorem qw_676 : Cond.instanceMethod ({ cls := "HandLoomModel", name := "wrong", desc := "(II)I" } : MethodName) ∈ lw_all := lw_in 697 (by decide +kernel) (by decide +kernel)
theorem qw_677 : Cond.code ({ cls := "HandLoomModel", name := "wrong", desc := "(II)I" } : MethodName) prog_13_method_6_code (3 : Nat) (Option.some FieldType.int) ∈ lw_all := lw_in 698 (by decide +kernel) (by decide +kernel)
theorem qw_678 : Cond.methodLink "HandLoomModel" (87 : Nat) ({ cls := "HandLoomModel", name := "lay", desc := "(III)V" } : MethodName) ∈ lw_all := lw_in 699 (by decide +kernel) (by decide +kernel)
theorem qw_680 : Cond.instanceMethod ({ cls := "HandLoomModel", name := "lay", desc := "(III)V" } : MethodName) ∈ lw_all := lw_in 701 (by decide +kernel) (by decide +kernel)
theorem qw_681 : Cond.code ({ cls := "HandLoomModel", name := "lay", desc := "(III)V" } : MethodName) prog_13_method_18_code (4 : Nat) (Option.none : Option ClassFile.FieldType) ∈ lw_all := lw_in 702 (by decide +kernel) (by decide +kernel)
theorem qw_682 : Cond.methodLink "HandLoomModel" (68 : Nat) ({ cls := "HandLoomModel", name := "eighths", desc := "(I)F" } : MethodName) ∈ lw_all := lw_in 703 (by decide +kernel) (by decide +kernel)
theorem qw_683 : Cond.static ({ cls := "HandLoomModel", name := "eighths", desc := "(I)F" } : MethodName) ∈ lw_all := lw_in 704 (by decide +kernel) (by decide +kernel)
theorem qw_684 : Cond.code ({ cls := "HandLoomModel", name := "eighths", desc := "(I)F" } : MethodName) prog_13_method_16_code (1 : Nat) (Option.some FieldType.float) ∈ lw_all := lw_in 705 (by decide +kernel) (by decide +kernel)
theorem qw_685 : Cond.constantFloat "HandLoomModel" (67 : Nat) (1090519040 : UInt32) ∈ lw_all := lw_in 706 (by decide +kernel) (by decide +kernel)
theorem qw_686 : Cond.methodLink "HandLoomModel" (72 : Nat) ({ cls := "HandLoomModel", name := "held", desc := "(F)F" } : MethodName) ∈ lw_all := lw_in 707 (by decide +kernel) (by decide +kernel)
theorem qw_687 : Cond.static ({ cls := "HandLoomModel", name := "held", desc := "(F)F" } : MethodName) ∈ lw_all := lw_in 708 (by decide +kernel) (by decide +kernel)
theorem qw_688 : Cond.code ({ cls := "HandLoomModel", name := "held", desc := "(F)F" } : MethodName) prog_13_method_15_code (1 : Nat) (Option.some FieldType.float) ∈ lw_all := lw_in 709 (by decide +kernel) (by decide +kernel)
theorem qw_689 : Cond.constantFloat "HandLoomModel" (65 : Nat) (3313500160 : UInt32) ∈ lw_all := lw_in 710 (by decide +kernel) (by decide +kernel)
theorem qw_690 : Cond.constantFloat "HandLoomModel" (66 : Nat) (1166016512 : UInt32) ∈ lw_all := lw_in 711 (by decide +kernel) (by decide +kernel)
theorem qw_691 : Cond.methodLink "HandLoomModel" (76 : Nat) ({ cls := "HandLoomModel", name := "cutTo", desc := "(II)I" } : MethodName) ∈ lw_all := lw_in 712 (by decide +kernel) (by decide +kernel)
theorem qw_692 : Cond.static ({ cls := "HandLoomModel", name := "cutTo", desc := "(II)I" } : MethodName) ∈ lw_all := lw_in 713 (by decide +kernel) (by decide +kernel)
theorem qw_693 : Cond.code ({ cls := "HandLoomModel", name := "cutTo", desc := "(II)I" } : MethodName) prog_13_method_14_code (2 : Nat) (Option.some FieldType.int) ∈ lw_all := lw_in 714 (by decide +kernel) (by decide +kernel)
theorem qw_694 : Cond.constant "HandLoomModel" (64 : Nat) (65535 : Int32) ∈ lw_all := lw_in 715 (by decide +kernel) (by decide +kernel)
theorem qw_695 : Cond.methodLink "HandLoomModel" (91 : Nat) ({ cls := "HandLoomModel", name := "pull", desc := "(III)V" } : MethodName) ∈ lw_all := lw_in 716 (by decide +kernel) (by decide +kernel)
theorem qw_697 : Cond.instanceMethod ({ cls := "HandLoomModel", name := "pull", desc := "(III)V" } : MethodName) ∈ lw_all := lw_in 718 (by decide +kernel) (by decide +kernel)
theorem qw_698 : Cond.code ({ cls := "HandLoomModel", name := "pull", desc := "(III)V" } : MethodName) prog_13_method_19_code (4 : Nat) (Option.none : Option ClassFile.FieldType) ∈ lw_all := lw_in 719 (by decide +kernel) (by decide +kernel)
theorem qw_699 : Cond.methodLink "HandLoomModel" (94 : Nat) ({ cls := "HandLoomModel", name := "part", desc := "(III)V" } : MethodName) ∈ lw_all := lw_in 720 (by decide +kernel) (by decide +kernel)
theorem qw_701 : Cond.instanceMethod ({ cls := "HandLoomModel", name := "part", desc := "(III)V" } : MethodName) ∈ lw_all := lw_in 722 (by decide +kernel) (by decide +kernel)
theorem qw_702 : Cond.code ({ cls := "HandLoomModel", name := "part", desc := "(III)V" } : MethodName) prog_13_method_20_code (4 : Nat) (Option.none : Option ClassFile.FieldType) ∈ lw_all := lw_in 723 (by decide +kernel) (by decide +kernel)
theorem qw_703 : Cond.methodLink "HandLoomModel" (97 : Nat) ({ cls := "HandLoomModel", name := "tells", desc := "(II)I" } : MethodName) ∈ lw_all := lw_in 724 (by decide +kernel) (by decide +kernel)
theorem qw_705 : Cond.instanceMethod ({ cls := "HandLoomModel", name := "tells", desc := "(II)I" } : MethodName) ∈ lw_all := lw_in 726 (by decide +kernel) (by decide +kernel)
theorem qw_706 : Cond.code ({ cls := "HandLoomModel", name := "tells", desc := "(II)I" } : MethodName) prog_13_method_17_code (3 : Nat) (Option.some FieldType.int) ∈ lw_all := lw_in 727 (by decide +kernel) (by decide +kernel)
theorem qw_707 : Cond.methodLink "HandLoomLaw" (45 : Nat) ({ cls := "HandLoomModel", name := "swap", desc := "(IIII)I" } : MethodName) ∈ lw_all := lw_in 728 (by decide +kernel) (by decide +kernel)
theorem qw_708 : Cond.instanceMethod ({ cls := "HandLoomModel", name := "swap", desc := "(IIII)I" } : MethodName) ∈ lw_all := lw_in 729 (by decide +kernel) (by decide +kernel)
theorem qw_709 : Cond.selects "HandLoomModel" ({ cls := "HandLoomModel", name := "swap", desc := "(IIII)I" } : MethodName) ({ cls := "HandLoomModel", name := "swap", desc := "(IIII)I" } : MethodName) ∈ lw_all := lw_in 730 (by decide +kernel) (by decide +kernel)
theorem qw_710 : Cond.code ({ cls := "HandLoomModel", name := "swap", desc := "(IIII)I" } : MethodName) prog_13_method_23_code (12 : Nat) (Option.some FieldType.int) ∈ lw_all := lw_in 731 (by decide +kernel) (by decide +kernel)
theorem qw_711 : Cond.methodLink "HandLoomLaw" (49 : Nat) ({ cls := "HandLoomModel", name := "cloth", desc := "(II)I" } : MethodName) ∈ lw_all := lw_in 732 (by decide +kernel) (by decide +kernel)
theorem qw_712 : Cond.instanceMethod ({ cls := "HandLoomModel", name := "cloth", desc := "(II)I" } : MethodName) ∈ lw_all := lw_in 733 (by decide +kernel) (by decide +kernel)
theorem qw_713 : Cond.selects "HandLoomModel" ({ cls := "HandLoomModel", name := "cloth", desc := "(II)I" } : MethodName) ({ cls := "HandLoomModel", name := "cloth", desc := "(II)I" } : MethodName) ∈ lw_all := lw_in 734 (by decide +kernel) (by decide +kernel)
theorem qw_714 : Cond.code ({ cls := "HandLoomModel", name := "cloth", desc := "(II)I" } : MethodName) prog_13_method_24_code (4 : Nat) (Option.some FieldType.int) ∈ lw_all := lw_in 735 (by decide +kernel) (by decide +kernel)
theorem qw_715 : Cond.methodLink "HandLoomLaw" (53 : Nat) ({ cls := "HandLoomModel", name := "snip", desc := "(I)I" } : MethodName) ∈ lw_all := lw_in 736 (by decide +kernel) (by decide +kernel)
theorem qw_716 : Cond.instanceMethod ({ cls := "HandLoomModel", name := "snip", desc := "(I)I" } : MethodName) ∈ lw_all := lw_in 737 (by decide +kernel) (by decide +kernel)
theorem qw_717 : Cond.selects "HandLoomModel" ({ cls := "HandLoomModel", name := "snip", desc := "(I)I" } : MethodName) ({ cls := "HandLoomModel", name := "snip", desc := "(I)I" } : MethodName) ∈ lw_all := lw_in 738 (by decide +kernel) (by decide +kernel)
theorem qw_718 : Cond.code ({ cls := "HandLoomModel", name := "snip", desc := "(I)I" } : MethodName) prog_13_method_27_code (4 : Nat) (Option.some FieldType.int) ∈ lw_all := lw_in 739 (by decide +kernel) (by decide +kernel)
theorem qw_719 : Cond.methodLink "HandLoomModel" (114 : Nat) ({ cls := "HandLoomModel", name := "wrongPick", desc := "(I)I" } : MethodName) ∈ lw_all := lw_in 740 (by decide +kernel) (by decide +kernel)
theorem qw_721 : Cond.instanceMethod ({ cls := "HandLoomModel", name := "wrongPick", desc := "(I)I" } : MethodName) ∈ lw_all := lw_in 742 (by decide +kernel) (by decide +kernel)
theorem qw_722 : Cond.code ({ cls := "HandLoomModel", name := "wrongPick", desc := "(I)I" } : MethodName) prog_13_method_25_code (2 : Nat) (Option.some FieldType.int) ∈ lw_all := lw_in 743 (by decide +kernel) (by decide +kernel)
theorem qw_723 : Cond.methodLink "HandLoomLaw" (57 : Nat) ({ cls := "HandLoomModel", name := "hang", desc := "(II)I" } : MethodName) ∈ lw_all := lw_in 744 (by decide +kernel) (by decide +kernel)
theorem qw_724 : Cond.instanceMethod ({ cls := "HandLoomModel", name := "hang", desc := "(II)I" } : MethodName) ∈ lw_all := lw_in 745 (by decide +kernel) (by decide +kernel)
theorem qw_725 : Cond.selects "HandLoomModel" ({ cls := "HandLoomModel", name := "hang", desc := "(II)I" } : MethodName) ({ cls := "HandLoomModel", name := "hang", desc := "(II)I" } : MethodName) ∈ lw_all := lw_in 746 (by decide +kernel) (by decide +kernel)
theorem qw_726 : Cond.code ({ cls := "HandLoomModel", name := "hang", desc := "(II)I" } : MethodName) prog_13_method_28_code (4 : Nat) (Option.some FieldType.int) ∈ lw_all := lw_in 747 (by decide +kernel) (by decide +kernel)
theorem qw_727 : Cond.methodLink "HandLoomLaw" (61 : Nat) ({ cls := "HandLoomModel", name := "cell", desc := "(II)I" } : MethodName) ∈ lw_all := lw_in 748 (by decide +kernel) (by decide +kernel)
theorem qw_728 : Cond.instanceMethod ({ cls := "HandLoomModel", name := "cell", desc := "(II)I" } : MethodName) ∈ lw_all := lw_in 749 (by decide +kernel) (by decide +kernel)
theorem qw_729 : Cond.selects "HandLoomModel" ({ cls := "HandLoomModel", name := "cell", desc := "(II)I" } : MethodName) ({ cls := "HandLoomModel", name := "cell", desc := "(II)I" } : MethodName) ∈ lw_all := lw_in 750 (by decide +kernel) (by decide +kernel)
theorem qw_730 : Cond.code ({ cls := "HandLoomModel", name := "cell", desc := "(II)I" } : MethodName) prog_13_method_29_code (4 : Nat) (Option.some FieldType.int) ∈ lw_all := lw_in 751 (by decide +kernel) (by decide +kernel)
theorem qw_731 : Cond.methodLink "HandLoomModel" (117 : Nat) ({ cls := "HandLoomModel", name := "goneOrWrong", desc := "(I)I" } : MethodName) ∈ lw_all := lw_in 752 (by decide +kernel) (by decide +kernel)
theorem qw_733 : Cond.instanceMethod ({ cls := "HandLoomModel", name := "goneOrWrong", desc := "(I)I" } : MethodName) ∈ lw_all := lw_in 754 (by decide +kernel) (by decide +kernel)
theorem qw_734 : Cond.code ({ cls := "HandLoomModel", name := "goneOrWrong", desc := "(I)I" } : MethodName) prog_13_method_26_code (3 : Nat) (Option.some FieldType.int) ∈ lw_all := lw_in 755 (by decide +kernel) (by decide +kernel)
theorem qw_735 : Cond.methodLink "HandLoomLaw" (65 : Nat) ({ cls := "HandLoomModel", name := "weave", desc := "(III)I" } : MethodName) ∈ lw_all := lw_in 756 (by decide +kernel) (by decide +kernel)
theorem qw_736 : Cond.instanceMethod ({ cls := "HandLoomModel", name := "weave", desc := "(III)I" } : MethodName) ∈ lw_all := lw_in 757 (by decide +kernel) (by decide +kernel)
theorem qw_737 : Cond.selects "HandLoomModel" ({ cls := "HandLoomModel", name := "weave", desc := "(III)I" } : MethodName) ({ cls := "HandLoomModel", name := "weave", desc := "(III)I" } : MethodName) ∈ lw_all := lw_in 758 (by decide +kernel) (by decide +kernel)
theorem qw_738 : Cond.code ({ cls := "HandLoomModel", name := "weave", desc := "(III)I" } : MethodName) prog_13_method_30_code (7 : Nat) (Option.some FieldType.int) ∈ lw_all := lw_in 759 (by decide +kernel) (by decide +kernel)
theorem qw_739 : Cond.methodLink "HandLoomModel" (120 : Nat) ({ cls := "HandLoomModel", name := "isUp", desc := "(II)Z" } : MethodName) ∈ lw_all := lw_in 760 (by decide +kernel) (by decide +kernel)
theorem qw_741 : Cond.instanceMethod ({ cls := "HandLoomModel", name := "isUp", desc := "(II)Z" } : MethodName) ∈ lw_all := lw_in 762 (by decide +kernel) (by decide +kernel)
theorem qw_742 : Cond.code ({ cls := "HandLoomModel", name := "isUp", desc := "(II)Z" } : MethodName) prog_13_method_31_code (3 : Nat) (Option.some FieldType.boolean) ∈ lw_all := lw_in 763 (by decide +kernel) (by decide +kernel)
theorem qw_743 : Cond.methodLink "HandLoomLaw" (69 : Nat) ({ cls := "HandLoomModel", name := "card", desc := "(IIIII)I" } : MethodName) ∈ lw_all := lw_in 764 (by decide +kernel) (by decide +kernel)
theorem qw_744 : Cond.instanceMethod ({ cls := "HandLoomModel", name := "card", desc := "(IIIII)I" } : MethodName) ∈ lw_all := lw_in 765 (by decide +kernel) (by decide +kernel)
theorem qw_745 : Cond.selects "HandLoomModel" ({ cls := "HandLoomModel", name := "card", desc := "(IIIII)I" } : MethodName) ({ cls := "HandLoomModel", name := "card", desc := "(IIIII)I" } : MethodName) ∈ lw_all := lw_in 766 (by decide +kernel) (by decide +kernel)
theorem qw_746 : Cond.code ({ cls := "HandLoomModel", name := "card", desc := "(IIIII)I" } : MethodName) prog_13_method_32_code (7 : Nat) (Option.some FieldType.int) ∈ lw_all := lw_in 767 (by decide +kernel) (by decide +kernel)
theorem qw_747 : Cond.methodLink "HandLoomLaw" (74 : Nat) ({ cls := "HandLoomModel", name := "unhook", desc := "()I" } : MethodName) ∈ lw_all := lw_in 768 (by decide +kernel) (by decide +kernel)
theorem qw_748 : Cond.instanceMethod ({ cls := "HandLoomModel", name := "unhook", desc := "()I" } : MethodName) ∈ lw_all := lw_in 769 (by decide +kernel) (by decide +kernel)
theorem qw_749 : Cond.selects "HandLoomModel" ({ cls := "HandLoomModel", name := "unhook", desc := "()I" } : MethodName) ({ cls := "HandLoomModel", name := "unhook", desc := "()I" } : MethodName) ∈ lw_all := lw_in 770 (by decide +kernel) (by decide +kernel)
theorem qw_750 : Cond.code ({ cls := "HandLoomModel", name := "unhook", desc := "()I" } : MethodName) prog_13_method_33_code (2 : Nat) (Option.some FieldType.int) ∈ lw_all := lw_in 771 (by decide +kernel) (by decide +kernel)
theorem qw_751 : Cond.methodLink "HandLoomLaw" (79 : Nat) ({ cls := "HandLoomModel", name := "keeper", desc := "(I)Z" } : MethodName) ∈ lw_all := lw_in 772 (by decide +kernel) (by decide +kernel)
theorem qw_752 : Cond.instanceMethod ({ cls := "HandLoomModel", name := "keeper", desc := "(I)Z" } : MethodName) ∈ lw_all := lw_in 773 (by decide +kernel) (by decide +kernel)
theorem qw_753 : Cond.selects "HandLoomModel" ({ cls := "HandLoomModel", name := "keeper", desc := "(I)Z" } : MethodName) ({ cls := "HandLoomModel", name := "keeper", desc := "(I)Z" } : MethodName) ∈ lw_all := lw_in 774 (by decide +kernel) (by decide +kernel)
theorem qw_754 : Cond.code ({ cls := "HandLoomModel", name := "keeper", desc := "(I)Z" } : MethodName) prog_13_method_34_code (2 : Nat) (Option.some FieldType.boolean) ∈ lw_all := lw_in 775 (by decide +kernel) (by decide +kernel)
theorem qw_755 : Cond.methodLink "HandLoomLaw" (83 : Nat) ({ cls := "HandLoomModel", name := "run", desc := "(I)I" } : MethodName) ∈ lw_all := lw_in 776 (by decide +kernel) (by decide +kernel)
theorem qw_756 : Cond.instanceMethod ({ cls := "HandLoomModel", name := "run", desc := "(I)I" } : MethodName) ∈ lw_all := lw_in 777 (by decide +kernel) (by decide +kernel)
theorem qw_757 : Cond.selects "HandLoomModel" ({ cls := "HandLoomModel", name := "run", desc := "(I)I" } : MethodName) ({ cls := "HandLoomModel", name := "run", desc := "(I)I" } : MethodName) ∈ lw_all := lw_in 778 (by decide +kernel) (by decide +kernel)
theorem qw_758 : Cond.code ({ cls := "HandLoomModel", name := "run", desc := "(I)I" } : MethodName) prog_13_method_35_code (5 : Nat) (Option.some FieldType.int) ∈ lw_all := lw_in 779 (by decide +kernel) (by decide +kernel)
theorem qw_759 : Cond.methodLink "HandLoomLaw" (87 : Nat) ({ cls := "HandLoomModel", name := "told", desc := "(I)I" } : MethodName) ∈ lw_all := lw_in 780 (by decide +kernel) (by decide +kernel)
theorem qw_760 : Cond.instanceMethod ({ cls := "HandLoomModel", name := "told", desc := "(I)I" } : MethodName) ∈ lw_all := lw_in 781 (by decide +kernel) (by decide +kernel)
theorem qw_761 : Cond.selects "HandLoomModel" ({ cls := "HandLoomModel", name := "told", desc := "(I)I" } : MethodName) ({ cls := "HandLoomModel", name := "told", desc := "(I)I" } : MethodName) ∈ lw_all := lw_in 782 (by decide +kernel) (by decide +kernel)
theorem qw_762 : Cond.code ({ cls := "HandLoomModel", name := "told", desc := "(I)I" } : MethodName) prog_13_method_36_code (2 : Nat) (Option.some FieldType.int) ∈ lw_all := lw_in 783 (by decide +kernel) (by decide +kernel)
end
section
/-! THE LAYER: one world of cells by their numbers (the order in which they are made), locals as a dense list, a judgement GJ that hides heap, locals and frame -/
/-- the world: cell i lies at A i and holds g i -/
def wl (N : Nat) (A : Nat → Nat) (g : Nat → va_E) : va_W := (List.range N).map (fun i => (A i, g i))
theorem wl_get {N : Nat} {A : Nat → Nat} {g : Nat → va_E} {i : Nat} (h : i < N) : (wl N A g)[i]? = some (A i, g i) := by
  simp [wl, h]
theorem wl_at {N : Nat} {A : Nat → Nat} {g : Nat → va_E} {i : Nat} {q : Nat × va_E} (h : (wl N A g)[i]? = some q) : i < N ∧ q = (A i, g i) := by
  have hl : i < N := by
    have := (List.getElem?_eq_some_iff.mp h).1
    simpa [wl] using this
  rw [wl_get hl] at h
  exact ⟨hl, (Option.some.inj h).symm⟩
theorem wl_ext {N : Nat} {A : Nat → Nat} {g g' : Nat → va_E} (h : ∀ i, i < N → g i = g' i) : wl N A g = wl N A g' := by
  unfold wl
  apply List.map_congr_left
  intro i hi
  rw [h i (List.mem_range.mp hi)]
theorem wl_set {N : Nat} {A : Nat → Nat} {g : Nat → va_E} {i : Nat} {e : va_E} : (wl N A g).set i (A i, e) = wl N A (va_up g i e) := by
  apply List.ext_getElem?
  intro j
  by_cases hj : j < N
  · rw [wl_get hj]
    by_cases hji : j = i
    · subst hji
      rw [List.getElem?_set_self (by simpa [wl] using hj)]
      simp [va_up]
    · rw [List.getElem?_set_ne (Ne.symm hji), wl_get hj]
      simp [va_up, hji]
  · rw [List.getElem?_eq_none (by simpa [wl] using hj), List.getElem?_eq_none (by simpa [wl] using hj)]
theorem wl_push {N : Nat} {A : Nat → Nat} {g : Nat → va_E} {q : Nat} {e : va_E} : wl N A g ++ [(q, e)] = wl (N + 1) (va_up A N q) (va_up g N e) := by
  unfold wl
  rw [List.range_succ, List.map_append]
  congr 1
  · apply List.map_congr_left
    intro i hi
    have : i ≠ N := Nat.ne_of_lt (List.mem_range.mp hi)
    simp [va_up, this]
  · simp [va_up]
theorem wl_D {N : Nat} {A : Nat → Nat} {g g' : Nat → va_E} {Ax : Nat → Prop} (h : va_D Ax (wl N A g)) : va_D Ax (wl N A g') := by
  refine ⟨fun i j x y hi hj hxy => ?_, fun k q hk => ?_⟩
  · obtain ⟨li, rfl⟩ := wl_at hi
    obtain ⟨lj, rfl⟩ := wl_at hj
    exact h.1 i j _ _ (wl_get li) (wl_get lj) hxy
  · obtain ⟨lk, rfl⟩ := wl_at hk
    exact h.2 k (A k, g k) (wl_get lk)
theorem wl_DT {N : Nat} {A : Nat → Nat} {g g' : Nat → va_E} {Ax Bx : Nat → Prop} (h : va_D Ax (wl N A g)) (hB : ∀ i, i < N → Bx (A i)) : va_D Bx (wl N A g') := by
  refine ⟨(wl_D (g' := g') h).1, fun k q hk => ?_⟩
  obtain ⟨lk, rfl⟩ := wl_at hk
  exact hB k lk
/-- which cells a method may change: the world's, and new ones -/
def AX (N : Nat) (A : Nat → Nat) (sz : Nat) : Nat → Prop := fun q => (∃ i, i < N ∧ q = A i) ∨ sz ≤ q
/-! locals -/
def lget : List (Option Value) → Nat → Option Value
  | [], _ => none
  | a :: _, 0 => a
  | _ :: l, n + 1 => lget l n
def lset : List (Option Value) → Nat → Value → List (Option Value)
  | [], _, _ => []
  | _ :: l, 0, v => some v :: l
  | a :: l, n + 1, v => a :: lset l n v
theorem lget_set : ∀ (l : List (Option Value)) (i : Nat) (v : Value) (j : Nat) (w : Value), lget (lset l i v) j = some w → (j = i ∧ w = v) ∨ (j ≠ i ∧ lget l j = some w)
  | [], i, v, j, w, h => by simp [lset, lget] at h
  | a :: l, 0, v, 0, w, h => by
    simp only [lset, lget, Option.some.injEq] at h
    exact Or.inl ⟨rfl, h.symm⟩
  | a :: l, 0, v, j + 1, w, h => by
    simp only [lset, lget] at h
    exact Or.inr ⟨by omega, by simpa [lget] using h⟩
  | a :: l, i + 1, v, 0, w, h => by
    simp only [lset, lget] at h
    exact Or.inr ⟨by omega, by simpa [lget] using h⟩
  | a :: l, i + 1, v, j + 1, w, h => by
    simp only [lset, lget] at h
    rcases lget_set l i v j w h with ⟨h1, h2⟩ | ⟨h1, h2⟩
    · exact Or.inl ⟨by omega, h2⟩
    · exact Or.inr ⟨by omega, by simpa [lget] using h2⟩
/-- the frame's locals: those that lv names, all of one word -/
def lh (ls : Array Slot) (nL : Nat) (lv : List (Option Value)) : Prop := ls.size = nL ∧ lv_wf ls ∧ ∀ i v, lget lv i = some v → ls[i]? = some (.val v) ∧ v.category = 1
def las (lv : List (Option Value)) (n : Nat) : List (Nat × Value) := (List.range n).filterMap (fun i => (lget lv i).map (fun v => (i, v)))
theorem las_mem {lv : List (Option Value)} {n : Nat} {q : Nat × Value} : q ∈ las lv n ↔ q.1 < n ∧ lget lv q.1 = some q.2 := by
  unfold las
  simp only [List.mem_filterMap, List.mem_range, Option.map_eq_some_iff]
  constructor
  · rintro ⟨i, hi, v, hv, rfl⟩
    exact ⟨hi, hv⟩
  · rintro ⟨h1, h2⟩
    exact ⟨q.1, h1, q.2, h2, rfl⟩
theorem lh_has {ls : Array Slot} {nL : Nat} {lv : List (Option Value)} (h : lh ls nL lv) : lv_has ls nL (las lv nL) := ⟨h.1, h.2.1, fun q hq => (h.2.2 q.1 q.2 (las_mem.mp hq).2).1⟩
theorem lh_lt {ls : Array Slot} {nL : Nat} {lv : List (Option Value)} (h : lh ls nL lv) {i : Nat} {v : Value} (hi : lget lv i = some v) : i < nL := by
  have := (h.2.2 i v hi).1
  rw [← h.1]
  exact (Array.getElem?_eq_some_iff.mp this).1
theorem lh_set {ls ls' : Array Slot} {nL : Nat} {lv : List (Option Value)} {i : Nat} {v : Value} (h : lh ls nL lv) (hc : v.category = 1) (h' : lv_has ls' nL ((i, v) :: (las lv nL).filter (fun q => !(q.1 == i) && !(q.1 + 1 == i && q.2.category == 2)))) : lh ls' nL (lset lv i v) := by
  refine ⟨h'.1, h'.2.1, fun j w hj => ?_⟩
  rcases lget_set lv i v j w hj with ⟨rfl, rfl⟩ | ⟨h1, h2⟩
  · exact ⟨h'.2.2 (j, w) List.mem_cons_self, hc⟩
  · have hc2 := (h.2.2 j w h2).2
    refine ⟨h'.2.2 (j, w) (List.mem_cons_of_mem _ (List.mem_filter.mpr ⟨las_mem.mpr ⟨lh_lt h h2, h2⟩, ?_⟩)), hc2⟩
    simp [h1, hc2]
theorem lh_args : ∀ (av : List Value) (k : Nat), (∀ v ∈ av, v.category = 1) → ∀ (i : Nat) (v : Value), lget (av.map some) i = some v → (k + i, v) ∈ lv_args k av
  | [], k, _, i, v, h => by simp [lget] at h
  | a :: l, k, hc, 0, v, h => by
    simp only [List.map_cons, lget, Option.some.injEq] at h
    subst h
    simp [lv_args]
  | a :: l, k, hc, i + 1, v, h => by
    simp only [List.map_cons, lget] at h
    have h1 := lh_args l (k + 1) (fun v hv => hc v (List.mem_cons_of_mem _ hv)) i v h
    have hca := hc a List.mem_cons_self
    simp only [lv_args, hca]
    rw [show k + (i + 1) = k + 1 + i by omega]
    exact List.mem_cons_of_mem _ (by simpa using h1)
theorem lget_app : ∀ (l : List (Option Value)) (n i : Nat) (v : Value), lget (l ++ List.replicate n none) i = some v → lget l i = some v
  | [], 0, i, v, h => by simpa using h
  | [], n + 1, 0, v, h => by simp [List.replicate, lget] at h
  | [], n + 1, i + 1, v, h => by
    have : lget ([] ++ List.replicate n none) i = some v := by simpa [List.replicate, lget] using h
    have := lget_app [] n i v this
    simp [lget] at this
  | a :: l, n, 0, v, h => by simpa [lget] using h
  | a :: l, n, i + 1, v, h => by
    have : lget (l ++ List.replicate n none) i = some v := by simpa [lget] using h
    simpa [lget] using lget_app l n i v this
theorem lget_cat {av : List Value} (hc : ∀ v ∈ av, v.category = 1) {i : Nat} {v : Value} (h : lget (av.map some) i = some v) : v ∈ av := by
  induction av generalizing i with
  | nil => simp [lget] at h
  | cons a l ih =>
    cases i with
    | zero =>
      simp only [List.map_cons, lget, Option.some.injEq] at h
      subst h
      exact List.mem_cons_self
    | succ i =>
      simp only [List.map_cons, lget] at h
      exact List.mem_cons_of_mem _ (ih (fun v hv => hc v (List.mem_cons_of_mem _ hv)) h)
theorem lh_entry (av : List Value) (n : Nat) (hc : ∀ v ∈ av, v.category = 1) (h : (lg_sl av).length ≤ n) : lh ((lg_sl av ++ List.replicate (n - (lg_sl av).length) Slot.unset).toArray) n (av.map some ++ List.replicate (n - av.length) none) := by
  have h1 := lv_entry av h
  refine ⟨h1.1, h1.2.1, fun i v hi => ?_⟩
  have hi := lget_app _ _ _ _ hi
  have hm := lh_args av 0 hc i v hi
  rw [Nat.zero_add] at hm
  exact ⟨h1.2.2 (i, v) hm, hc v (lget_cat hc hi)⟩
/-! the typed heap: every cell's shape is fixed; I: ints of cell i at place k, U: floats, P: which lane a place of the loom has -/
def up2 {α : Type} (I : Nat → Nat → α) (i k : Nat) (v : α) : Nat → Nat → α := fun a b => if a = i ∧ b = k then v else I a b
abbrev rq (f : Nat → Option Nat) : (Nat → Int32) ⊕ (Nat → Int64) ⊕ (Nat → UInt32) ⊕ (Nat → UInt64) ⊕ (Nat → Option Nat) := .inr (.inr (.inr (.inr f)))
abbrev rf (f : Nat → UInt32) : (Nat → Int32) ⊕ (Nat → Int64) ⊕ (Nat → UInt32) ⊕ (Nat → UInt64) ⊕ (Nat → Option Nat) := .inr (.inr (.inl f))
abbrev ri (f : Nat → Int32) : (Nat → Int32) ⊕ (Nat → Int64) ⊕ (Nat → UInt32) ⊕ (Nat → UInt64) ⊕ (Nat → Option Nat) := .inl f
def g_lane (A : Nat → Nat) (I : Nat → Nat → Int32) (i : Nat) : va_E :=
  if (i - 4) / 2 % 5 = 2 then .inr (6, [.int (I i 0), .ref (A (i + 1))]) else if (i - 4) / 2 % 5 = 3 then .inr (4, [.int (I i 0), .ref (A (i + 1))]) else .inr (8, [.int (I i 0), .int (nI ((i - 4) / 2 % 5)), .ref (A (i + 1))])
def g_arr (K : Nat → ClassId) (I : Nat → Nat → Int32) (U : Nat → Nat → UInt32) (i : Nat) : va_E :=
  if (i - 5) / 2 % 5 = 2 then .inl (K 2, 24, rf (U i)) else if (i - 5) / 2 % 5 = 3 then .inl (K 1, 24, ri (I i)) else .inl (K 0, 24, ri (I i))
def gg (A : Nat → Nat) (K : Nat → ClassId) (I : Nat → Nat → Int32) (U : Nat → Nat → UInt32) (P : Nat → Option Nat) (i : Nat) : va_E :=
  if 4 ≤ i ∧ i < 44 then (if i % 2 = 0 then g_lane A I i else g_arr K I U i)
  else if 51 ≤ i ∧ i < 63 then .inr (0, [.int (I i 0), .int (I i 1), .int (I i 2), .int (I i 3), .int (I i 4)])
  else if i = 0 then .inr (9, [.ref (A 1), .ref (A 44), .ref (A 46), .ref (A 49), .ref (A 63), .int (I i 5), .int (I i 6), .int (I i 7)])
  else if i = 1 then .inr (7, [.ref (A 2), .ref (A 3)])
  else if i = 2 then .inl (K 3, 20, rq (fun k => some (A (4 + 2 * k))))
  else if i = 3 then .inl (K 3, 20, rq (fun j => (P j).map (fun k => A (4 + 2 * k))))
  else if i = 44 then .inr (5, [.ref (A 45), .int (I i 1), .int (I i 2)])
  else if i = 45 then .inl (K 0, 16, ri (I i))
  else if i = 46 then .inr (1, [.ref (A 47), .ref (A 48), .int (I i 2), .int (I i 3), .int (I i 4)])
  else if i = 47 then .inl (K 0, 576, ri (I i))
  else if i = 48 then .inl (K 0, 24, ri (I i))
  else if i = 49 then .inr (2, [.ref (A 50), .int (I i 1)])
  else if i = 50 then .inl (K 4, 12, rq (fun j => some (A (51 + j))))
  else if i = 63 then .inr (3, [.ref (A 64), .int (I i 1)])
  else if i = 64 then .inl (K 0, 6, ri (I i))
  else if i = 65 then .inr (10, [.ref (A 66), .ref (A 67), .ref (A 68), .ref (A 69), .ref (A 70), .int (I i 5), .int (I i 6), .int (I i 7), .int (I i 8), .ref (A 71), .ref (A 72), .ref (A 73), .int (I i 12), .int (I i 13), .int (I i 14), .ref (A 74), .int (I i 16), .int (I i 17)])
  else if i = 66 then .inl (K 0, 20, ri (I i))
  else if i = 67 then .inl (K 0, 20, ri (I i))
  else if i = 68 then .inl (K 0, 480, ri (I i))
  else if i = 69 then .inl (K 2, 480, rf (U i))
  else if i = 70 then .inl (K 0, 16, ri (I i))
  else if i = 71 then .inl (K 0, 24, ri (I i))
  else if i = 72 then .inl (K 0, 576, ri (I i))
  else if i = 73 then .inl (K 0, 60, ri (I i))
  else .inl (K 0, 6, ri (I i))
theorem gg_same {A : Nat → Nat} {K : Nat → ClassId} {I I' : Nat → Nat → Int32} {U U' : Nat → Nat → UInt32} {P P' : Nat → Option Nat} {i : Nat} (hI : I i = I' i) (hU : U i = U' i) (hP : i = 3 → P = P') : gg A K I U P i = gg A K I' U' P' i := by
  by_cases h3 : i = 3
  · have hPP := hP h3
    subst hPP
    subst h3
    rfl
  · unfold gg g_lane g_arr
    rw [hI, hU]
    simp only [h3, if_false]
section GG
variable {A : Nat → Nat} {K : Nat → ClassId} {I : Nat → Nat → Int32} {U : Nat → Nat → UInt32} {P : Nat → Option Nat}
theorem gg_0 : gg A K I U P 0 = .inr (9, [.ref (A 1), .ref (A 44), .ref (A 46), .ref (A 49), .ref (A 63), .int (I 0 5), .int (I 0 6), .int (I 0 7)]) := rfl
theorem gg_1 : gg A K I U P 1 = .inr (7, [.ref (A 2), .ref (A 3)]) := rfl
theorem gg_2 : gg A K I U P 2 = .inl (K 3, 20, rq (fun k => some (A (4 + 2 * k)))) := rfl
theorem gg_3 : gg A K I U P 3 = .inl (K 3, 20, rq (fun j => (P j).map (fun k => A (4 + 2 * k)))) := rfl
theorem gg_44 : gg A K I U P 44 = .inr (5, [.ref (A 45), .int (I 44 1), .int (I 44 2)]) := rfl
theorem gg_45 : gg A K I U P 45 = .inl (K 0, 16, ri (I 45)) := rfl
theorem gg_46 : gg A K I U P 46 = .inr (1, [.ref (A 47), .ref (A 48), .int (I 46 2), .int (I 46 3), .int (I 46 4)]) := rfl
theorem gg_47 : gg A K I U P 47 = .inl (K 0, 576, ri (I 47)) := rfl
theorem gg_48 : gg A K I U P 48 = .inl (K 0, 24, ri (I 48)) := rfl
theorem gg_49 : gg A K I U P 49 = .inr (2, [.ref (A 50), .int (I 49 1)]) := rfl
theorem gg_50 : gg A K I U P 50 = .inl (K 4, 12, rq (fun j => some (A (51 + j)))) := rfl
theorem gg_63 : gg A K I U P 63 = .inr (3, [.ref (A 64), .int (I 63 1)]) := rfl
theorem gg_64 : gg A K I U P 64 = .inl (K 0, 6, ri (I 64)) := rfl
theorem gg_65 : gg A K I U P 65 = .inr (10, [.ref (A 66), .ref (A 67), .ref (A 68), .ref (A 69), .ref (A 70), .int (I 65 5), .int (I 65 6), .int (I 65 7), .int (I 65 8), .ref (A 71), .ref (A 72), .ref (A 73), .int (I 65 12), .int (I 65 13), .int (I 65 14), .ref (A 74), .int (I 65 16), .int (I 65 17)]) := rfl
theorem gg_66 : gg A K I U P 66 = .inl (K 0, 20, ri (I 66)) := rfl
theorem gg_67 : gg A K I U P 67 = .inl (K 0, 20, ri (I 67)) := rfl
theorem gg_68 : gg A K I U P 68 = .inl (K 0, 480, ri (I 68)) := rfl
theorem gg_69 : gg A K I U P 69 = .inl (K 2, 480, rf (U 69)) := rfl
theorem gg_70 : gg A K I U P 70 = .inl (K 0, 16, ri (I 70)) := rfl
theorem gg_71 : gg A K I U P 71 = .inl (K 0, 24, ri (I 71)) := rfl
theorem gg_72 : gg A K I U P 72 = .inl (K 0, 576, ri (I 72)) := rfl
theorem gg_73 : gg A K I U P 73 = .inl (K 0, 60, ri (I 73)) := rfl
theorem gg_74 : gg A K I U P 74 = .inl (K 0, 6, ri (I 74)) := rfl
theorem gg_cd {j : Nat} (h : j < 12) : gg A K I U P (51 + j) = .inr (0, [.int (I (51 + j) 0), .int (I (51 + j) 1), .int (I (51 + j) 2), .int (I (51 + j) 3), .int (I (51 + j) 4)]) := by
  unfold gg
  rw [if_neg (by omega), if_pos (by omega)]
theorem gg_lane {k : Nat} (h : k < 20) : gg A K I U P (4 + 2 * k) = if k % 5 = 2 then .inr (6, [.int (I (4 + 2 * k) 0), .ref (A (5 + 2 * k))]) else if k % 5 = 3 then .inr (4, [.int (I (4 + 2 * k) 0), .ref (A (5 + 2 * k))]) else .inr (8, [.int (I (4 + 2 * k) 0), .int (nI (k % 5)), .ref (A (5 + 2 * k))]) := by
  unfold gg g_lane
  rw [if_pos (by omega), if_pos (by omega), show (4 + 2 * k - 4) / 2 = k by omega, show 4 + 2 * k + 1 = 5 + 2 * k by omega]
theorem gg_larr {k : Nat} (h : k < 20) : gg A K I U P (5 + 2 * k) = if k % 5 = 2 then .inl (K 2, 24, rf (U (5 + 2 * k))) else if k % 5 = 3 then .inl (K 1, 24, ri (I (5 + 2 * k))) else .inl (K 0, 24, ri (I (5 + 2 * k))) := by
  unfold gg g_arr
  rw [if_pos (by omega), if_neg (by omega), show (5 + 2 * k - 5) / 2 = k by omega]
theorem gg_laneT {k : Nat} (h : k < 20) (h2 : k % 5 = 2) : gg A K I U P (4 + 2 * k) = .inr (6, [.int (I (4 + 2 * k) 0), .ref (A (5 + 2 * k))]) := by rw [gg_lane h, if_pos h2]
theorem gg_laneL {k : Nat} (h : k < 20) (h2 : k % 5 = 3) : gg A K I U P (4 + 2 * k) = .inr (4, [.int (I (4 + 2 * k) 0), .ref (A (5 + 2 * k))]) := by rw [gg_lane h, if_neg (by omega), if_pos h2]
theorem gg_laneW {k : Nat} (h : k < 20) (h2 : ¬ k % 5 = 2) (h3 : ¬ k % 5 = 3) : gg A K I U P (4 + 2 * k) = .inr (8, [.int (I (4 + 2 * k) 0), .int (nI (k % 5)), .ref (A (5 + 2 * k))]) := by rw [gg_lane h, if_neg h2, if_neg h3]
theorem gg_larrT {k : Nat} (h : k < 20) (h2 : k % 5 = 2) : gg A K I U P (5 + 2 * k) = .inl (K 2, 24, rf (U (5 + 2 * k))) := by rw [gg_larr h, if_pos h2]
theorem gg_larrL {k : Nat} (h : k < 20) (h2 : k % 5 = 3) : gg A K I U P (5 + 2 * k) = .inl (K 1, 24, ri (I (5 + 2 * k))) := by rw [gg_larr h, if_neg (by omega), if_pos h2]
theorem gg_larrW {k : Nat} (h : k < 20) (h2 : ¬ k % 5 = 2) (h3 : ¬ k % 5 = 3) : gg A K I U P (5 + 2 * k) = .inl (K 0, 24, ri (I (5 + 2 * k))) := by rw [gg_larr h, if_neg h2, if_neg h3]
/-- a cell of ints is written: the world is that of the written ints -/
theorem wl_upI {i k : Nat} {v : Int32} {e : va_E} (he : e = gg A K (up2 I i k v) U P i) : wl 75 A (va_up (gg A K I U P) i e) = wl 75 A (gg A K (up2 I i k v) U P) := by
  apply wl_ext
  intro j _
  by_cases hj : j = i
  · subst hj
    rw [va_up_self, he]
  · rw [va_up_ne _ _ hj]
    exact gg_same (by funext b; simp [up2, hj]) rfl (fun _ => rfl)
theorem wl_upU {i k : Nat} {v : UInt32} {e : va_E} (he : e = gg A K I (up2 U i k v) P i) : wl 75 A (va_up (gg A K I U P) i e) = wl 75 A (gg A K I (up2 U i k v) P) := by
  apply wl_ext
  intro j _
  by_cases hj : j = i
  · subst hj
    rw [va_up_self, he]
  · rw [va_up_ne _ _ hj]
    exact gg_same rfl (by funext b; simp [up2, hj]) (fun _ => rfl)
theorem wl_upP {j : Nat} {r : Option Nat} {e : va_E} (he : e = gg A K I U (va_up P j r) 3) : wl 75 A (va_up (gg A K I U P) 3 e) = wl 75 A (gg A K I U (va_up P j r)) := by
  apply wl_ext
  intro a _
  by_cases hj : a = 3
  · subst hj
    rw [va_up_self, he]
  · rw [va_up_ne _ _ hj]
    exact gg_same rfl rfl (fun h => absurd h hj)
end GG
end
section
def tyl (K : Nat → ClassId) : List (ClassId × FieldType) := [(K 0, .int), (K 1, .boolean), (K 2, .float), (K 3, .object "HandLoom$Lane"), (K 4, .object "HandLoom$Card")]
/-- what is known all through a method -/
def CX (p : Program) (s : State) (m : MethodId) (args : Array Value) (meth : Method) (c : Code) (own : String) (cc : ByteArray) (nL : Nat) (ret : Option FieldType) (D : va_G) (K : Nat → ClassId) (Ax : Nat → Prop) : Prop :=
  p.tables.exec = Jvm.exec ∧ c.code = cc ∧ c.maxLocals = nL ∧ s.vm.findClass own = some m.cls ∧ (∀ w ∈ lw_all, w.before args s = true) ∧ meth.sig.returnType = ret ∧ meth.locks = false ∧ va_K D vwCl (tyl K) s ∧ NW s ∧ (∀ q, s.heap.size ≤ q → Ax q)
/-- the machine at pc with locals lv and stack st, the world (N, A, g), comes to Q -/
def GJ (p : Program) (l : Launch) (e : Env) (R : Room) (s : State) (m : MethodId) (args : Array Value) (below : List Frame) (meth : Method) (c : Code) (nL : Nat) (D : va_G) (Ax : Nat → Prop) (Q : State → Prop) (N : Nat) (A : Nat → Nat) (g : Nat → va_E) (cs sl pc : Nat) (lv : List (Option Value)) (st : List Value) : Prop :=
  ∀ (H : Heap) (locs : List Loc) (ls : Array Slot), va_P D vwCl (wl N A g) H → va_D Ax (wl N A g) → va_S Ax s.heap H locs → lh ls nL lv → W p l e R s m args below meth c H locs cs sl Q (F0 m pc ls st)
section RW
variable {p : Program} {l : Launch} {e : Env} {R : Room} {s : State} {m : MethodId} {args : Array Value} {below : List Frame} {meth : Method} {c : Code} {nL : Nat} {D : va_G} {Ax : Nat → Prop} {Q : State → Prop}
variable {N : Nat} {A : Nat → Nat} {g : Nat → va_E} {cs sl pc : Nat} {lv : List (Option Value)} {st : List Value} {own : String} {cc : ByteArray} {ret : Option FieldType} {K : Nat → ClassId}

theorem jx_iconst {n : Int} {v : Int32} (C : CX p s m args meth c own cc nL ret D K Ax) (hd : decode cc pc = .ok (.iconst n, 1)) (hv : Int32.ofInt n = v) (k : GJ p l e R s m args below meth c nL D Ax Q N A g cs sl (pc + 1) lv (.int v :: st)) : GJ p l e R s m args below meth c nL D Ax Q N A g cs sl pc lv st := fun H locs ls hP hD hS hl => lv_iconst C.1 C.2.1 hd hv (k H locs ls hP hD hS hl)
theorem jx_bipush {n : Int} {v : Int32} (C : CX p s m args meth c own cc nL ret D K Ax) (hd : decode cc pc = .ok (.bipush n, 2)) (hv : (Int8.ofInt n).toInt32 = v) (k : GJ p l e R s m args below meth c nL D Ax Q N A g cs sl (pc + 2) lv (.int v :: st)) : GJ p l e R s m args below meth c nL D Ax Q N A g cs sl pc lv st := fun H locs ls hP hD hS hl => lv_bipush C.1 C.2.1 hd hv (k H locs ls hP hD hS hl)
theorem jx_sipush {n : Int} {v : Int32} (C : CX p s m args meth c own cc nL ret D K Ax) (hd : decode cc pc = .ok (.sipush n, 3)) (hv : (Int16.ofInt n).toInt32 = v) (k : GJ p l e R s m args below meth c nL D Ax Q N A g cs sl (pc + 3) lv (.int v :: st)) : GJ p l e R s m args below meth c nL D Ax Q N A g cs sl pc lv st := fun H locs ls hP hD hS hl => lv_sipush C.1 C.2.1 hd hv (k H locs ls hP hD hS hl)
theorem jx_iadd {x y : Int32} (C : CX p s m args meth c own cc nL ret D K Ax) (hd : decode cc pc = .ok (.iadd, 1))  (k : GJ p l e R s m args below meth c nL D Ax Q N A g cs sl (pc + 1) lv (.int (x + y) :: st)) : GJ p l e R s m args below meth c nL D Ax Q N A g cs sl pc lv (.int y :: .int x :: st) := fun H locs ls hP hD hS hl => lv_iadd C.1 C.2.1 hd  (k H locs ls hP hD hS hl)
theorem jx_isub {x y : Int32} (C : CX p s m args meth c own cc nL ret D K Ax) (hd : decode cc pc = .ok (.isub, 1))  (k : GJ p l e R s m args below meth c nL D Ax Q N A g cs sl (pc + 1) lv (.int (x - y) :: st)) : GJ p l e R s m args below meth c nL D Ax Q N A g cs sl pc lv (.int y :: .int x :: st) := fun H locs ls hP hD hS hl => lv_isub C.1 C.2.1 hd  (k H locs ls hP hD hS hl)
theorem jx_imul {x y : Int32} (C : CX p s m args meth c own cc nL ret D K Ax) (hd : decode cc pc = .ok (.imul, 1))  (k : GJ p l e R s m args below meth c nL D Ax Q N A g cs sl (pc + 1) lv (.int (x * y) :: st)) : GJ p l e R s m args below meth c nL D Ax Q N A g cs sl pc lv (.int y :: .int x :: st) := fun H locs ls hP hD hS hl => lv_imul C.1 C.2.1 hd  (k H locs ls hP hD hS hl)
theorem jx_iand {x y : Int32} (C : CX p s m args meth c own cc nL ret D K Ax) (hd : decode cc pc = .ok (.iand, 1))  (k : GJ p l e R s m args below meth c nL D Ax Q N A g cs sl (pc + 1) lv (.int (x &&& y) :: st)) : GJ p l e R s m args below meth c nL D Ax Q N A g cs sl pc lv (.int y :: .int x :: st) := fun H locs ls hP hD hS hl => lv_iand C.1 C.2.1 hd  (k H locs ls hP hD hS hl)
theorem jx_ixor {x y : Int32} (C : CX p s m args meth c own cc nL ret D K Ax) (hd : decode cc pc = .ok (.ixor, 1))  (k : GJ p l e R s m args below meth c nL D Ax Q N A g cs sl (pc + 1) lv (.int (x ^^^ y) :: st)) : GJ p l e R s m args below meth c nL D Ax Q N A g cs sl pc lv (.int y :: .int x :: st) := fun H locs ls hP hD hS hl => lv_ixor C.1 C.2.1 hd  (k H locs ls hP hD hS hl)
theorem jx_ishl {x y : Int32} (C : CX p s m args meth c own cc nL ret D K Ax) (hd : decode cc pc = .ok (.ishl, 1))  (k : GJ p l e R s m args below meth c nL D Ax Q N A g cs sl (pc + 1) lv (.int (x <<< (y &&& 31)) :: st)) : GJ p l e R s m args below meth c nL D Ax Q N A g cs sl pc lv (.int y :: .int x :: st) := fun H locs ls hP hD hS hl => lv_ishl C.1 C.2.1 hd  (k H locs ls hP hD hS hl)
theorem jx_ishr {x y : Int32} (C : CX p s m args meth c own cc nL ret D K Ax) (hd : decode cc pc = .ok (.ishr, 1))  (k : GJ p l e R s m args below meth c nL D Ax Q N A g cs sl (pc + 1) lv (.int (x >>> (y &&& 31)) :: st)) : GJ p l e R s m args below meth c nL D Ax Q N A g cs sl pc lv (.int y :: .int x :: st) := fun H locs ls hP hD hS hl => lv_ishr C.1 C.2.1 hd  (k H locs ls hP hD hS hl)
theorem jx_idiv {x y : Int32} (C : CX p s m args meth c own cc nL ret D K Ax) (hd : decode cc pc = .ok (.idiv, 1)) (hne : ¬ y = 0) (k : GJ p l e R s m args below meth c nL D Ax Q N A g cs sl (pc + 1) lv (.int (x / y) :: st)) : GJ p l e R s m args below meth c nL D Ax Q N A g cs sl pc lv (.int y :: .int x :: st) := fun H locs ls hP hD hS hl => lv_idiv C.1 C.2.1 hd hne (k H locs ls hP hD hS hl)
theorem jx_irem {x y : Int32} (C : CX p s m args meth c own cc nL ret D K Ax) (hd : decode cc pc = .ok (.irem, 1)) (hne : ¬ y = 0) (k : GJ p l e R s m args below meth c nL D Ax Q N A g cs sl (pc + 1) lv (.int (x - x / y * y) :: st)) : GJ p l e R s m args below meth c nL D Ax Q N A g cs sl pc lv (.int y :: .int x :: st) := fun H locs ls hP hD hS hl => lv_irem C.1 C.2.1 hd hne (k H locs ls hP hD hS hl)
theorem jx_ineg {x : Int32} (C : CX p s m args meth c own cc nL ret D K Ax) (hd : decode cc pc = .ok (.ineg, 1))  (k : GJ p l e R s m args below meth c nL D Ax Q N A g cs sl (pc + 1) lv (.int (-x) :: st)) : GJ p l e R s m args below meth c nL D Ax Q N A g cs sl pc lv (.int x :: st) := fun H locs ls hP hD hS hl => lv_ineg C.1 C.2.1 hd  (k H locs ls hP hD hS hl)
theorem jx_i2b {x : Int32} (C : CX p s m args meth c own cc nL ret D K Ax) (hd : decode cc pc = .ok (.i2b, 1))  (k : GJ p l e R s m args below meth c nL D Ax Q N A g cs sl (pc + 1) lv (.int x.toInt8.toInt32 :: st)) : GJ p l e R s m args below meth c nL D Ax Q N A g cs sl pc lv (.int x :: st) := fun H locs ls hP hD hS hl => lv_i2b C.1 C.2.1 hd rfl (k H locs ls hP hD hS hl)
theorem jx_i2s {x : Int32} (C : CX p s m args meth c own cc nL ret D K Ax) (hd : decode cc pc = .ok (.i2s, 1))  (k : GJ p l e R s m args below meth c nL D Ax Q N A g cs sl (pc + 1) lv (.int x.toInt16.toInt32 :: st)) : GJ p l e R s m args below meth c nL D Ax Q N A g cs sl pc lv (.int x :: st) := fun H locs ls hP hD hS hl => lv_i2s C.1 C.2.1 hd rfl (k H locs ls hP hD hS hl)
theorem jx_i2c {x : Int32} (C : CX p s m args meth c own cc nL ret D K Ax) (hd : decode cc pc = .ok (.i2c, 1))  (k : GJ p l e R s m args below meth c nL D Ax Q N A g cs sl (pc + 1) lv (.int (x.toUInt32 % 65536).toInt32 :: st)) : GJ p l e R s m args below meth c nL D Ax Q N A g cs sl pc lv (.int x :: st) := fun H locs ls hP hD hS hl => lv_i2c C.1 C.2.1 hd rfl (k H locs ls hP hD hS hl)
theorem jx_dup {va : Value} (C : CX p s m args meth c own cc nL ret D K Ax) (hd : decode cc pc = .ok (.dup, 1)) (h1 : va.category = 1) (k : GJ p l e R s m args below meth c nL D Ax Q N A g cs sl (pc + 1) lv (va :: va :: st)) : GJ p l e R s m args below meth c nL D Ax Q N A g cs sl pc lv (va :: st) := fun H locs ls hP hD hS hl => lv_dup C.1 C.2.1 hd h1 (k H locs ls hP hD hS hl)
theorem jx_pop {va : Value} (C : CX p s m args meth c own cc nL ret D K Ax) (hd : decode cc pc = .ok (.pop, 1)) (h1 : va.category = 1) (k : GJ p l e R s m args below meth c nL D Ax Q N A g cs sl (pc + 1) lv st) : GJ p l e R s m args below meth c nL D Ax Q N A g cs sl pc lv (va :: st) := fun H locs ls hP hD hS hl => lv_pop C.1 C.2.1 hd h1 (k H locs ls hP hD hS hl)
theorem jx_dup2 {va vb : Value} (C : CX p s m args meth c own cc nL ret D K Ax) (hd : decode cc pc = .ok (.dup2, 1)) (h1 : va.category = 1) (h2 : vb.category = 1) (k : GJ p l e R s m args below meth c nL D Ax Q N A g cs sl (pc + 1) lv (va :: vb :: va :: vb :: st)) : GJ p l e R s m args below meth c nL D Ax Q N A g cs sl pc lv (va :: vb :: st) := fun H locs ls hP hD hS hl => lv_dup2_11 C.1 C.2.1 hd h1 h2 (k H locs ls hP hD hS hl)
theorem jx_fconst0  (C : CX p s m args meth c own cc nL ret D K Ax) (hd : decode cc pc = .ok (.fconst 0, 1))  (k : GJ p l e R s m args below meth c nL D Ax Q N A g cs sl (pc + 1) lv (.float FP.fconst0 :: st)) : GJ p l e R s m args below meth c nL D Ax Q N A g cs sl pc lv st := fun H locs ls hP hD hS hl => lv_fconst0 C.1 C.2.1 hd  (k H locs ls hP hD hS hl)
theorem jx_fconst1  (C : CX p s m args meth c own cc nL ret D K Ax) (hd : decode cc pc = .ok (.fconst 1, 1))  (k : GJ p l e R s m args below meth c nL D Ax Q N A g cs sl (pc + 1) lv (.float FP.fconst1 :: st)) : GJ p l e R s m args below meth c nL D Ax Q N A g cs sl pc lv st := fun H locs ls hP hD hS hl => lv_fconst1 C.1 C.2.1 hd  (k H locs ls hP hD hS hl)
theorem jx_fadd {x y : UInt32} (C : CX p s m args meth c own cc nL ret D K Ax) (hd : decode cc pc = .ok (.fadd, 1)) (hne : vf_n32 (FP.fadd x y)) (k : GJ p l e R s m args below meth c nL D Ax Q N A g cs sl (pc + 1) lv (.float (FP.fadd x y) :: st)) : GJ p l e R s m args below meth c nL D Ax Q N A g cs sl pc lv (.float y :: .float x :: st) := fun H locs ls hP hD hS hl => lv_fadd C.1 C.2.1 hd hne (k H locs ls hP hD hS hl)
theorem jx_fdiv {x y : UInt32} (C : CX p s m args meth c own cc nL ret D K Ax) (hd : decode cc pc = .ok (.fdiv, 1)) (hne : vf_n32 (FP.fdiv x y)) (k : GJ p l e R s m args below meth c nL D Ax Q N A g cs sl (pc + 1) lv (.float (FP.fdiv x y) :: st)) : GJ p l e R s m args below meth c nL D Ax Q N A g cs sl pc lv (.float y :: .float x :: st) := fun H locs ls hP hD hS hl => lv_fdiv C.1 C.2.1 hd hne (k H locs ls hP hD hS hl)
theorem jx_fmul {x y : UInt32} (C : CX p s m args meth c own cc nL ret D K Ax) (hd : decode cc pc = .ok (.fmul, 1)) (hne : vf_n32 (FP.fmul x y)) (k : GJ p l e R s m args below meth c nL D Ax Q N A g cs sl (pc + 1) lv (.float (FP.fmul x y) :: st)) : GJ p l e R s m args below meth c nL D Ax Q N A g cs sl pc lv (.float y :: .float x :: st) := fun H locs ls hP hD hS hl => lv_fmul C.1 C.2.1 hd hne (k H locs ls hP hD hS hl)
theorem jx_fcmp {x y : UInt32} {op : CmpOp} (C : CX p s m args meth c own cc nL ret D K Ax) (hd : decode cc pc = .ok (.fcmp op, 1))  (k : GJ p l e R s m args below meth c nL D Ax Q N A g cs sl (pc + 1) lv (.int (Op.cmpValue (FP.fcmp x y) op) :: st)) : GJ p l e R s m args below meth c nL D Ax Q N A g cs sl pc lv (.float y :: .float x :: st) := fun H locs ls hP hD hS hl => lv_fcmp C.1 C.2.1 hd  (k H locs ls hP hD hS hl)
theorem jx_i2f {x : Int32} (C : CX p s m args meth c own cc nL ret D K Ax) (hd : decode cc pc = .ok (.i2f, 1))  (k : GJ p l e R s m args below meth c nL D Ax Q N A g cs sl (pc + 1) lv (.float (FP.i2f x) :: st)) : GJ p l e R s m args below meth c nL D Ax Q N A g cs sl pc lv (.int x :: st) := fun H locs ls hP hD hS hl => lv_i2f C.1 C.2.1 hd  (k H locs ls hP hD hS hl)
theorem jx_f2i {x : UInt32} (C : CX p s m args meth c own cc nL ret D K Ax) (hd : decode cc pc = .ok (.f2i, 1))  (k : GJ p l e R s m args below meth c nL D Ax Q N A g cs sl (pc + 1) lv (.int (FP.f2i x) :: st)) : GJ p l e R s m args below meth c nL D Ax Q N A g cs sl pc lv (.float x :: st) := fun H locs ls hP hD hS hl => lv_f2i C.1 C.2.1 hd  (k H locs ls hP hD hS hl)
theorem jx_null  (C : CX p s m args meth c own cc nL ret D K Ax) (hd : decode cc pc = .ok (.aconst_null, 1))  (k : GJ p l e R s m args below meth c nL D Ax Q N A g cs sl (pc + 1) lv (.null :: st)) : GJ p l e R s m args below meth c nL D Ax Q N A g cs sl pc lv st := fun H locs ls hP hD hS hl => lv_null C.1 C.2.1 hd  (k H locs ls hP hD hS hl)
theorem jx_ldc {i : Nat} {v : Int32} (C : CX p s m args meth c own cc nL ret D K Ax) (hd : decode cc pc = .ok (.ldc i, 2)) (hw : Cond.constant own i v ∈ lw_all) (k : GJ p l e R s m args below meth c nL D Ax Q N A g cs sl (pc + 2) lv (.int v :: st)) : GJ p l e R s m args below meth c nL D Ax Q N A g cs sl pc lv st := fun H locs ls hP hD hS hl => lv_ldc C.1 C.2.1 C.2.2.2.1 (C.2.2.2.2.1 _ hw) hd (k H locs ls hP hD hS hl)
theorem jx_ldcf {i : Nat} {v : UInt32} (C : CX p s m args meth c own cc nL ret D K Ax) (hd : decode cc pc = .ok (.ldc i, 2)) (hw : Cond.constantFloat own i v ∈ lw_all) (k : GJ p l e R s m args below meth c nL D Ax Q N A g cs sl (pc + 2) lv (.float v :: st)) : GJ p l e R s m args below meth c nL D Ax Q N A g cs sl pc lv st := fun H locs ls hP hD hS hl => lv_ldcf C.1 C.2.1 C.2.2.2.1 (C.2.2.2.2.1 _ hw) hd (k H locs ls hP hD hS hl)
theorem jx_iload_n {i : Fin 4} {x : Int32} (C : CX p s m args meth c own cc nL ret D K Ax) (hd : decode cc pc = .ok (.iload_n i, 1)) (hv : lget lv i = some (.int x)) (k : GJ p l e R s m args below meth c nL D Ax Q N A g cs sl (pc + 1) lv ((.int x) :: st)) : GJ p l e R s m args below meth c nL D Ax Q N A g cs sl pc lv st := fun H locs ls hP hD hS hl => lv_iload_n C.1 C.2.1 hd rfl (hl.2.2 _ _ hv).1 (k H locs ls hP hD hS hl)
theorem jx_iload {i : Nat} {x : Int32} (C : CX p s m args meth c own cc nL ret D K Ax) (hd : decode cc pc = .ok (.iload i, 2)) (hv : lget lv i = some (.int x)) (k : GJ p l e R s m args below meth c nL D Ax Q N A g cs sl (pc + 2) lv ((.int x) :: st)) : GJ p l e R s m args below meth c nL D Ax Q N A g cs sl pc lv st := fun H locs ls hP hD hS hl => lv_iload C.1 C.2.1 hd (hl.2.2 _ _ hv).1 (k H locs ls hP hD hS hl)
theorem jx_aload_n {i : Fin 4} {x : Nat} (C : CX p s m args meth c own cc nL ret D K Ax) (hd : decode cc pc = .ok (.aload_n i, 1)) (hv : lget lv i = some (.ref x)) (k : GJ p l e R s m args below meth c nL D Ax Q N A g cs sl (pc + 1) lv ((.ref x) :: st)) : GJ p l e R s m args below meth c nL D Ax Q N A g cs sl pc lv st := fun H locs ls hP hD hS hl => lv_aload_n C.1 C.2.1 hd rfl (hl.2.2 _ _ hv).1 (k H locs ls hP hD hS hl)
theorem jx_aload {i : Nat} {x : Nat} (C : CX p s m args meth c own cc nL ret D K Ax) (hd : decode cc pc = .ok (.aload i, 2)) (hv : lget lv i = some (.ref x)) (k : GJ p l e R s m args below meth c nL D Ax Q N A g cs sl (pc + 2) lv ((.ref x) :: st)) : GJ p l e R s m args below meth c nL D Ax Q N A g cs sl pc lv st := fun H locs ls hP hD hS hl => lv_aload C.1 C.2.1 hd (hl.2.2 _ _ hv).1 (k H locs ls hP hD hS hl)
theorem jx_aload_nN {i : Fin 4}  (C : CX p s m args meth c own cc nL ret D K Ax) (hd : decode cc pc = .ok (.aload_n i, 1)) (hv : lget lv i = some .null) (k : GJ p l e R s m args below meth c nL D Ax Q N A g cs sl (pc + 1) lv (.null :: st)) : GJ p l e R s m args below meth c nL D Ax Q N A g cs sl pc lv st := fun H locs ls hP hD hS hl => lv_aload_nN C.1 C.2.1 hd rfl (hl.2.2 _ _ hv).1 (k H locs ls hP hD hS hl)
theorem jx_aloadN {i : Nat}  (C : CX p s m args meth c own cc nL ret D K Ax) (hd : decode cc pc = .ok (.aload i, 2)) (hv : lget lv i = some .null) (k : GJ p l e R s m args below meth c nL D Ax Q N A g cs sl (pc + 2) lv (.null :: st)) : GJ p l e R s m args below meth c nL D Ax Q N A g cs sl pc lv st := fun H locs ls hP hD hS hl => lv_aloadN C.1 C.2.1 hd (hl.2.2 _ _ hv).1 (k H locs ls hP hD hS hl)
theorem jx_fload_n {i : Fin 4} {x : UInt32} (C : CX p s m args meth c own cc nL ret D K Ax) (hd : decode cc pc = .ok (.fload_n i, 1)) (hv : lget lv i = some (.float x)) (k : GJ p l e R s m args below meth c nL D Ax Q N A g cs sl (pc + 1) lv ((.float x) :: st)) : GJ p l e R s m args below meth c nL D Ax Q N A g cs sl pc lv st := fun H locs ls hP hD hS hl => lv_fload_n C.1 C.2.1 hd rfl (hl.2.2 _ _ hv).1 (k H locs ls hP hD hS hl)
theorem jx_fload {i : Nat} {x : UInt32} (C : CX p s m args meth c own cc nL ret D K Ax) (hd : decode cc pc = .ok (.fload i, 2)) (hv : lget lv i = some (.float x)) (k : GJ p l e R s m args below meth c nL D Ax Q N A g cs sl (pc + 2) lv ((.float x) :: st)) : GJ p l e R s m args below meth c nL D Ax Q N A g cs sl pc lv st := fun H locs ls hP hD hS hl => lv_fload C.1 C.2.1 hd (hl.2.2 _ _ hv).1 (k H locs ls hP hD hS hl)
theorem jx_istore_n {i : Fin 4} {x : Int32} {lv1 : List (Option Value)} (C : CX p s m args meth c own cc nL ret D K Ax) (hd : decode cc pc = .ok (.istore_n i, 1)) (hn : (i : Nat) < nL) (hl1 : lset lv (i : Nat) (.int x) = lv1) (k : GJ p l e R s m args below meth c nL D Ax Q N A g cs sl (pc + 1) lv1 st) : GJ p l e R s m args below meth c nL D Ax Q N A g cs sl pc lv ((.int x) :: st) := by
  intro H locs ls hP hD hS hl
  subst hl1
  exact lv_istore_n C.1 C.2.1 hd rfl (lh_has hl) hn rfl (fun ls1 h1 => k H locs ls1 hP hD hS (lh_set hl rfl h1))
theorem jx_istore {i : Nat} {x : Int32} {lv1 : List (Option Value)} (C : CX p s m args meth c own cc nL ret D K Ax) (hd : decode cc pc = .ok (.istore i, 2)) (hn : i < nL) (hl1 : lset lv i (.int x) = lv1) (k : GJ p l e R s m args below meth c nL D Ax Q N A g cs sl (pc + 2) lv1 st) : GJ p l e R s m args below meth c nL D Ax Q N A g cs sl pc lv ((.int x) :: st) := by
  intro H locs ls hP hD hS hl
  subst hl1
  exact lv_istore C.1 C.2.1 hd (lh_has hl) hn rfl (fun ls1 h1 => k H locs ls1 hP hD hS (lh_set hl rfl h1))
theorem jx_astore_n {i : Fin 4} {x : Nat} {lv1 : List (Option Value)} (C : CX p s m args meth c own cc nL ret D K Ax) (hd : decode cc pc = .ok (.astore_n i, 1)) (hn : (i : Nat) < nL) (hl1 : lset lv (i : Nat) (.ref x) = lv1) (k : GJ p l e R s m args below meth c nL D Ax Q N A g cs sl (pc + 1) lv1 st) : GJ p l e R s m args below meth c nL D Ax Q N A g cs sl pc lv ((.ref x) :: st) := by
  intro H locs ls hP hD hS hl
  subst hl1
  exact lv_astore_n C.1 C.2.1 hd rfl (lh_has hl) hn rfl (fun ls1 h1 => k H locs ls1 hP hD hS (lh_set hl rfl h1))
theorem jx_astore {i : Nat} {x : Nat} {lv1 : List (Option Value)} (C : CX p s m args meth c own cc nL ret D K Ax) (hd : decode cc pc = .ok (.astore i, 2)) (hn : i < nL) (hl1 : lset lv i (.ref x) = lv1) (k : GJ p l e R s m args below meth c nL D Ax Q N A g cs sl (pc + 2) lv1 st) : GJ p l e R s m args below meth c nL D Ax Q N A g cs sl pc lv ((.ref x) :: st) := by
  intro H locs ls hP hD hS hl
  subst hl1
  exact lv_astore C.1 C.2.1 hd (lh_has hl) hn rfl (fun ls1 h1 => k H locs ls1 hP hD hS (lh_set hl rfl h1))
theorem jx_astore_nN {i : Fin 4}  {lv1 : List (Option Value)} (C : CX p s m args meth c own cc nL ret D K Ax) (hd : decode cc pc = .ok (.astore_n i, 1)) (hn : (i : Nat) < nL) (hl1 : lset lv (i : Nat) Value.null = lv1) (k : GJ p l e R s m args below meth c nL D Ax Q N A g cs sl (pc + 1) lv1 st) : GJ p l e R s m args below meth c nL D Ax Q N A g cs sl pc lv (Value.null :: st) := by
  intro H locs ls hP hD hS hl
  subst hl1
  exact lv_astore_nN C.1 C.2.1 hd rfl (lh_has hl) hn rfl (fun ls1 h1 => k H locs ls1 hP hD hS (lh_set hl rfl h1))
theorem jx_astoreN {i : Nat}  {lv1 : List (Option Value)} (C : CX p s m args meth c own cc nL ret D K Ax) (hd : decode cc pc = .ok (.astore i, 2)) (hn : i < nL) (hl1 : lset lv i Value.null = lv1) (k : GJ p l e R s m args below meth c nL D Ax Q N A g cs sl (pc + 2) lv1 st) : GJ p l e R s m args below meth c nL D Ax Q N A g cs sl pc lv (Value.null :: st) := by
  intro H locs ls hP hD hS hl
  subst hl1
  exact lv_astoreN C.1 C.2.1 hd (lh_has hl) hn rfl (fun ls1 h1 => k H locs ls1 hP hD hS (lh_set hl rfl h1))
theorem jx_fstore_n {i : Fin 4} {x : UInt32} {lv1 : List (Option Value)} (C : CX p s m args meth c own cc nL ret D K Ax) (hd : decode cc pc = .ok (.fstore_n i, 1)) (hn : (i : Nat) < nL) (hl1 : lset lv (i : Nat) (.float x) = lv1) (k : GJ p l e R s m args below meth c nL D Ax Q N A g cs sl (pc + 1) lv1 st) : GJ p l e R s m args below meth c nL D Ax Q N A g cs sl pc lv ((.float x) :: st) := by
  intro H locs ls hP hD hS hl
  subst hl1
  exact lv_fstore_n C.1 C.2.1 hd rfl (lh_has hl) hn rfl (fun ls1 h1 => k H locs ls1 hP hD hS (lh_set hl rfl h1))
theorem jx_fstore {i : Nat} {x : UInt32} {lv1 : List (Option Value)} (C : CX p s m args meth c own cc nL ret D K Ax) (hd : decode cc pc = .ok (.fstore i, 2)) (hn : i < nL) (hl1 : lset lv i (.float x) = lv1) (k : GJ p l e R s m args below meth c nL D Ax Q N A g cs sl (pc + 2) lv1 st) : GJ p l e R s m args below meth c nL D Ax Q N A g cs sl pc lv ((.float x) :: st) := by
  intro H locs ls hP hD hS hl
  subst hl1
  exact lv_fstore C.1 C.2.1 hd (lh_has hl) hn rfl (fun ls1 h1 => k H locs ls1 hP hD hS (lh_set hl rfl h1))
theorem jx_iinc {i : Nat} {n : Int} {x v : Int32} {lv1 : List (Option Value)} (C : CX p s m args meth c own cc nL ret D K Ax) (hd : decode cc pc = .ok (.iinc i n, 3)) (hv : lget lv i = some (.int x)) (hx : x + Int32.ofInt n = v) (hl1 : lset lv i (.int v) = lv1) (k : GJ p l e R s m args below meth c nL D Ax Q N A g cs sl (pc + 3) lv1 st) : GJ p l e R s m args below meth c nL D Ax Q N A g cs sl pc lv st := by
  intro H locs ls hP hD hS hl
  subst hl1
  have hm : (i, Value.int x) ∈ las lv nL := las_mem.mpr ⟨lh_lt hl hv, hv⟩
  obtain ⟨k0, hk0⟩ := List.getElem?_of_mem hm
  exact lv_iinc C.1 C.2.1 hd (lh_has hl) hk0 hx (lh_lt hl hv) rfl (fun ls1 h1 => k H locs ls1 hP hD hS (lh_set hl rfl h1))
theorem jx_goto {off : Int} {tgt : Nat} (C : CX p s m args meth c own cc nL ret D K Ax) (hd : decode cc pc = .ok (.goto off, 3)) (ht : (pc : Int) + off = (tgt : Int)) (k : GJ p l e R s m args below meth c nL D Ax Q N A g cs sl tgt lv st) : GJ p l e R s m args below meth c nL D Ax Q N A g cs sl pc lv st := fun H locs ls hP hD hS hl => lv_goto C.1 C.2.1 hd ht (k H locs ls hP hD hS hl)
theorem jx_if_eq {x : Int32} {off : Int} {tgt : Nat} (C : CX p s m args meth c own cc nL ret D K Ax) (hd : decode cc pc = .ok (.ifCond .eq off, 3)) (ht : (pc : Int) + off = (tgt : Int)) (kt : x = 0 → GJ p l e R s m args below meth c nL D Ax Q N A g cs sl tgt lv st) (kf : ¬ x = 0 → GJ p l e R s m args below meth c nL D Ax Q N A g cs sl (pc + 3) lv st) : GJ p l e R s m args below meth c nL D Ax Q N A g cs sl pc lv (.int x :: st) := fun H locs ls hP hD hS hl => lv_if_eq C.1 C.2.1 hd ht (fun h => kt h H locs ls hP hD hS hl) (fun h => kf h H locs ls hP hD hS hl)
theorem jx_if_eqT {x : Int32} {off : Int} {tgt : Nat} (C : CX p s m args meth c own cc nL ret D K Ax) (hd : decode cc pc = .ok (.ifCond .eq off, 3)) (ht : (pc : Int) + off = (tgt : Int)) (hc : x = 0) (kt : GJ p l e R s m args below meth c nL D Ax Q N A g cs sl tgt lv st) : GJ p l e R s m args below meth c nL D Ax Q N A g cs sl pc lv (.int x :: st) := jx_if_eq C hd ht (fun _ => kt) (fun h => absurd hc (by first | exact h | exact fun q => q h))
theorem jx_if_eqF {x : Int32} {off : Int} {tgt : Nat} (C : CX p s m args meth c own cc nL ret D K Ax) (hd : decode cc pc = .ok (.ifCond .eq off, 3)) (hc : ¬ x = 0) (ht : (pc : Int) + off = (tgt : Int)) (kf : GJ p l e R s m args below meth c nL D Ax Q N A g cs sl (pc + 3) lv st) : GJ p l e R s m args below meth c nL D Ax Q N A g cs sl pc lv (.int x :: st) := jx_if_eq C hd ht (fun h => (by first | exact absurd h hc | exact absurd hc h)) (fun _ => kf)
theorem jx_ic_eq {x y : Int32} {off : Int} {tgt : Nat} (C : CX p s m args meth c own cc nL ret D K Ax) (hd : decode cc pc = .ok (.if_icmp .eq off, 3)) (ht : (pc : Int) + off = (tgt : Int)) (kt : x = y → GJ p l e R s m args below meth c nL D Ax Q N A g cs sl tgt lv st) (kf : ¬ x = y → GJ p l e R s m args below meth c nL D Ax Q N A g cs sl (pc + 3) lv st) : GJ p l e R s m args below meth c nL D Ax Q N A g cs sl pc lv (.int y :: .int x :: st) := fun H locs ls hP hD hS hl => lv_icmp_eq C.1 C.2.1 hd ht (fun h => kt h H locs ls hP hD hS hl) (fun h => kf h H locs ls hP hD hS hl)
theorem jx_ic_eqT {x y : Int32} {off : Int} {tgt : Nat} (C : CX p s m args meth c own cc nL ret D K Ax) (hd : decode cc pc = .ok (.if_icmp .eq off, 3)) (ht : (pc : Int) + off = (tgt : Int)) (hc : x = y) (kt : GJ p l e R s m args below meth c nL D Ax Q N A g cs sl tgt lv st) : GJ p l e R s m args below meth c nL D Ax Q N A g cs sl pc lv (.int y :: .int x :: st) := jx_ic_eq C hd ht (fun _ => kt) (fun h => absurd hc (by first | exact h | exact fun q => q h))
theorem jx_ic_eqF {x y : Int32} {off : Int} {tgt : Nat} (C : CX p s m args meth c own cc nL ret D K Ax) (hd : decode cc pc = .ok (.if_icmp .eq off, 3)) (hc : ¬ x = y) (ht : (pc : Int) + off = (tgt : Int)) (kf : GJ p l e R s m args below meth c nL D Ax Q N A g cs sl (pc + 3) lv st) : GJ p l e R s m args below meth c nL D Ax Q N A g cs sl pc lv (.int y :: .int x :: st) := jx_ic_eq C hd ht (fun h => (by first | exact absurd h hc | exact absurd hc h)) (fun _ => kf)
theorem jx_if_ne {x : Int32} {off : Int} {tgt : Nat} (C : CX p s m args meth c own cc nL ret D K Ax) (hd : decode cc pc = .ok (.ifCond .ne off, 3)) (ht : (pc : Int) + off = (tgt : Int)) (kt : ¬ x = 0 → GJ p l e R s m args below meth c nL D Ax Q N A g cs sl tgt lv st) (kf : x = 0 → GJ p l e R s m args below meth c nL D Ax Q N A g cs sl (pc + 3) lv st) : GJ p l e R s m args below meth c nL D Ax Q N A g cs sl pc lv (.int x :: st) := fun H locs ls hP hD hS hl => lv_if_ne C.1 C.2.1 hd ht (fun h => kt h H locs ls hP hD hS hl) (fun h => kf h H locs ls hP hD hS hl)
theorem jx_if_neT {x : Int32} {off : Int} {tgt : Nat} (C : CX p s m args meth c own cc nL ret D K Ax) (hd : decode cc pc = .ok (.ifCond .ne off, 3)) (ht : (pc : Int) + off = (tgt : Int)) (hc : ¬ x = 0) (kt : GJ p l e R s m args below meth c nL D Ax Q N A g cs sl tgt lv st) : GJ p l e R s m args below meth c nL D Ax Q N A g cs sl pc lv (.int x :: st) := jx_if_ne C hd ht (fun _ => kt) (fun h => absurd hc (by first | exact h | exact fun q => q h))
theorem jx_if_neF {x : Int32} {off : Int} {tgt : Nat} (C : CX p s m args meth c own cc nL ret D K Ax) (hd : decode cc pc = .ok (.ifCond .ne off, 3)) (hc : x = 0) (ht : (pc : Int) + off = (tgt : Int)) (kf : GJ p l e R s m args below meth c nL D Ax Q N A g cs sl (pc + 3) lv st) : GJ p l e R s m args below meth c nL D Ax Q N A g cs sl pc lv (.int x :: st) := jx_if_ne C hd ht (fun h => (by first | exact absurd h hc | exact absurd hc h)) (fun _ => kf)
theorem jx_ic_ne {x y : Int32} {off : Int} {tgt : Nat} (C : CX p s m args meth c own cc nL ret D K Ax) (hd : decode cc pc = .ok (.if_icmp .ne off, 3)) (ht : (pc : Int) + off = (tgt : Int)) (kt : ¬ x = y → GJ p l e R s m args below meth c nL D Ax Q N A g cs sl tgt lv st) (kf : x = y → GJ p l e R s m args below meth c nL D Ax Q N A g cs sl (pc + 3) lv st) : GJ p l e R s m args below meth c nL D Ax Q N A g cs sl pc lv (.int y :: .int x :: st) := fun H locs ls hP hD hS hl => lv_icmp_ne C.1 C.2.1 hd ht (fun h => kt h H locs ls hP hD hS hl) (fun h => kf h H locs ls hP hD hS hl)
theorem jx_ic_neT {x y : Int32} {off : Int} {tgt : Nat} (C : CX p s m args meth c own cc nL ret D K Ax) (hd : decode cc pc = .ok (.if_icmp .ne off, 3)) (ht : (pc : Int) + off = (tgt : Int)) (hc : ¬ x = y) (kt : GJ p l e R s m args below meth c nL D Ax Q N A g cs sl tgt lv st) : GJ p l e R s m args below meth c nL D Ax Q N A g cs sl pc lv (.int y :: .int x :: st) := jx_ic_ne C hd ht (fun _ => kt) (fun h => absurd hc (by first | exact h | exact fun q => q h))
theorem jx_ic_neF {x y : Int32} {off : Int} {tgt : Nat} (C : CX p s m args meth c own cc nL ret D K Ax) (hd : decode cc pc = .ok (.if_icmp .ne off, 3)) (hc : x = y) (ht : (pc : Int) + off = (tgt : Int)) (kf : GJ p l e R s m args below meth c nL D Ax Q N A g cs sl (pc + 3) lv st) : GJ p l e R s m args below meth c nL D Ax Q N A g cs sl pc lv (.int y :: .int x :: st) := jx_ic_ne C hd ht (fun h => (by first | exact absurd h hc | exact absurd hc h)) (fun _ => kf)
theorem jx_if_lt {x : Int32} {off : Int} {tgt : Nat} (C : CX p s m args meth c own cc nL ret D K Ax) (hd : decode cc pc = .ok (.ifCond .lt off, 3)) (ht : (pc : Int) + off = (tgt : Int)) (kt : x < 0 → GJ p l e R s m args below meth c nL D Ax Q N A g cs sl tgt lv st) (kf : ¬ x < 0 → GJ p l e R s m args below meth c nL D Ax Q N A g cs sl (pc + 3) lv st) : GJ p l e R s m args below meth c nL D Ax Q N A g cs sl pc lv (.int x :: st) := fun H locs ls hP hD hS hl => lv_if_lt C.1 C.2.1 hd ht (fun h => kt h H locs ls hP hD hS hl) (fun h => kf h H locs ls hP hD hS hl)
theorem jx_if_ltT {x : Int32} {off : Int} {tgt : Nat} (C : CX p s m args meth c own cc nL ret D K Ax) (hd : decode cc pc = .ok (.ifCond .lt off, 3)) (ht : (pc : Int) + off = (tgt : Int)) (hc : x < 0) (kt : GJ p l e R s m args below meth c nL D Ax Q N A g cs sl tgt lv st) : GJ p l e R s m args below meth c nL D Ax Q N A g cs sl pc lv (.int x :: st) := jx_if_lt C hd ht (fun _ => kt) (fun h => absurd hc (by first | exact h | exact fun q => q h))
theorem jx_if_ltF {x : Int32} {off : Int} {tgt : Nat} (C : CX p s m args meth c own cc nL ret D K Ax) (hd : decode cc pc = .ok (.ifCond .lt off, 3)) (hc : ¬ x < 0) (ht : (pc : Int) + off = (tgt : Int)) (kf : GJ p l e R s m args below meth c nL D Ax Q N A g cs sl (pc + 3) lv st) : GJ p l e R s m args below meth c nL D Ax Q N A g cs sl pc lv (.int x :: st) := jx_if_lt C hd ht (fun h => (by first | exact absurd h hc | exact absurd hc h)) (fun _ => kf)
theorem jx_ic_lt {x y : Int32} {off : Int} {tgt : Nat} (C : CX p s m args meth c own cc nL ret D K Ax) (hd : decode cc pc = .ok (.if_icmp .lt off, 3)) (ht : (pc : Int) + off = (tgt : Int)) (kt : x < y → GJ p l e R s m args below meth c nL D Ax Q N A g cs sl tgt lv st) (kf : ¬ x < y → GJ p l e R s m args below meth c nL D Ax Q N A g cs sl (pc + 3) lv st) : GJ p l e R s m args below meth c nL D Ax Q N A g cs sl pc lv (.int y :: .int x :: st) := fun H locs ls hP hD hS hl => lv_icmp_lt C.1 C.2.1 hd ht (fun h => kt h H locs ls hP hD hS hl) (fun h => kf h H locs ls hP hD hS hl)
theorem jx_ic_ltT {x y : Int32} {off : Int} {tgt : Nat} (C : CX p s m args meth c own cc nL ret D K Ax) (hd : decode cc pc = .ok (.if_icmp .lt off, 3)) (ht : (pc : Int) + off = (tgt : Int)) (hc : x < y) (kt : GJ p l e R s m args below meth c nL D Ax Q N A g cs sl tgt lv st) : GJ p l e R s m args below meth c nL D Ax Q N A g cs sl pc lv (.int y :: .int x :: st) := jx_ic_lt C hd ht (fun _ => kt) (fun h => absurd hc (by first | exact h | exact fun q => q h))
theorem jx_ic_ltF {x y : Int32} {off : Int} {tgt : Nat} (C : CX p s m args meth c own cc nL ret D K Ax) (hd : decode cc pc = .ok (.if_icmp .lt off, 3)) (hc : ¬ x < y) (ht : (pc : Int) + off = (tgt : Int)) (kf : GJ p l e R s m args below meth c nL D Ax Q N A g cs sl (pc + 3) lv st) : GJ p l e R s m args below meth c nL D Ax Q N A g cs sl pc lv (.int y :: .int x :: st) := jx_ic_lt C hd ht (fun h => (by first | exact absurd h hc | exact absurd hc h)) (fun _ => kf)
theorem jx_if_ge {x : Int32} {off : Int} {tgt : Nat} (C : CX p s m args meth c own cc nL ret D K Ax) (hd : decode cc pc = .ok (.ifCond .ge off, 3)) (ht : (pc : Int) + off = (tgt : Int)) (kt : 0 ≤ x → GJ p l e R s m args below meth c nL D Ax Q N A g cs sl tgt lv st) (kf : ¬ 0 ≤ x → GJ p l e R s m args below meth c nL D Ax Q N A g cs sl (pc + 3) lv st) : GJ p l e R s m args below meth c nL D Ax Q N A g cs sl pc lv (.int x :: st) := fun H locs ls hP hD hS hl => lv_if_ge C.1 C.2.1 hd ht (fun h => kt h H locs ls hP hD hS hl) (fun h => kf h H locs ls hP hD hS hl)
theorem jx_if_geT {x : Int32} {off : Int} {tgt : Nat} (C : CX p s m args meth c own cc nL ret D K Ax) (hd : decode cc pc = .ok (.ifCond .ge off, 3)) (ht : (pc : Int) + off = (tgt : Int)) (hc : 0 ≤ x) (kt : GJ p l e R s m args below meth c nL D Ax Q N A g cs sl tgt lv st) : GJ p l e R s m args below meth c nL D Ax Q N A g cs sl pc lv (.int x :: st) := jx_if_ge C hd ht (fun _ => kt) (fun h => absurd hc (by first | exact h | exact fun q => q h))
theorem jx_if_geF {x : Int32} {off : Int} {tgt : Nat} (C : CX p s m args meth c own cc nL ret D K Ax) (hd : decode cc pc = .ok (.ifCond .ge off, 3)) (hc : ¬ 0 ≤ x) (ht : (pc : Int) + off = (tgt : Int)) (kf : GJ p l e R s m args below meth c nL D Ax Q N A g cs sl (pc + 3) lv st) : GJ p l e R s m args below meth c nL D Ax Q N A g cs sl pc lv (.int x :: st) := jx_if_ge C hd ht (fun h => (by first | exact absurd h hc | exact absurd hc h)) (fun _ => kf)
theorem jx_ic_ge {x y : Int32} {off : Int} {tgt : Nat} (C : CX p s m args meth c own cc nL ret D K Ax) (hd : decode cc pc = .ok (.if_icmp .ge off, 3)) (ht : (pc : Int) + off = (tgt : Int)) (kt : y ≤ x → GJ p l e R s m args below meth c nL D Ax Q N A g cs sl tgt lv st) (kf : ¬ y ≤ x → GJ p l e R s m args below meth c nL D Ax Q N A g cs sl (pc + 3) lv st) : GJ p l e R s m args below meth c nL D Ax Q N A g cs sl pc lv (.int y :: .int x :: st) := fun H locs ls hP hD hS hl => lv_icmp_ge C.1 C.2.1 hd ht (fun h => kt h H locs ls hP hD hS hl) (fun h => kf h H locs ls hP hD hS hl)
theorem jx_ic_geT {x y : Int32} {off : Int} {tgt : Nat} (C : CX p s m args meth c own cc nL ret D K Ax) (hd : decode cc pc = .ok (.if_icmp .ge off, 3)) (ht : (pc : Int) + off = (tgt : Int)) (hc : y ≤ x) (kt : GJ p l e R s m args below meth c nL D Ax Q N A g cs sl tgt lv st) : GJ p l e R s m args below meth c nL D Ax Q N A g cs sl pc lv (.int y :: .int x :: st) := jx_ic_ge C hd ht (fun _ => kt) (fun h => absurd hc (by first | exact h | exact fun q => q h))
theorem jx_ic_geF {x y : Int32} {off : Int} {tgt : Nat} (C : CX p s m args meth c own cc nL ret D K Ax) (hd : decode cc pc = .ok (.if_icmp .ge off, 3)) (hc : ¬ y ≤ x) (ht : (pc : Int) + off = (tgt : Int)) (kf : GJ p l e R s m args below meth c nL D Ax Q N A g cs sl (pc + 3) lv st) : GJ p l e R s m args below meth c nL D Ax Q N A g cs sl pc lv (.int y :: .int x :: st) := jx_ic_ge C hd ht (fun h => (by first | exact absurd h hc | exact absurd hc h)) (fun _ => kf)
theorem jx_if_gt {x : Int32} {off : Int} {tgt : Nat} (C : CX p s m args meth c own cc nL ret D K Ax) (hd : decode cc pc = .ok (.ifCond .gt off, 3)) (ht : (pc : Int) + off = (tgt : Int)) (kt : 0 < x → GJ p l e R s m args below meth c nL D Ax Q N A g cs sl tgt lv st) (kf : ¬ 0 < x → GJ p l e R s m args below meth c nL D Ax Q N A g cs sl (pc + 3) lv st) : GJ p l e R s m args below meth c nL D Ax Q N A g cs sl pc lv (.int x :: st) := fun H locs ls hP hD hS hl => lv_if_gt C.1 C.2.1 hd ht (fun h => kt h H locs ls hP hD hS hl) (fun h => kf h H locs ls hP hD hS hl)
theorem jx_if_gtT {x : Int32} {off : Int} {tgt : Nat} (C : CX p s m args meth c own cc nL ret D K Ax) (hd : decode cc pc = .ok (.ifCond .gt off, 3)) (ht : (pc : Int) + off = (tgt : Int)) (hc : 0 < x) (kt : GJ p l e R s m args below meth c nL D Ax Q N A g cs sl tgt lv st) : GJ p l e R s m args below meth c nL D Ax Q N A g cs sl pc lv (.int x :: st) := jx_if_gt C hd ht (fun _ => kt) (fun h => absurd hc (by first | exact h | exact fun q => q h))
theorem jx_if_gtF {x : Int32} {off : Int} {tgt : Nat} (C : CX p s m args meth c own cc nL ret D K Ax) (hd : decode cc pc = .ok (.ifCond .gt off, 3)) (hc : ¬ 0 < x) (ht : (pc : Int) + off = (tgt : Int)) (kf : GJ p l e R s m args below meth c nL D Ax Q N A g cs sl (pc + 3) lv st) : GJ p l e R s m args below meth c nL D Ax Q N A g cs sl pc lv (.int x :: st) := jx_if_gt C hd ht (fun h => (by first | exact absurd h hc | exact absurd hc h)) (fun _ => kf)
theorem jx_ic_gt {x y : Int32} {off : Int} {tgt : Nat} (C : CX p s m args meth c own cc nL ret D K Ax) (hd : decode cc pc = .ok (.if_icmp .gt off, 3)) (ht : (pc : Int) + off = (tgt : Int)) (kt : y < x → GJ p l e R s m args below meth c nL D Ax Q N A g cs sl tgt lv st) (kf : ¬ y < x → GJ p l e R s m args below meth c nL D Ax Q N A g cs sl (pc + 3) lv st) : GJ p l e R s m args below meth c nL D Ax Q N A g cs sl pc lv (.int y :: .int x :: st) := fun H locs ls hP hD hS hl => lv_icmp_gt C.1 C.2.1 hd ht (fun h => kt h H locs ls hP hD hS hl) (fun h => kf h H locs ls hP hD hS hl)
theorem jx_ic_gtT {x y : Int32} {off : Int} {tgt : Nat} (C : CX p s m args meth c own cc nL ret D K Ax) (hd : decode cc pc = .ok (.if_icmp .gt off, 3)) (ht : (pc : Int) + off = (tgt : Int)) (hc : y < x) (kt : GJ p l e R s m args below meth c nL D Ax Q N A g cs sl tgt lv st) : GJ p l e R s m args below meth c nL D Ax Q N A g cs sl pc lv (.int y :: .int x :: st) := jx_ic_gt C hd ht (fun _ => kt) (fun h => absurd hc (by first | exact h | exact fun q => q h))
theorem jx_ic_gtF {x y : Int32} {off : Int} {tgt : Nat} (C : CX p s m args meth c own cc nL ret D K Ax) (hd : decode cc pc = .ok (.if_icmp .gt off, 3)) (hc : ¬ y < x) (ht : (pc : Int) + off = (tgt : Int)) (kf : GJ p l e R s m args below meth c nL D Ax Q N A g cs sl (pc + 3) lv st) : GJ p l e R s m args below meth c nL D Ax Q N A g cs sl pc lv (.int y :: .int x :: st) := jx_ic_gt C hd ht (fun h => (by first | exact absurd h hc | exact absurd hc h)) (fun _ => kf)
theorem jx_if_le {x : Int32} {off : Int} {tgt : Nat} (C : CX p s m args meth c own cc nL ret D K Ax) (hd : decode cc pc = .ok (.ifCond .le off, 3)) (ht : (pc : Int) + off = (tgt : Int)) (kt : x ≤ 0 → GJ p l e R s m args below meth c nL D Ax Q N A g cs sl tgt lv st) (kf : ¬ x ≤ 0 → GJ p l e R s m args below meth c nL D Ax Q N A g cs sl (pc + 3) lv st) : GJ p l e R s m args below meth c nL D Ax Q N A g cs sl pc lv (.int x :: st) := fun H locs ls hP hD hS hl => lv_if_le C.1 C.2.1 hd ht (fun h => kt h H locs ls hP hD hS hl) (fun h => kf h H locs ls hP hD hS hl)
theorem jx_if_leT {x : Int32} {off : Int} {tgt : Nat} (C : CX p s m args meth c own cc nL ret D K Ax) (hd : decode cc pc = .ok (.ifCond .le off, 3)) (ht : (pc : Int) + off = (tgt : Int)) (hc : x ≤ 0) (kt : GJ p l e R s m args below meth c nL D Ax Q N A g cs sl tgt lv st) : GJ p l e R s m args below meth c nL D Ax Q N A g cs sl pc lv (.int x :: st) := jx_if_le C hd ht (fun _ => kt) (fun h => absurd hc (by first | exact h | exact fun q => q h))
theorem jx_if_leF {x : Int32} {off : Int} {tgt : Nat} (C : CX p s m args meth c own cc nL ret D K Ax) (hd : decode cc pc = .ok (.ifCond .le off, 3)) (hc : ¬ x ≤ 0) (ht : (pc : Int) + off = (tgt : Int)) (kf : GJ p l e R s m args below meth c nL D Ax Q N A g cs sl (pc + 3) lv st) : GJ p l e R s m args below meth c nL D Ax Q N A g cs sl pc lv (.int x :: st) := jx_if_le C hd ht (fun h => (by first | exact absurd h hc | exact absurd hc h)) (fun _ => kf)
theorem jx_ic_le {x y : Int32} {off : Int} {tgt : Nat} (C : CX p s m args meth c own cc nL ret D K Ax) (hd : decode cc pc = .ok (.if_icmp .le off, 3)) (ht : (pc : Int) + off = (tgt : Int)) (kt : x ≤ y → GJ p l e R s m args below meth c nL D Ax Q N A g cs sl tgt lv st) (kf : ¬ x ≤ y → GJ p l e R s m args below meth c nL D Ax Q N A g cs sl (pc + 3) lv st) : GJ p l e R s m args below meth c nL D Ax Q N A g cs sl pc lv (.int y :: .int x :: st) := fun H locs ls hP hD hS hl => lv_icmp_le C.1 C.2.1 hd ht (fun h => kt h H locs ls hP hD hS hl) (fun h => kf h H locs ls hP hD hS hl)
theorem jx_ic_leT {x y : Int32} {off : Int} {tgt : Nat} (C : CX p s m args meth c own cc nL ret D K Ax) (hd : decode cc pc = .ok (.if_icmp .le off, 3)) (ht : (pc : Int) + off = (tgt : Int)) (hc : x ≤ y) (kt : GJ p l e R s m args below meth c nL D Ax Q N A g cs sl tgt lv st) : GJ p l e R s m args below meth c nL D Ax Q N A g cs sl pc lv (.int y :: .int x :: st) := jx_ic_le C hd ht (fun _ => kt) (fun h => absurd hc (by first | exact h | exact fun q => q h))
theorem jx_ic_leF {x y : Int32} {off : Int} {tgt : Nat} (C : CX p s m args meth c own cc nL ret D K Ax) (hd : decode cc pc = .ok (.if_icmp .le off, 3)) (hc : ¬ x ≤ y) (ht : (pc : Int) + off = (tgt : Int)) (kf : GJ p l e R s m args below meth c nL D Ax Q N A g cs sl (pc + 3) lv st) : GJ p l e R s m args below meth c nL D Ax Q N A g cs sl pc lv (.int y :: .int x :: st) := jx_ic_le C hd ht (fun h => (by first | exact absurd h hc | exact absurd hc h)) (fun _ => kf)
theorem jx_ifnull {off : Int} {x : Nat} (C : CX p s m args meth c own cc nL ret D K Ax) (hd : decode cc pc = .ok (.ifnull off, 3)) (k : GJ p l e R s m args below meth c nL D Ax Q N A g cs sl (pc + 3) lv st) : GJ p l e R s m args below meth c nL D Ax Q N A g cs sl pc lv (.ref x :: st) := fun H locs ls hP hD hS hl => lv_ifnull C.1 C.2.1 hd (k H locs ls hP hD hS hl)
theorem jx_ifnullN {off : Int} {tgt : Nat} (C : CX p s m args meth c own cc nL ret D K Ax) (hd : decode cc pc = .ok (.ifnull off, 3)) (ht : (pc : Int) + off = (tgt : Int)) (k : GJ p l e R s m args below meth c nL D Ax Q N A g cs sl tgt lv st) : GJ p l e R s m args below meth c nL D Ax Q N A g cs sl pc lv (.null :: st) := fun H locs ls hP hD hS hl => lv_ifnullN C.1 C.2.1 hd ht (k H locs ls hP hD hS hl)
theorem jx_ifnonnull {off : Int} {x tgt : Nat} (C : CX p s m args meth c own cc nL ret D K Ax) (hd : decode cc pc = .ok (.ifnonnull off, 3)) (ht : (pc : Int) + off = (tgt : Int)) (k : GJ p l e R s m args below meth c nL D Ax Q N A g cs sl tgt lv st) : GJ p l e R s m args below meth c nL D Ax Q N A g cs sl pc lv (.ref x :: st) := fun H locs ls hP hD hS hl => lv_ifnonnull C.1 C.2.1 hd ht (k H locs ls hP hD hS hl)
theorem jx_ifnonnullN {off : Int} (C : CX p s m args meth c own cc nL ret D K Ax) (hd : decode cc pc = .ok (.ifnonnull off, 3)) (k : GJ p l e R s m args below meth c nL D Ax Q N A g cs sl (pc + 3) lv st) : GJ p l e R s m args below meth c nL D Ax Q N A g cs sl pc lv (.null :: st) := fun H locs ls hP hD hS hl => lv_ifnonnullN C.1 C.2.1 hd (k H locs ls hP hD hS hl)
theorem jx_acmp_ne {rx ry : Option Nat} {off : Int} {tgt : Nat} (C : CX p s m args meth c own cc nL ret D K Ax) (hd : decode cc pc = .ok (.if_acmp .ne off, 3)) (ht : (pc : Int) + off = (tgt : Int)) (kt : ¬ rx = ry → GJ p l e R s m args below meth c nL D Ax Q N A g cs sl tgt lv st) (kf : rx = ry → GJ p l e R s m args below meth c nL D Ax Q N A g cs sl (pc + 3) lv st) : GJ p l e R s m args below meth c nL D Ax Q N A g cs sl pc lv (va_rf ry :: va_rf rx :: st) := fun H locs ls hP hD hS hl => lv_acmp_ne C.1 C.2.1 hd ht (fun h => kt h H locs ls hP hD hS hl) (fun h => kf h H locs ls hP hD hS hl)
theorem jx_lookup {dflt : Int} {ps : Array (Int × Int)} {len : Nat} {x : Int32} {off : Int} {tgt : Nat} (C : CX p s m args meth c own cc nL ret D K Ax) (hd : decode cc pc = .ok (.lookupswitch dflt ps, len)) (hp : (ps.toList.zip (ps.toList.drop 1)).all (fun (a, next) => a.1 < next.1) = true) (ho : Op.lookupswitch.offset ps.toList dflt x.toInt = off) (ht : (pc : Int) + off = (tgt : Int)) (k : GJ p l e R s m args below meth c nL D Ax Q N A g cs sl tgt lv st) : GJ p l e R s m args below meth c nL D Ax Q N A g cs sl pc lv (.int x :: st) := fun H locs ls hP hD hS hl => lv_lookup C.1 C.2.1 hd hp ho ht (k H locs ls hP hD hS hl)
theorem jx_tableOut {dflt lo hi : Int} {offs : Array Int} {len : Nat} {x : Int32} {tgt : Nat} (C : CX p s m args meth c own cc nL ret D K Ax) (hd : decode cc pc = .ok (.tableswitch dflt lo hi offs, len)) (h : x.toInt < lo ∨ hi < x.toInt) (ht : (pc : Int) + dflt = (tgt : Int)) (k : GJ p l e R s m args below meth c nL D Ax Q N A g cs sl tgt lv st) : GJ p l e R s m args below meth c nL D Ax Q N A g cs sl pc lv (.int x :: st) := fun H locs ls hP hD hS hl => lv_tableOut C.1 C.2.1 hd h ht (k H locs ls hP hD hS hl)
theorem jx_tableIn {dflt lo hi : Int} {offs : Array Int} {len : Nat} {x : Int32} {off : Int} {tgt : Nat} (C : CX p s m args meth c own cc nL ret D K Ax) (hd : decode cc pc = .ok (.tableswitch dflt lo hi offs, len)) (h1 : ¬ x.toInt < lo) (h2 : ¬ hi < x.toInt) (ho : offs[(x.toInt - lo).toNat]? = some off) (ht : (pc : Int) + off = (tgt : Int)) (k : GJ p l e R s m args below meth c nL D Ax Q N A g cs sl tgt lv st) : GJ p l e R s m args below meth c nL D Ax Q N A g cs sl pc lv (.int x :: st) := fun H locs ls hP hD hS hl => lv_tableIn C.1 C.2.1 hd h1 h2 ho ht (k H locs ls hP hD hS hl)
/-- another form of the same stack or locals -/
theorem jx_eq {lv1 : List (Option Value)} {st1 : List Value} (h1 : lv = lv1) (h2 : st = st1) (k : GJ p l e R s m args below meth c nL D Ax Q N A g cs sl pc lv1 st1) : GJ p l e R s m args below meth c nL D Ax Q N A g cs sl pc lv st := by subst h1; subst h2; exact k
end RW
/-- a field as a class's constant pool names it -/
def FL (own : String) (idx ci k : Nat) : Prop := ∃ (Cn : String) (T : u_T) (n : Nat), vwCl[ci]? = some (Cn, T, n) ∧ k < n ∧ (∀ w ∈ u_ws Cn T n, w ∈ lw_all) ∧ (Cond.fieldLink own idx (T k).1 (T k).2.1 (T k).2.2.1 ∈ lw_all ∨ ∃ host : String, Cond.fieldLinkNest own idx (T k).1 (T k).2.1 (T k).2.2.1 host ∈ nw_l)
/-- .. that may be written -/
def FP0 (own : String) (idx ci k : Nat) (ty : FieldType) : Prop := ∃ (Cn : String) (T : u_T) (n : Nat), vwCl[ci]? = some (Cn, T, n) ∧ k < n ∧ (∀ w ∈ u_ws Cn T n, w ∈ lw_all) ∧ (Cond.fieldLink own idx (T k).1 (T k).2.1 (T k).2.2.1 ∈ lw_all ∨ ∃ host : String, Cond.fieldLinkNest own idx (T k).1 (T k).2.1 (T k).2.2.1 host ∈ nw_l) ∧ (T k).2.2.2 = false ∧ parseFieldDescriptor (T k).2.2.1 = some ty ∧ (∃ ty0 : Nat → FieldType, ∀ k, k < n → parseFieldDescriptor (T k).2.2.1 = some (ty0 k)) ∧ (∀ a, a < n → ∀ b, b < n → a ≠ b → (T a).2.1 ≠ (T b).2.1)
section RF
variable {p : Program} {l : Launch} {e : Env} {R : Room} {s : State} {m : MethodId} {args : Array Value} {below : List Frame} {meth : Method} {c : Code} {nL : Nat} {D : va_G} {Ax : Nat → Prop} {Q : State → Prop}
variable {N : Nat} {A : Nat → Nat} {g : Nat → va_E} {cs sl pc : Nat} {lv : List (Option Value)} {st : List Value} {own : String} {cc : ByteArray} {ret : Option FieldType} {K : Nat → ClassId}

theorem jx_get {i idx ci k : Nat} {fs : List Value} {v : Value} (C : CX p s m args meth c own cc nL ret D K Ax) (F : FL own idx ci k) (hd : decode cc pc = .ok (.getfield idx, 3)) (hi : i < N) (hg : g i = .inr (ci, fs)) (hv : fs[k]? = some v) (kk : GJ p l e R s m args below meth c nL D Ax Q N A g cs sl (pc + 3) lv (v :: st)) : GJ p l e R s m args below meth c nL D Ax Q N A g cs sl pc lv (.ref (A i) :: st) := by
  intro H locs ls hP hD hS hl
  obtain ⟨hx, hb, hml, hown, hts, hr, hlk, hK, hN, hA⟩ := C
  obtain ⟨Cn, T, n, hc, hk, hin, hw⟩ := F
  have he : (wl N A g)[i]? = some (A i, .inr (ci, fs)) := by rw [wl_get hi, hg]
  rcases hw with hw | ⟨host, hw⟩
  · exact va_get hx hb hts hin hown hK hP i he hc k hk (hts _ hw) (fun _ h9 => h9) hv hd (kk H locs ls hP hD hS hl)
  · exact va_getN hx hb hts hin hown hK hP i he hc k hk (va_Nw.use rfl (hN _ hw)) (fun _ h9 => h9) hv hd (kk H locs ls hP hD hS hl)
theorem jx_put {i idx ci k : Nat} {fs : List Value} {v : Value} {ty : FieldType} {g1 : Nat → va_E} (C : CX p s m args meth c own cc nL ret D K Ax) (F : FP0 own idx ci k ty) (hd : decode cc pc = .ok (.putfield idx, 3)) (hi : i < N) (hg : g i = .inr (ci, fs)) (hn : narrow ty v = v) (hf : fits ty v = true) (hl0 : k < fs.length) (hw1 : wl N A (va_up g i (.inr (ci, fs.set k v))) = wl N A g1) (kk : GJ p l e R s m args below meth c nL D Ax Q N A g1 cs sl (pc + 3) lv st) : GJ p l e R s m args below meth c nL D Ax Q N A g cs sl pc lv (v :: .ref (A i) :: st) := by
  intro H locs ls hP hD hS hl
  obtain ⟨hx, hb, hml, hown, hts, hr, hlk, hK, hN, hA⟩ := C
  obtain ⟨Cn, T, n, hc, hk, hin, hw, hfin, hpd, ⟨ty0, hty⟩, hnm⟩ := F
  have he : (wl N A g)[i]? = some (A i, .inr (ci, fs)) := by rw [wl_get hi, hg]
  have fin : ∀ (H1 : Heap) (locs1 : List Loc), va_P D vwCl ((wl N A g).set i (A i, .inr (ci, fs.set k v))) H1 → va_D Ax ((wl N A g).set i (A i, .inr (ci, fs.set k v))) → va_S Ax s.heap H1 locs1 → W p l e R s m args below meth c H1 locs1 cs sl Q (F0 m (pc + 3) ls st) := by
    intro H1 locs1 hP1 hD1 hS1
    rw [wl_set, hw1] at hP1 hD1
    exact kk H1 locs1 ls hP1 hD1 hS1 hl
  rcases hw with hw | ⟨host, hw⟩
  · exact va_put hx hb hts hin ty0 hty hnm hown hK hP hD hS i he hc k hk (hts _ hw) (fun _ h9 => h9) hfin hpd hn hf hl0 hd fin
  · exact va_putN hx hb hts hin ty0 hty hnm hown hK hP hD hS i he hc k hk (va_Nw.use rfl (hN _ hw)) (fun _ h9 => h9) hfin hpd hn hf hl0 hd fin
theorem nI_ix {x : Int32} {j n : Nat} (hx : x = nI j) (hj : j < n) (hn : n ≤ 1000000) : vp_in x n ∧ x.toNatClampNeg = j := by
  subst hx
  exact ⟨vp_in_nI hj (by omega), nI_clamp (by omega)⟩
theorem jx_iald {i n : Nat} {f : Nat → Int32} {x : Int32} (j : Nat) (C : CX p s m args meth c own cc nL ret D K Ax) (hd : decode cc pc = .ok (.iaload, 1)) (hi : i < N) (hg : g i = .inl (K 0, n, ri f)) (hx : x = nI j) (hj : j < n) (hn : n ≤ 1000000) (kk : GJ p l e R s m args below meth c nL D Ax Q N A g cs sl (pc + 1) lv (.int (f j) :: st)) : GJ p l e R s m args below meth c nL D Ax Q N A g cs sl pc lv (.int x :: .ref (A i) :: st) := by
  intro H locs ls hP hD hS hl
  obtain ⟨h1, h2⟩ := nI_ix hx hj hn
  have ha : (wl N A g)[i]? = some (A i, .inl (K 0, n, ri f)) := by rw [wl_get hi, hg]
  have k1 := kk H locs ls hP hD hS hl
  rw [← h2] at k1
  exact va_iald C.1 C.2.1 C.2.2.2.2.2.2.2.1 hP i 0 ha rfl h1 hd k1
theorem jx_zald {i n : Nat} {f : Nat → Int32} {x : Int32} (j : Nat) (C : CX p s m args meth c own cc nL ret D K Ax) (hd : decode cc pc = .ok (.baload, 1)) (hi : i < N) (hg : g i = .inl (K 1, n, ri f)) (hx : x = nI j) (hj : j < n) (hn : n ≤ 1000000) (kk : GJ p l e R s m args below meth c nL D Ax Q N A g cs sl (pc + 1) lv (.int (f j) :: st)) : GJ p l e R s m args below meth c nL D Ax Q N A g cs sl pc lv (.int x :: .ref (A i) :: st) := by
  intro H locs ls hP hD hS hl
  obtain ⟨h1, h2⟩ := nI_ix hx hj hn
  have ha : (wl N A g)[i]? = some (A i, .inl (K 1, n, ri f)) := by rw [wl_get hi, hg]
  have k1 := kk H locs ls hP hD hS hl
  rw [← h2] at k1
  exact va_zald C.1 C.2.1 C.2.2.2.2.2.2.2.1 hP i 1 ha rfl h1 hd k1
theorem jx_fald {i n : Nat} {f : Nat → UInt32} {x : Int32} (j : Nat) (C : CX p s m args meth c own cc nL ret D K Ax) (hd : decode cc pc = .ok (.faload, 1)) (hi : i < N) (hg : g i = .inl (K 2, n, rf f)) (hx : x = nI j) (hj : j < n) (hn : n ≤ 1000000) (kk : GJ p l e R s m args below meth c nL D Ax Q N A g cs sl (pc + 1) lv (.float (f j) :: st)) : GJ p l e R s m args below meth c nL D Ax Q N A g cs sl pc lv (.int x :: .ref (A i) :: st) := by
  intro H locs ls hP hD hS hl
  obtain ⟨h1, h2⟩ := nI_ix hx hj hn
  have ha : (wl N A g)[i]? = some (A i, .inl (K 2, n, rf f)) := by rw [wl_get hi, hg]
  have k1 := kk H locs ls hP hD hS hl
  rw [← h2] at k1
  exact va_fald C.1 C.2.1 C.2.2.2.2.2.2.2.1 hP i 2 ha rfl h1 hd k1
theorem jx_iast {i n : Nat} {f : Nat → Int32} {x : Int32} {v : Int32} {g1 : Nat → va_E} (j : Nat) (C : CX p s m args meth c own cc nL ret D K Ax) (hd : decode cc pc = .ok (.iastore, 1)) (hi : i < N) (hg : g i = .inl (K 0, n, ri f)) (hx : x = nI j) (hj : j < n) (hn : n ≤ 1000000) (hw1 : wl N A (va_up g i (.inl (K 0, n, ri (upd f j v)))) = wl N A g1) (kk : GJ p l e R s m args below meth c nL D Ax Q N A g1 cs sl (pc + 1) lv st) : GJ p l e R s m args below meth c nL D Ax Q N A g cs sl pc lv (.int v :: .int x :: .ref (A i) :: st) := by
  intro H locs ls hP hD hS hl
  obtain ⟨h1, h2⟩ := nI_ix hx hj hn
  have ha : (wl N A g)[i]? = some (A i, .inl (K 0, n, ri f)) := by rw [wl_get hi, hg]
  refine va_iast C.1 C.2.1 C.2.2.2.2.2.2.2.1 hP hD hS i 0 ha rfl h1 hd (fun H1 locs1 hP1 hD1 hS1 => ?_)
  rw [h2, wl_set, hw1] at hP1 hD1
  exact kk H1 locs1 ls hP1 hD1 hS1 hl
theorem jx_zast {i n : Nat} {f : Nat → Int32} {x : Int32} {v : Int32} {g1 : Nat → va_E} (j : Nat) (C : CX p s m args meth c own cc nL ret D K Ax) (hd : decode cc pc = .ok (.bastore, 1)) (hi : i < N) (hg : g i = .inl (K 1, n, ri f)) (hx : x = nI j) (hj : j < n) (hn : n ≤ 1000000) (hz : vp_nar .boolean v = v) (hw1 : wl N A (va_up g i (.inl (K 1, n, ri (upd f j v)))) = wl N A g1) (kk : GJ p l e R s m args below meth c nL D Ax Q N A g1 cs sl (pc + 1) lv st) : GJ p l e R s m args below meth c nL D Ax Q N A g cs sl pc lv (.int v :: .int x :: .ref (A i) :: st) := by
  intro H locs ls hP hD hS hl
  obtain ⟨h1, h2⟩ := nI_ix hx hj hn
  have ha : (wl N A g)[i]? = some (A i, .inl (K 1, n, ri f)) := by rw [wl_get hi, hg]
  refine va_zast C.1 C.2.1 C.2.2.2.2.2.2.2.1 hP hD hS i 1 ha rfl h1 hd (fun H1 locs1 hP1 hD1 hS1 => ?_)
  rw [h2, hz, wl_set, hw1] at hP1 hD1
  exact kk H1 locs1 ls hP1 hD1 hS1 hl
theorem jx_fast {i n : Nat} {f : Nat → UInt32} {x : Int32} {v : UInt32} {g1 : Nat → va_E} (j : Nat) (C : CX p s m args meth c own cc nL ret D K Ax) (hd : decode cc pc = .ok (.fastore, 1)) (hi : i < N) (hg : g i = .inl (K 2, n, rf f)) (hx : x = nI j) (hj : j < n) (hn : n ≤ 1000000) (hw1 : wl N A (va_up g i (.inl (K 2, n, rf (vf_upd f j v)))) = wl N A g1) (kk : GJ p l e R s m args below meth c nL D Ax Q N A g1 cs sl (pc + 1) lv st) : GJ p l e R s m args below meth c nL D Ax Q N A g cs sl pc lv (.float v :: .int x :: .ref (A i) :: st) := by
  intro H locs ls hP hD hS hl
  obtain ⟨h1, h2⟩ := nI_ix hx hj hn
  have ha : (wl N A g)[i]? = some (A i, .inl (K 2, n, rf f)) := by rw [wl_get hi, hg]
  refine va_fast C.1 C.2.1 C.2.2.2.2.2.2.2.1 hP hD hS i 2 ha rfl h1 hd (fun H1 locs1 hP1 hD1 hS1 => ?_)
  rw [h2, wl_set, hw1] at hP1 hD1
  exact kk H1 locs1 ls hP1 hD1 hS1 hl
theorem jx_aald3 {i n : Nat} {f : Nat → Option Nat} {x : Int32} (j : Nat) (C : CX p s m args meth c own cc nL ret D K Ax) (hd : decode cc pc = .ok (.aaload, 1)) (hi : i < N) (hg : g i = .inl (K 3, n, rq f)) (hx : x = nI j) (hj : j < n) (hn : n ≤ 1000000) (kk : GJ p l e R s m args below meth c nL D Ax Q N A g cs sl (pc + 1) lv (va_rf (f j) :: st)) : GJ p l e R s m args below meth c nL D Ax Q N A g cs sl pc lv (.int x :: .ref (A i) :: st) := by
  intro H locs ls hP hD hS hl
  obtain ⟨h1, h2⟩ := nI_ix hx hj hn
  have ha : (wl N A g)[i]? = some (A i, .inl (K 3, n, rq f)) := by rw [wl_get hi, hg]
  have k1 := kk H locs ls hP hD hS hl
  rw [← h2] at k1
  exact va_aldq C.1 C.2.1 C.2.2.2.2.2.2.2.1 hP i 3 (C := "HandLoom$Lane") ha rfl h1 hd k1
theorem jx_aald4 {i n : Nat} {f : Nat → Option Nat} {x : Int32} (j : Nat) (C : CX p s m args meth c own cc nL ret D K Ax) (hd : decode cc pc = .ok (.aaload, 1)) (hi : i < N) (hg : g i = .inl (K 4, n, rq f)) (hx : x = nI j) (hj : j < n) (hn : n ≤ 1000000) (kk : GJ p l e R s m args below meth c nL D Ax Q N A g cs sl (pc + 1) lv (va_rf (f j) :: st)) : GJ p l e R s m args below meth c nL D Ax Q N A g cs sl pc lv (.int x :: .ref (A i) :: st) := by
  intro H locs ls hP hD hS hl
  obtain ⟨h1, h2⟩ := nI_ix hx hj hn
  have ha : (wl N A g)[i]? = some (A i, .inl (K 4, n, rq f)) := by rw [wl_get hi, hg]
  have k1 := kk H locs ls hP hD hS hl
  rw [← h2] at k1
  exact va_aldq C.1 C.2.1 C.2.2.2.2.2.2.2.1 hP i 4 (C := "HandLoom$Card") ha rfl h1 hd k1
theorem jx_aastN {i n : Nat} {f : Nat → Option Nat} {x : Int32} {g1 : Nat → va_E} (j : Nat) (C : CX p s m args meth c own cc nL ret D K Ax) (hd : decode cc pc = .ok (.aastore, 1)) (hi : i < N) (hg : g i = .inl (K 3, n, rq f)) (hx : x = nI j) (hj : j < n) (hn : n ≤ 1000000) (hw1 : wl N A (va_up g i (.inl (K 3, n, rq (va_up f j none)))) = wl N A g1) (kk : GJ p l e R s m args below meth c nL D Ax Q N A g1 cs sl (pc + 1) lv st) : GJ p l e R s m args below meth c nL D Ax Q N A g cs sl pc lv (.null :: .int x :: .ref (A i) :: st) := by
  intro H locs ls hP hD hS hl
  obtain ⟨h1, h2⟩ := nI_ix hx hj hn
  have ha : (wl N A g)[i]? = some (A i, .inl (K 3, n, rq f)) := by rw [wl_get hi, hg]
  refine va_astqN C.1 C.2.1 C.2.2.2.2.2.2.2.1 hP hD hS i 3 (C := "HandLoom$Lane") ha rfl h1 hd (fun H1 locs1 hP1 hD1 hS1 => ?_)
  rw [h2, wl_set, hw1] at hP1 hD1
  exact kk H1 locs1 ls hP1 hD1 hS1 hl
/-- the class of the object at place q may stand in an array of lanes -/
theorem cast_lane {Cn : String} (hw : Cond.castable Cn "HandLoom$Lane" ∈ nw_l) (hN : NW s) : ∀ comp c0 : ClassId, s.vm.findClass "HandLoom$Lane" = some comp → s.vm.findClass Cn = some c0 → s.vm.assignable c0 comp = true := by
  intro comp c0 h1 h2
  have h := hN _ hw
  obtain ⟨a, b, r1, r2, r3⟩ := Cond.castable_spec h
  rw [h1] at r2
  rw [h2] at r1
  cases r1
  cases r2
  exact r3
theorem jx_aast {i n q ci : Nat} {f : Nat → Option Nat} {x : Int32} {fs : List Value} {r : vw_C} {g1 : Nat → va_E} (j : Nat) (C : CX p s m args meth c own cc nL ret D K Ax) (hd : decode cc pc = .ok (.aastore, 1)) (hi : i < N) (hg : g i = .inl (K 3, n, rq f)) (hq : q < N) (hgq : g q = .inr (ci, fs)) (hc : vwCl[ci]? = some r) (hcw : Cond.castable r.1 "HandLoom$Lane" ∈ nw_l) (hx : x = nI j) (hj : j < n) (hn : n ≤ 1000000) (hw1 : wl N A (va_up g i (.inl (K 3, n, rq (va_up f j (some (A q)))))) = wl N A g1) (kk : GJ p l e R s m args below meth c nL D Ax Q N A g1 cs sl (pc + 1) lv st) : GJ p l e R s m args below meth c nL D Ax Q N A g cs sl pc lv (.ref (A q) :: .int x :: .ref (A i) :: st) := by
  intro H locs ls hP hD hS hl
  obtain ⟨h1, h2⟩ := nI_ix hx hj hn
  have ha : (wl N A g)[i]? = some (A i, .inl (K 3, n, rq f)) := by rw [wl_get hi, hg]
  have hb : (wl N A g)[q]? = some (A q, .inr (ci, fs)) := by rw [wl_get hq, hgq]
  refine va_astqM C.1 C.2.1 C.2.2.2.2.2.2.2.1 hP hD hS i 3 (E := "HandLoom$Lane") ha rfl (va_rAny C.2.2.2.2.2.2.2.1 hP hb hc (cast_lane hcw C.2.2.2.2.2.2.2.2.1)) h1 hd (fun H1 locs1 hP1 hD1 hS1 => ?_)
  rw [h2, wl_set, hw1] at hP1 hD1
  exact kk H1 locs1 ls hP1 hD1 hS1 hl
theorem jx_alen {i t0 : Nat} {a0 : vp_A} {ty : FieldType} {v : Int32} (C : CX p s m args meth c own cc nL ret D K Ax) (hd : decode cc pc = .ok (.arraylength, 1)) (hi : i < N) (hg : g i = .inl (K t0, a0)) (ht : (tyl K)[t0]? = some (K t0, ty)) (hv : Int32.ofNat a0.1 = v) (kk : GJ p l e R s m args below meth c nL D Ax Q N A g cs sl (pc + 1) lv (.int v :: st)) : GJ p l e R s m args below meth c nL D Ax Q N A g cs sl pc lv (.ref (A i) :: st) := by
  intro H locs ls hP hD hS hl
  have ha : (wl N A g)[i]? = some (A i, .inl (K t0, a0)) := by rw [wl_get hi, hg]
  exact va_alen C.1 C.2.1 C.2.2.2.2.2.2.2.1 hP i t0 ha ht hv hd (kk H locs ls hP hD hS hl)
end RF
end
section
/-! contracts and calls over the typed heap -/
abbrev TI : Type := Nat → Nat → Int32
abbrev TU : Type := Nat → Nat → UInt32
abbrev TP : Type := Nat → Option Nat
abbrev TQ : Type := Option Value → TI → TU → TP → Prop
def rmd (d : Nat) : Room := { frames := d, cells := 0, slots := 0, locals := 26 * d }
def QX (D : va_G) (K : Nat → ClassId) (A : Nat → Nat) (Ax : Nat → Prop) (post : TQ) : Array Value → State → Outcome → State → Prop := fun _ st oc t => (∃ (v : Option Value) (I : TI) (U : TU) (P : TP), oc = .returned v ∧ post v I U P ∧ va_P D vwCl (wl 75 A (gg A K I U P)) t.heap) ∧ va_F Ax st t
/-- the exact end -/
def XE (v0 : Option Value) (I0 : TI) (U0 : TU) (P0 : TP) : TQ := fun v I U P => v = v0 ∧ I = I0 ∧ U = U0 ∧ P = P0
def PC (D : va_G) (K : Nat → ClassId) (A : Nat → Nat) (I : TI) (U : TU) (P : TP) (av : List Value) (sz : Nat) : Array Value → State → Prop := va_Pc av (fun S => S.heap.size = sz ∧ va_P D vwCl (wl 75 A (gg A K I U P)) S.heap ∧ va_K D vwCl (tyl K) S ∧ NW S ∧ va_D (fun _ => True) (wl 75 A (gg A K I U P)))
theorem PC.blind {D : va_G} {K : Nat → ClassId} {A : Nat → Nat} {I : TI} {U : TU} {P : TP} {av : List Value} {sz : Nat} : FrameBlind (PC D K A I U P av sz) := by
  intro a S g mk q
  obtain ⟨q0, q1, qP, qK, qN, qD⟩ := q
  exact ⟨q0, q1, qP, va_K.moved (u := S) (U := S.calling g mk a) (Vm.Alike.refl S.vm) qK, NW.same (u := S) (U := S.calling g mk a) rfl qN, qD⟩
/-- method y's contract, of call depth d, from the typed heap (I, U, P) and the arguments av -/
def MM (l : Launch) (y : MethodName) (cc : ByteArray) (nL : Nat) (ret : Option FieldType) (d : Nat) (D : va_G) (K : Nat → ClassId) (A : Nat → Nat) (I : TI) (U : TU) (P : TP) (av : List Value) (post : TQ) : Prop :=
  ∀ sz : Nat, Met l y (.code y cc nL ret :: lw_all) (rmd d) (PC D K A I U P av sz) (QX D K A (AX 75 A sz) post) 0 0 (AX 75 A sz)
abbrev MQX (below : List Frame) (D : va_G) (K : Nat → ClassId) (A : Nat → Nat) (args : Array Value) (s : State) (post : TQ) : State → Prop := MQ below (QX D K A (AX 75 A s.heap.size) post) args s 0 0 (AX 75 A s.heap.size)
theorem MM.mk {l : Launch} {y : MethodName} {cc : ByteArray} {nL : Nat} {ret : Option FieldType} {d : Nat} {D : va_G} {K : Nat → ClassId} {A : Nat → Nat} {I : TI} {U : TU} {P : TP} {av : List Value} {post : TQ} {lv0 : List (Option Value)} {own : String} (ho : y.cls = own) (hy : plainName y.cls = true) (hc : ∀ v ∈ av, v.category = 1) (hn : (lg_sl av).length ≤ nL) (hlv : av.map some ++ List.replicate (nL - av.length) none = lv0)
    (body : ∀ (p : Program) (e : Env) (s : State) (m : MethodId) (args : Array Value) (below : List Frame) (meth : Method) (c : Code), CX p s m args meth c own cc nL ret D K (AX 75 A s.heap.size) → meth.name = y.name →
      GJ p l e (rmd d) s m args below meth c nL D (AX 75 A s.heap.size) (MQX below D K A args s post) 75 A (gg A K I U P) 0 0 0 lv0 []) : MM l y cc nL ret d D K A I U P av post := by
  intro sz
  refine Met.ofW (cc := cc) (maxL := nL) (ret := ret) hy rfl ?_
  intro p e s m args below meth c s₁ B hml hv
  obtain ⟨rfl, hsz, hP, hK, hN, hD⟩ := hv
  subst hsz
  have hts := atoms_spec (ws := Cond.code y cc nL ret :: lw_all) B.pre
  have hown : s.vm.findClass own = some m.cls := by rw [← ho]; exact findClass_of_methodNamed B.named
  have C : CX p s m av.toArray meth c own cc nL ret D K (AX 75 A s.heap.size) := ⟨B.exec, B.bytes, hml, hown, fun w h => hts w (List.mem_cons_of_mem _ h), B.returns, B.notSynchronized, hK, hN, fun q h => Or.inr h⟩
  rw [lg_entry_eq]
  subst hlv
  exact body p e s m av.toArray below meth c C (name_of_methodNamed B.named B.method).1 s.heap [] _ hP (wl_DT hD (fun i hi => Or.inl ⟨i, hi, rfl⟩)) va_S.rf (lh_entry av nL hc hn)
section RET
variable {p : Program} {l : Launch} {e : Env} {R : Room} {s : State} {m : MethodId} {args : Array Value} {below : List Frame} {meth : Method} {c : Code} {nL : Nat} {D : va_G} {pc : Nat} {lv : List (Option Value)} {st : List Value} {own : String} {cc : ByteArray} {ret : Option FieldType} {K : Nat → ClassId} {A : Nat → Nat} {I : TI} {U : TU} {P : TP} {post : TQ}
theorem qx_end {H : Heap} {locs : List Loc} {v : Option Value} (hP : va_P D vwCl (wl 75 A (gg A K I U P)) H) (hS : va_S (AX 75 A s.heap.size) s.heap H locs) (hq : post v I U P) : ∀ t : State, t.heap = H → s.WarmedH t.vm → QX D K A (AX 75 A s.heap.size) post args s (.returned v) t := fun t ht _ => ⟨⟨v, I, U, P, rfl, hq, by rw [ht]; exact hP⟩, hS.F ht⟩
theorem jx_iret {v : Int32} (C : CX p s m args meth c own cc nL (some .int) D K (AX 75 A s.heap.size)) (hd : decode cc pc = .ok (.ireturn, 1)) (hq : post (some (.int v)) I U P) : GJ p l e R s m args below meth c nL D (AX 75 A s.heap.size) (MQX below D K A args s post) 75 A (gg A K I U P) 0 0 pc lv [.int v] := fun H locs ls hP hD hS hl => W.iret C.1 C.2.1 C.2.2.2.2.2.1 (qx_end hP hS hq) (fun q h => hS.2.2 q h) hd C.2.2.2.2.2.2.1
theorem jx_zret {v : Int32} (C : CX p s m args meth c own cc nL (some .boolean) D K (AX 75 A s.heap.size)) (hd : decode cc pc = .ok (.ireturn, 1)) (hn : narrow .boolean (.int v) = .int v) (hq : post (some (.int v)) I U P) : GJ p l e R s m args below meth c nL D (AX 75 A s.heap.size) (MQX below D K A args s post) 75 A (gg A K I U P) 0 0 pc lv [.int v] := fun H locs ls hP hD hS hl => W.zret C.1 C.2.1 C.2.2.2.2.2.1 hn (qx_end hP hS hq) (fun q h => hS.2.2 q h) hd C.2.2.2.2.2.2.1
theorem jx_vret (C : CX p s m args meth c own cc nL none D K (AX 75 A s.heap.size)) (hd : decode cc pc = .ok (.return_, 1)) (hq : post none I U P) : GJ p l e R s m args below meth c nL D (AX 75 A s.heap.size) (MQX below D K A args s post) 75 A (gg A K I U P) 0 0 pc lv [] := fun H locs ls hP hD hS hl => W.vret C.1 C.2.1 C.2.2.2.2.2.1 (qx_end hP hS hq) (fun q h => hS.2.2 q h) hd C.2.2.2.2.2.2.1
theorem jx_fret {v : UInt32} (C : CX p s m args meth c own cc nL (some .float) D K (AX 75 A s.heap.size)) (hd : decode cc pc = .ok (.freturn, 1)) (hq : post (some (.float v)) I U P) : GJ p l e R s m args below meth c nL D (AX 75 A s.heap.size) (MQX below D K A args s post) 75 A (gg A K I U P) 0 0 pc lv [.float v] := fun H locs ls hP hD hS hl => W.fret C.1 C.2.1 C.2.2.2.2.2.1 (qx_end hP hS hq) (fun q h => hS.2.2 q h) hd C.2.2.2.2.2.2.1
theorem jx_aret {v : Value} {cn : String} (C : CX p s m args meth c own cc nL (some (.object cn)) D K (AX 75 A s.heap.size)) (hd : decode cc pc = .ok (.areturn, 1)) (hv : v = .null ∨ ∃ a, v = .ref a) (hq : post (some v) I U P) : GJ p l e R s m args below meth c nL D (AX 75 A s.heap.size) (MQX below D K A args s post) 75 A (gg A K I U P) 0 0 pc lv [v] := fun H locs ls hP hD hS hl => W.aret C.1 C.2.1 C.2.2.2.2.2.1 (Or.inl ⟨_, rfl⟩) hv (qx_end hP hS hq) (fun q h => hS.2.2 q h) hd C.2.2.2.2.2.2.1
end RET
/-! the words of a call -/
def okc (y : MethodName) (k : Nat) : Prop := y.cls ≠ "java/lang/invoke/MethodHandle" ∧ y.cls ≠ "java/lang/invoke/VarHandle" ∧ (parseMethodDescriptor y.desc).map (fun d => d.parameters.length) = some k
def VW (own : String) (idx : Nat) (Cn : String) (y : MethodName) (b : ByteArray) (n : Nat) (r : Option FieldType) (k : Nat) : Prop := GoodIn lw_all (wsV own idx Cn y (Cond.code y b n r :: lw_all)) ∧ y.cls = Cn ∧ okc y k
def SW (own : String) (idx : Nat) (y : MethodName) (b : ByteArray) (n : Nat) (r : Option FieldType) (k : Nat) : Prop := GoodIn lw_all (va_wsS own idx y (Cond.code y b n r :: lw_all)) ∧ okc y k
def UW (own : String) (idx : Nat) (Cn owner : String) (x y : MethodName) (b : ByteArray) (n : Nat) (r : Option FieldType) (k : Nat) : Prop := GoodIn lw_all (va_wsU own idx Cn owner x y (Cond.code y b n r :: lw_all)) ∧ (y = ⟨owner, x.name, x.desc⟩ ∨ Cond.declares ⟨owner, x.name, x.desc⟩ ∈ nw_l) ∧ (owner ≠ "java/lang/invoke/MethodHandle" ∧ owner ≠ "java/lang/invoke/VarHandle" ∧ (parseMethodDescriptor x.desc).map (fun d => d.parameters.length) = some k)
theorem good1 {w : Cond} (h : w ∈ lw_all) : w ∈ lw_all ∧ ((w.onTables && w.keeps) = true ∨ ∃ ty, w = .arrayClass ty) := ⟨h, good_of_word (List.mem_filter.mp h).2⟩
theorem good_app {a : List Cond} {y : MethodName} {b : ByteArray} {n : Nat} {r : Option FieldType} (ha : ∀ w ∈ a, w ∈ lw_all) (hc : Cond.code y b n r ∈ lw_all) : GoodIn lw_all (a ++ (Cond.code y b n r :: lw_all)) := by
  intro w hw
  rcases List.mem_append.mp hw with h | h
  · exact good1 (ha w h)
  · rcases List.mem_cons.mp h with rfl | h
    · exact good1 hc
    · exact good1 h
theorem VW.mk {own : String} {idx : Nat} {Cn : String} {y : MethodName} {b : ByteArray} {n : Nat} {r : Option FieldType} {k : Nat} (h1 : Cond.methodLink own idx y ∈ lw_all) (h2 : Cond.instanceMethod y ∈ lw_all) (h3 : Cond.selects Cn y y ∈ lw_all) (h4 : Cond.initialized Cn ∈ lw_all) (h5 : Cond.code y b n r ∈ lw_all) (h6 : y.cls = Cn) (h7 : okc y k) : VW own idx Cn y b n r k :=
  ⟨good_app (by intro w hw; simp only [List.mem_cons, List.not_mem_nil, or_false] at hw; rcases hw with rfl | rfl | rfl | rfl <;> assumption) h5, h6, h7⟩
theorem SW.mk {own : String} {idx : Nat} {y : MethodName} {b : ByteArray} {n : Nat} {r : Option FieldType} {k : Nat} (h1 : Cond.methodLink own idx y ∈ lw_all) (h2 : Cond.static y ∈ lw_all) (h4 : Cond.initialized y.cls ∈ lw_all) (h5 : Cond.code y b n r ∈ lw_all) (h7 : okc y k) : SW own idx y b n r k :=
  ⟨good_app (by intro w hw; simp only [List.mem_cons, List.not_mem_nil, or_false] at hw; rcases hw with rfl | rfl | rfl <;> assumption) h5, h7⟩
theorem UW.mk {own : String} {idx : Nat} {Cn owner : String} {x y : MethodName} {b : ByteArray} {n : Nat} {r : Option FieldType} {k : Nat} (h1 : Cond.methodLink own idx x ∈ lw_all) (h2 : Cond.sameMethod x.cls owner x.name x.desc ∈ lw_all) (h3 : Cond.selects Cn x y ∈ lw_all) (h4 : Cond.instanceMethod y ∈ lw_all) (h4b : Cond.initialized y.cls ∈ lw_all) (h5 : Cond.code y b n r ∈ lw_all) (h6 : y = ⟨owner, x.name, x.desc⟩ ∨ Cond.declares ⟨owner, x.name, x.desc⟩ ∈ nw_l) (h7 : owner ≠ "java/lang/invoke/MethodHandle" ∧ owner ≠ "java/lang/invoke/VarHandle" ∧ (parseMethodDescriptor x.desc).map (fun d => d.parameters.length) = some k) : UW own idx Cn owner x y b n r k :=
  ⟨good_app (by intro w hw; simp only [List.mem_cons, List.not_mem_nil, or_false] at hw; rcases hw with rfl | rfl | rfl | rfl | rfl <;> assumption) h5, h6, h7⟩
section CALL
variable {p : Program} {l : Launch} {e : Env} {R : Room} {s : State} {m : MethodId} {args : Array Value} {below : List Frame} {meth : Method} {c : Code} {nL : Nat} {D : va_G} {Ax : Nat → Prop} {Q : State → Prop} {cs sl pc : Nat} {lv : List (Option Value)} {st rest : List Value} {own : String} {cc : ByteArray} {ret : Option FieldType} {K : Nat → ClassId} {A : Nat → Nat} {I : TI} {U : TU} {P : TP} {post : TQ}
/-- a call at pc, with the stack st, that leaves rest below its answer -/
def JRun (p : Program) (l : Launch) (e : Env) (R : Room) (s : State) (m : MethodId) (args : Array Value) (below : List Frame) (meth : Method) (c : Code) (nL : Nat) (D : va_G) (Ax : Nat → Prop) (K : Nat → ClassId) (A : Nat → Nat) (I : TI) (U : TU) (P : TP) (cs sl pc : Nat) (lv : List (Option Value)) (st rest : List Value) (post : TQ) : Prop :=
  ∀ (H : Heap) (locs : List Loc) (ls : Array Slot), va_P D vwCl (wl 75 A (gg A K I U P)) H → va_D Ax (wl 75 A (gg A K I U P)) → va_S Ax s.heap H locs → lh ls nL lv → ∃ a : Array Value, va_Run p l e R s m args below meth c H locs cs sl 0 0 (F0 m pc ls st) rest (QX D K A (AX 75 A H.size) post a) (AX 75 A H.size)
theorem jx_after (C : CX p s m args meth c own cc nL ret D K Ax) (h : JRun p l e R s m args below meth c nL D Ax K A I U P cs sl pc lv st rest post)
    (kk : ∀ (v : Option Value) (I1 : TI) (U1 : TU) (P1 : TP), post v I1 U1 P1 → GJ p l e R s m args below meth c nL D Ax Q 75 A (gg A K I1 U1 P1) cs sl (pc + 3) lv (v.toList ++ rest)) : GJ p l e R s m args below meth c nL D Ax Q 75 A (gg A K I U P) cs sl pc lv st := by
  intro H locs ls hP hD hS hl T hT X
  obtain ⟨a, hr⟩ := h H locs ls hP hD hS hl
  obtain ⟨v, st₀, t, T', L, h0, X', hL, e1, e2, ⟨⟨v', I1, U1, P1, hv, hp, hb⟩, hz, hk⟩, stp⟩ := hr T hT X
  cases hv
  rw [h0] at hz hk
  have hA : ∀ q, AX 75 A H.size q → Ax q := by
    intro q hq
    rcases hq with ⟨i, hi, rfl⟩ | hq
    · exact hD.2 i _ (wl_get hi)
    · exact C.2.2.2.2.2.2.2.2.2 q (Nat.le_trans hS.1 hq)
  obtain ⟨t2, a1, b1⟩ := kk v I1 U1 P1 hp T'.heap (locs ++ L) ls (by rw [e1]; exact hb) (wl_D hD)
    ⟨Nat.le_trans hS.1 (by rw [e1]; exact hz), fun q h1 h2 => by rw [e1, hk q (Nat.lt_of_lt_of_le h1 hS.1) (fun z => h2 (hA q z))]; exact hS.2.1 q h1 h2, fun q hq => by
      rcases List.mem_append.mp hq with h | h
      · exact hS.2.2 q h
      · exact hA _ (hL q h)⟩ hl T' rfl X'
  exact ⟨t2, stp t2 a1, b1⟩
theorem jx_one {v : Value} {I1 : TI} {U1 : TU} {P1 : TP} (C : CX p s m args meth c own cc nL ret D K Ax) (h : JRun p l e R s m args below meth c nL D Ax K A I U P cs sl pc lv st rest (XE (some v) I1 U1 P1)) (kk : GJ p l e R s m args below meth c nL D Ax Q 75 A (gg A K I1 U1 P1) cs sl (pc + 3) lv (v :: rest)) : GJ p l e R s m args below meth c nL D Ax Q 75 A (gg A K I U P) cs sl pc lv st := by
  refine jx_after C h (fun v' I' U' P' hq => ?_)
  obtain ⟨rfl, rfl, rfl, rfl⟩ := hq
  exact kk
theorem jx_void {I1 : TI} {U1 : TU} {P1 : TP} (C : CX p s m args meth c own cc nL ret D K Ax) (h : JRun p l e R s m args below meth c nL D Ax K A I U P cs sl pc lv st rest (XE none I1 U1 P1)) (kk : GJ p l e R s m args below meth c nL D Ax Q 75 A (gg A K I1 U1 P1) cs sl (pc + 3) lv rest) : GJ p l e R s m args below meth c nL D Ax Q 75 A (gg A K I U P) cs sl pc lv st := by
  refine jx_after C h (fun v' I' U' P' hq => ?_)
  obtain ⟨rfl, rfl, rfl, rfl⟩ := hq
  exact kk
theorem pc_of {H : Heap} (C : CX p s m args meth c own cc nL ret D K Ax) {av : List Value} (hP : va_P D vwCl (wl 75 A (gg A K I U P)) H) (hD : va_D Ax (wl 75 A (gg A K I U P))) : ∀ S : State, S.heap = H → s.WarmedH S.vm → PC D K A I U P av H.size av.toArray S := fun S hS hW => ⟨rfl, by rw [hS], by rw [hS]; exact hP, va_K.moved hW.alike C.2.2.2.2.2.2.2.1, NW.warm hW C.2.2.2.2.2.2.2.2.1, hD.weaken (fun _ _ _ _ => trivial)⟩
theorem jr_V {y : MethodName} {b : ByteArray} {n : Nat} {r : Option FieldType} {d i ci k idx : Nat} {fs As : List Value} {q : vw_C} (C : CX p s m args meth c own cc nL ret D K Ax) (hM : MM l y b n r d D K A I U P (.ref (A i) :: As) post) (w : VW own idx q.1 y b n r k) (hi : i < 75) (hg : gg A K I U P i = .inr (ci, fs)) (hc : vwCl[ci]? = some q) (hk : As.length = k) (hR : d + 1 ≤ R.frames ∧ 8 + (n + 11) + 26 * d ≤ R.locals) (hf : cs ≤ R.cells ∧ sl ≤ R.slots) (hd : decode cc pc = .ok (.invokevirtual idx, 3)) (hst : st = As.reverse ++ .ref (A i) :: rest) (hro : (rest.map fun v => v.category).sum ≤ 8) : JRun p l e R s m args below meth c nL D Ax K A I U P cs sl pc lv st rest post := by
  intro H locs ls hP hD hS hl
  have he : (wl 75 A (gg A K I U P))[i]? = some (A i, .inr (ci, fs)) := by rw [wl_get hi, hg]
  exact ⟨_, va_runV (As := As) (rest := rest) ⟨C.1, C.2.1, C.2.2.1, C.2.2.2.1, C.2.2.2.2.1⟩ (hM H.size) (cwV k C.2.2.2.2.1 w.1 rfl rfl rfl ⟨w.2.1, w.2.2⟩ hR) ⟨PC.blind, va_recv C.2.2.2.2.2.2.2.1 hP hc he, pc_of C hP hD⟩ rfl hk hl.1 hst (lv_room hro) hd hf⟩
theorem jr_S {y : MethodName} {b : ByteArray} {n : Nat} {r : Option FieldType} {d k idx : Nat} {As : List Value} (C : CX p s m args meth c own cc nL ret D K Ax) (hM : MM l y b n r d D K A I U P As post) (w : SW own idx y b n r k) (hk : As.length = k) (hR : d + 1 ≤ R.frames ∧ 8 + (n + 11) + 26 * d ≤ R.locals) (hf : cs ≤ R.cells ∧ sl ≤ R.slots) (hd : decode cc pc = .ok (.invokestatic idx, 3)) (hst : st = As.reverse ++ rest) (hro : (rest.map fun v => v.category).sum ≤ 8) : JRun p l e R s m args below meth c nL D Ax K A I U P cs sl pc lv st rest post := by
  intro H locs ls hP hD hS hl
  exact ⟨_, va_runS (As := As) (rest := rest) ⟨C.1, C.2.1, C.2.2.1, C.2.2.2.1, C.2.2.2.2.1⟩ (hM H.size) (va_cwS k C.2.2.2.2.1 w.1 rfl rfl rfl w.2 hR) ⟨PC.blind, pc_of C hP hD⟩ rfl hk hl.1 hst (lv_room hro) hd hf⟩
theorem jr_U {x y : MethodName} {owner : String} {b : ByteArray} {n : Nat} {r : Option FieldType} {d i ci k idx : Nat} {fs As : List Value} {q : vw_C} (C : CX p s m args meth c own cc nL ret D K Ax) (hM : MM l y b n r d D K A I U P (.ref (A i) :: As) post) (w : UW own idx q.1 owner x y b n r k) (hi : i < 75) (hg : gg A K I U P i = .inr (ci, fs)) (hc : vwCl[ci]? = some q) (hk : As.length = k) (hR : d + 1 ≤ R.frames ∧ 8 + (n + 11) + 26 * d ≤ R.locals) (hf : cs ≤ R.cells ∧ sl ≤ R.slots) (hd : decode cc pc = .ok (.invokevirtual idx, 3)) (hst : st = As.reverse ++ .ref (A i) :: rest) (hro : (rest.map fun v => v.category).sum ≤ 8) : JRun p l e R s m args below meth c nL D Ax K A I U P cs sl pc lv st rest post := by
  intro H locs ls hP hD hS hl
  have he : (wl 75 A (gg A K I U P))[i]? = some (A i, .inr (ci, fs)) := by rw [wl_get hi, hg]
  have cw : va_CU R s args own q.1 owner idx x y b n r (Cond.code y b n r :: lw_all) (rmd d) 0 0 k := by
    rcases w.2.1 with h | h
    · exact va_cwU k C.2.2.2.2.1 w.1 rfl rfl rfl h w.2.2 hR
    · exact va_cwA k C.2.2.2.2.1 w.1 rfl rfl rfl (C.2.2.2.2.2.2.2.2.1 _ h) w.2.2 hR
  exact ⟨_, va_runU (As := As) (rest := rest) ⟨C.1, C.2.1, C.2.2.1, C.2.2.2.1, C.2.2.2.2.1⟩ (hM H.size) cw ⟨PC.blind, va_recv C.2.2.2.2.2.2.2.1 hP hc he, pc_of C hP hD⟩ rfl hk hl.1 hst (lv_room hro) hd hf⟩
end CALL
end
section
theorem uws_0 : ∀ w ∈ u_ws RX0 TX0 5, w ∈ lw_all := by decide +kernel
theorem uws_1 : ∀ w ∈ u_ws RX1 TX1 5, w ∈ lw_all := by decide +kernel
theorem uws_2 : ∀ w ∈ u_ws RX2 TX2 2, w ∈ lw_all := by decide +kernel
theorem uws_3 : ∀ w ∈ u_ws RX4 TX4 2, w ∈ lw_all := by decide +kernel
theorem uws_4 : ∀ w ∈ u_ws RX5 TX5 2, w ∈ lw_all := by decide +kernel
theorem uws_5 : ∀ w ∈ u_ws RX6 TX6 3, w ∈ lw_all := by decide +kernel
theorem uws_6 : ∀ w ∈ u_ws RX7 TX7 2, w ∈ lw_all := by decide +kernel
theorem uws_7 : ∀ w ∈ u_ws RX8 TX8 2, w ∈ lw_all := by decide +kernel
theorem uws_8 : ∀ w ∈ u_ws RX9 TX9 3, w ∈ lw_all := by decide +kernel
theorem uws_9 : ∀ w ∈ u_ws RX10 TX10 8, w ∈ lw_all := by decide +kernel
theorem uws_10 : ∀ w ∈ u_ws RX11 TX11 18, w ∈ lw_all := by decide +kernel
theorem fl_10_10_9 : FL RX10 10 9 0 := ⟨RX10, TX10, 8, rfl, by decide, uws_9, Or.inl qw_180⟩
theorem fl_10_19_9 : FL RX10 19 9 1 := ⟨RX10, TX10, 8, rfl, by decide, uws_9, Or.inl qw_181⟩
theorem fl_10_26_9 : FL RX10 26 9 2 := ⟨RX10, TX10, 8, rfl, by decide, uws_9, Or.inl qw_182⟩
theorem fl_10_33_9 : FL RX10 33 9 3 := ⟨RX10, TX10, 8, rfl, by decide, uws_9, Or.inl qw_183⟩
theorem fl_10_40_9 : FL RX10 40 9 4 := ⟨RX10, TX10, 8, rfl, by decide, uws_9, Or.inl qw_184⟩
theorem fl_10_44_9 : FL RX10 44 9 5 := ⟨RX10, TX10, 8, rfl, by decide, uws_9, Or.inl qw_185⟩
theorem fp_10_44_9 : FP0 RX10 44 9 5 .int := ⟨RX10, TX10, 8, rfl, by decide, uws_9, Or.inl qw_185, rfl, by decide +kernel, ⟨tyX10, tyX10_ok⟩, nmX10⟩
theorem fl_10_48_9 : FL RX10 48 9 6 := ⟨RX10, TX10, 8, rfl, by decide, uws_9, Or.inl qw_186⟩
theorem fp_10_48_9 : FP0 RX10 48 9 6 .int := ⟨RX10, TX10, 8, rfl, by decide, uws_9, Or.inl qw_186, rfl, by decide +kernel, ⟨tyX10, tyX10_ok⟩, nmX10⟩
theorem fl_10_51_9 : FL RX10 51 9 7 := ⟨RX10, TX10, 8, rfl, by decide, uws_9, Or.inl qw_187⟩
theorem fp_10_51_9 : FP0 RX10 51 9 7 .int := ⟨RX10, TX10, 8, rfl, by decide, uws_9, Or.inl qw_187, rfl, by decide +kernel, ⟨tyX10, tyX10_ok⟩, nmX10⟩
theorem fl_10_160_0 : FL RX10 160 0 0 := ⟨RX0, TX0, 5, rfl, by decide, uws_0, Or.inr ⟨"HandLoom", by decide +kernel⟩⟩
theorem fp_10_160_0 : FP0 RX10 160 0 0 .int := ⟨RX0, TX0, 5, rfl, by decide, uws_0, Or.inr ⟨"HandLoom", by decide +kernel⟩, rfl, by decide +kernel, ⟨tyX0, tyX0_ok⟩, nmX0⟩
theorem fl_10_165_0 : FL RX10 165 0 1 := ⟨RX0, TX0, 5, rfl, by decide, uws_0, Or.inr ⟨"HandLoom", by decide +kernel⟩⟩
theorem fp_10_165_0 : FP0 RX10 165 0 1 .int := ⟨RX0, TX0, 5, rfl, by decide, uws_0, Or.inr ⟨"HandLoom", by decide +kernel⟩, rfl, by decide +kernel, ⟨tyX0, tyX0_ok⟩, nmX0⟩
theorem fl_10_168_0 : FL RX10 168 0 2 := ⟨RX0, TX0, 5, rfl, by decide, uws_0, Or.inr ⟨"HandLoom", by decide +kernel⟩⟩
theorem fp_10_168_0 : FP0 RX10 168 0 2 .int := ⟨RX0, TX0, 5, rfl, by decide, uws_0, Or.inr ⟨"HandLoom", by decide +kernel⟩, rfl, by decide +kernel, ⟨tyX0, tyX0_ok⟩, nmX0⟩
theorem fl_10_171_0 : FL RX10 171 0 3 := ⟨RX0, TX0, 5, rfl, by decide, uws_0, Or.inr ⟨"HandLoom", by decide +kernel⟩⟩
theorem fp_10_171_0 : FP0 RX10 171 0 3 .int := ⟨RX0, TX0, 5, rfl, by decide, uws_0, Or.inr ⟨"HandLoom", by decide +kernel⟩, rfl, by decide +kernel, ⟨tyX0, tyX0_ok⟩, nmX0⟩
theorem fl_10_174_0 : FL RX10 174 0 4 := ⟨RX0, TX0, 5, rfl, by decide, uws_0, Or.inr ⟨"HandLoom", by decide +kernel⟩⟩
theorem fp_10_174_0 : FP0 RX10 174 0 4 .int := ⟨RX0, TX0, 5, rfl, by decide, uws_0, Or.inr ⟨"HandLoom", by decide +kernel⟩, rfl, by decide +kernel, ⟨tyX0, tyX0_ok⟩, nmX0⟩
theorem fl_0_9_0 : FL RX0 9 0 0 := ⟨RX0, TX0, 5, rfl, by decide, uws_0, Or.inl qw_134⟩
theorem fp_0_9_0 : FP0 RX0 9 0 0 .int := ⟨RX0, TX0, 5, rfl, by decide, uws_0, Or.inl qw_134, rfl, by decide +kernel, ⟨tyX0, tyX0_ok⟩, nmX0⟩
theorem fl_0_15_0 : FL RX0 15 0 1 := ⟨RX0, TX0, 5, rfl, by decide, uws_0, Or.inl qw_137⟩
theorem fp_0_15_0 : FP0 RX0 15 0 1 .int := ⟨RX0, TX0, 5, rfl, by decide, uws_0, Or.inl qw_137, rfl, by decide +kernel, ⟨tyX0, tyX0_ok⟩, nmX0⟩
theorem fl_0_18_0 : FL RX0 18 0 2 := ⟨RX0, TX0, 5, rfl, by decide, uws_0, Or.inl qw_140⟩
theorem fp_0_18_0 : FP0 RX0 18 0 2 .int := ⟨RX0, TX0, 5, rfl, by decide, uws_0, Or.inl qw_140, rfl, by decide +kernel, ⟨tyX0, tyX0_ok⟩, nmX0⟩
theorem fl_0_21_0 : FL RX0 21 0 3 := ⟨RX0, TX0, 5, rfl, by decide, uws_0, Or.inl qw_143⟩
theorem fp_0_21_0 : FP0 RX0 21 0 3 .int := ⟨RX0, TX0, 5, rfl, by decide, uws_0, Or.inl qw_143, rfl, by decide +kernel, ⟨tyX0, tyX0_ok⟩, nmX0⟩
theorem fl_0_24_0 : FL RX0 24 0 4 := ⟨RX0, TX0, 5, rfl, by decide, uws_0, Or.inl qw_146⟩
theorem fp_0_24_0 : FP0 RX0 24 0 4 .int := ⟨RX0, TX0, 5, rfl, by decide, uws_0, Or.inl qw_146, rfl, by decide +kernel, ⟨tyX0, tyX0_ok⟩, nmX0⟩
theorem fl_1_9_1 : FL RX1 9 1 0 := ⟨RX1, TX1, 5, rfl, by decide, uws_1, Or.inl qw_105⟩
theorem fl_1_15_1 : FL RX1 15 1 1 := ⟨RX1, TX1, 5, rfl, by decide, uws_1, Or.inl qw_106⟩
theorem fl_1_18_1 : FL RX1 18 1 2 := ⟨RX1, TX1, 5, rfl, by decide, uws_1, Or.inl qw_107⟩
theorem fp_1_18_1 : FP0 RX1 18 1 2 .boolean := ⟨RX1, TX1, 5, rfl, by decide, uws_1, Or.inl qw_107, rfl, by decide +kernel, ⟨tyX1, tyX1_ok⟩, nmX1⟩
theorem fl_1_22_1 : FL RX1 22 1 3 := ⟨RX1, TX1, 5, rfl, by decide, uws_1, Or.inl qw_108⟩
theorem fp_1_22_1 : FP0 RX1 22 1 3 .int := ⟨RX1, TX1, 5, rfl, by decide, uws_1, Or.inl qw_108, rfl, by decide +kernel, ⟨tyX1, tyX1_ok⟩, nmX1⟩
theorem fl_1_26_1 : FL RX1 26 1 4 := ⟨RX1, TX1, 5, rfl, by decide, uws_1, Or.inl qw_109⟩
theorem fp_1_26_1 : FP0 RX1 26 1 4 .int := ⟨RX1, TX1, 5, rfl, by decide, uws_1, Or.inl qw_109, rfl, by decide +kernel, ⟨tyX1, tyX1_ok⟩, nmX1⟩
theorem fl_2_11_2 : FL RX2 11 2 0 := ⟨RX2, TX2, 2, rfl, by decide, uws_2, Or.inl qw_160⟩
theorem fl_2_17_2 : FL RX2 17 2 1 := ⟨RX2, TX2, 2, rfl, by decide, uws_2, Or.inl qw_161⟩
theorem fp_2_17_2 : FP0 RX2 17 2 1 .int := ⟨RX2, TX2, 2, rfl, by decide, uws_2, Or.inl qw_161, rfl, by decide +kernel, ⟨tyX2, tyX2_ok⟩, nmX2⟩
theorem fl_2_26_0 : FL RX2 26 0 0 := ⟨RX0, TX0, 5, rfl, by decide, uws_0, Or.inr ⟨"HandLoom", by decide +kernel⟩⟩
theorem fp_2_26_0 : FP0 RX2 26 0 0 .int := ⟨RX0, TX0, 5, rfl, by decide, uws_0, Or.inr ⟨"HandLoom", by decide +kernel⟩, rfl, by decide +kernel, ⟨tyX0, tyX0_ok⟩, nmX0⟩
theorem fl_2_29_0 : FL RX2 29 0 1 := ⟨RX0, TX0, 5, rfl, by decide, uws_0, Or.inr ⟨"HandLoom", by decide +kernel⟩⟩
theorem fp_2_29_0 : FP0 RX2 29 0 1 .int := ⟨RX0, TX0, 5, rfl, by decide, uws_0, Or.inr ⟨"HandLoom", by decide +kernel⟩, rfl, by decide +kernel, ⟨tyX0, tyX0_ok⟩, nmX0⟩
theorem fl_2_32_0 : FL RX2 32 0 2 := ⟨RX0, TX0, 5, rfl, by decide, uws_0, Or.inr ⟨"HandLoom", by decide +kernel⟩⟩
theorem fp_2_32_0 : FP0 RX2 32 0 2 .int := ⟨RX0, TX0, 5, rfl, by decide, uws_0, Or.inr ⟨"HandLoom", by decide +kernel⟩, rfl, by decide +kernel, ⟨tyX0, tyX0_ok⟩, nmX0⟩
theorem fl_2_35_0 : FL RX2 35 0 3 := ⟨RX0, TX0, 5, rfl, by decide, uws_0, Or.inr ⟨"HandLoom", by decide +kernel⟩⟩
theorem fp_2_35_0 : FP0 RX2 35 0 3 .int := ⟨RX0, TX0, 5, rfl, by decide, uws_0, Or.inr ⟨"HandLoom", by decide +kernel⟩, rfl, by decide +kernel, ⟨tyX0, tyX0_ok⟩, nmX0⟩
theorem fl_2_38_0 : FL RX2 38 0 4 := ⟨RX0, TX0, 5, rfl, by decide, uws_0, Or.inr ⟨"HandLoom", by decide +kernel⟩⟩
theorem fp_2_38_0 : FP0 RX2 38 0 4 .int := ⟨RX0, TX0, 5, rfl, by decide, uws_0, Or.inr ⟨"HandLoom", by decide +kernel⟩, rfl, by decide +kernel, ⟨tyX0, tyX0_ok⟩, nmX0⟩
theorem fl_3_9_4 : FL RX3 9 4 0 := ⟨RX5, TX5, 2, rfl, by decide, uws_4, Or.inl qw_42⟩
theorem fp_3_9_4 : FP0 RX3 9 4 0 .int := ⟨RX5, TX5, 2, rfl, by decide, uws_4, Or.inl qw_42, rfl, by decide +kernel, ⟨tyX5, tyX5_ok⟩, nmX5⟩
theorem fl_3_9_6 : FL RX3 9 6 0 := ⟨RX7, TX7, 2, rfl, by decide, uws_6, Or.inl qw_42⟩
theorem fp_3_9_6 : FP0 RX3 9 6 0 .int := ⟨RX7, TX7, 2, rfl, by decide, uws_6, Or.inl qw_42, rfl, by decide +kernel, ⟨tyX7, tyX7_ok⟩, nmX7⟩
theorem fl_3_9_8 : FL RX3 9 8 0 := ⟨RX9, TX9, 3, rfl, by decide, uws_8, Or.inl qw_42⟩
theorem fp_3_9_8 : FP0 RX3 9 8 0 .int := ⟨RX9, TX9, 3, rfl, by decide, uws_8, Or.inl qw_42, rfl, by decide +kernel, ⟨tyX9, tyX9_ok⟩, nmX9⟩
theorem fl_4_9_3 : FL RX4 9 3 0 := ⟨RX4, TX4, 2, rfl, by decide, uws_3, Or.inl qw_173⟩
theorem fl_4_15_3 : FL RX4 15 3 1 := ⟨RX4, TX4, 2, rfl, by decide, uws_3, Or.inl qw_174⟩
theorem fp_4_15_3 : FP0 RX4 15 3 1 .int := ⟨RX4, TX4, 2, rfl, by decide, uws_3, Or.inl qw_174, rfl, by decide +kernel, ⟨tyX4, tyX4_ok⟩, nmX4⟩
theorem fl_5_9_4 : FL RX5 9 4 1 := ⟨RX5, TX5, 2, rfl, by decide, uws_4, Or.inl qw_55⟩
theorem fl_6_9_5 : FL RX6 9 5 0 := ⟨RX6, TX6, 3, rfl, by decide, uws_5, Or.inl qw_89⟩
theorem fl_6_15_5 : FL RX6 15 5 1 := ⟨RX6, TX6, 3, rfl, by decide, uws_5, Or.inl qw_90⟩
theorem fp_6_15_5 : FP0 RX6 15 5 1 .int := ⟨RX6, TX6, 3, rfl, by decide, uws_5, Or.inl qw_90, rfl, by decide +kernel, ⟨tyX6, tyX6_ok⟩, nmX6⟩
theorem fl_6_19_5 : FL RX6 19 5 2 := ⟨RX6, TX6, 3, rfl, by decide, uws_5, Or.inl qw_91⟩
theorem fp_6_19_5 : FP0 RX6 19 5 2 .int := ⟨RX6, TX6, 3, rfl, by decide, uws_5, Or.inl qw_91, rfl, by decide +kernel, ⟨tyX6, tyX6_ok⟩, nmX6⟩
theorem fl_7_9_6 : FL RX7 9 6 1 := ⟨RX7, TX7, 2, rfl, by decide, uws_6, Or.inl qw_41⟩
theorem fl_8_11_7 : FL RX8 11 7 0 := ⟨RX8, TX8, 2, rfl, by decide, uws_7, Or.inl qw_76⟩
theorem fl_8_17_7 : FL RX8 17 7 1 := ⟨RX8, TX8, 2, rfl, by decide, uws_7, Or.inl qw_77⟩
theorem fl_9_9_8 : FL RX9 9 8 2 := ⟨RX9, TX9, 3, rfl, by decide, uws_8, Or.inl qw_68⟩
theorem fl_9_15_8 : FL RX9 15 8 1 := ⟨RX9, TX9, 3, rfl, by decide, uws_8, Or.inl qw_67⟩
theorem fl_11_7_10 : FL RX11 7 10 0 := ⟨RX11, TX11, 18, rfl, by decide, uws_10, Or.inl qw_568⟩
theorem fl_11_13_10 : FL RX11 13 10 1 := ⟨RX11, TX11, 18, rfl, by decide, uws_10, Or.inl qw_569⟩
theorem fl_11_16_10 : FL RX11 16 10 2 := ⟨RX11, TX11, 18, rfl, by decide, uws_10, Or.inl qw_570⟩
theorem fl_11_19_10 : FL RX11 19 10 3 := ⟨RX11, TX11, 18, rfl, by decide, uws_10, Or.inl qw_571⟩
theorem fl_11_23_10 : FL RX11 23 10 4 := ⟨RX11, TX11, 18, rfl, by decide, uws_10, Or.inl qw_572⟩
theorem fl_11_26_10 : FL RX11 26 10 9 := ⟨RX11, TX11, 18, rfl, by decide, uws_10, Or.inl qw_577⟩
theorem fl_11_29_10 : FL RX11 29 10 10 := ⟨RX11, TX11, 18, rfl, by decide, uws_10, Or.inl qw_578⟩
theorem fl_11_32_10 : FL RX11 32 10 11 := ⟨RX11, TX11, 18, rfl, by decide, uws_10, Or.inl qw_579⟩
theorem fl_11_35_10 : FL RX11 35 10 15 := ⟨RX11, TX11, 18, rfl, by decide, uws_10, Or.inl qw_583⟩
theorem fl_11_42_10 : FL RX11 42 10 14 := ⟨RX11, TX11, 18, rfl, by decide, uws_10, Or.inl qw_582⟩
theorem fp_11_42_10 : FP0 RX11 42 10 14 .int := ⟨RX11, TX11, 18, rfl, by decide, uws_10, Or.inl qw_582, rfl, by decide +kernel, ⟨tyX11, tyX11_ok⟩, nmX11⟩
theorem fl_11_61_10 : FL RX11 61 10 5 := ⟨RX11, TX11, 18, rfl, by decide, uws_10, Or.inl qw_573⟩
theorem fp_11_61_10 : FP0 RX11 61 10 5 .int := ⟨RX11, TX11, 18, rfl, by decide, uws_10, Or.inl qw_573, rfl, by decide +kernel, ⟨tyX11, tyX11_ok⟩, nmX11⟩
theorem fl_11_104_10 : FL RX11 104 10 6 := ⟨RX11, TX11, 18, rfl, by decide, uws_10, Or.inl qw_574⟩
theorem fp_11_104_10 : FP0 RX11 104 10 6 .boolean := ⟨RX11, TX11, 18, rfl, by decide, uws_10, Or.inl qw_574, rfl, by decide +kernel, ⟨tyX11, tyX11_ok⟩, nmX11⟩
theorem fl_11_108_10 : FL RX11 108 10 7 := ⟨RX11, TX11, 18, rfl, by decide, uws_10, Or.inl qw_575⟩
theorem fp_11_108_10 : FP0 RX11 108 10 7 .int := ⟨RX11, TX11, 18, rfl, by decide, uws_10, Or.inl qw_575, rfl, by decide +kernel, ⟨tyX11, tyX11_ok⟩, nmX11⟩
theorem fl_11_111_10 : FL RX11 111 10 8 := ⟨RX11, TX11, 18, rfl, by decide, uws_10, Or.inl qw_576⟩
theorem fp_11_111_10 : FP0 RX11 111 10 8 .int := ⟨RX11, TX11, 18, rfl, by decide, uws_10, Or.inl qw_576, rfl, by decide +kernel, ⟨tyX11, tyX11_ok⟩, nmX11⟩
theorem fl_11_123_10 : FL RX11 123 10 17 := ⟨RX11, TX11, 18, rfl, by decide, uws_10, Or.inl qw_585⟩
theorem fp_11_123_10 : FP0 RX11 123 10 17 .int := ⟨RX11, TX11, 18, rfl, by decide, uws_10, Or.inl qw_585, rfl, by decide +kernel, ⟨tyX11, tyX11_ok⟩, nmX11⟩
theorem fl_11_126_10 : FL RX11 126 10 12 := ⟨RX11, TX11, 18, rfl, by decide, uws_10, Or.inl qw_580⟩
theorem fp_11_126_10 : FP0 RX11 126 10 12 .int := ⟨RX11, TX11, 18, rfl, by decide, uws_10, Or.inl qw_580, rfl, by decide +kernel, ⟨tyX11, tyX11_ok⟩, nmX11⟩
theorem fl_11_129_10 : FL RX11 129 10 13 := ⟨RX11, TX11, 18, rfl, by decide, uws_10, Or.inl qw_581⟩
theorem fp_11_129_10 : FP0 RX11 129 10 13 .int := ⟨RX11, TX11, 18, rfl, by decide, uws_10, Or.inl qw_581, rfl, by decide +kernel, ⟨tyX11, tyX11_ok⟩, nmX11⟩
theorem fl_11_132_10 : FL RX11 132 10 16 := ⟨RX11, TX11, 18, rfl, by decide, uws_10, Or.inl qw_584⟩
theorem fp_11_132_10 : FP0 RX11 132 10 16 .int := ⟨RX11, TX11, 18, rfl, by decide, uws_10, Or.inl qw_584, rfl, by decide +kernel, ⟨tyX11, tyX11_ok⟩, nmX11⟩
theorem sw_10_54 : SW RX10 54 yX8_isLane cX8_isLane 2 (some .boolean) 2 := SW.mk qw_209 qw_210 qw_2 qw_211 ⟨by decide +kernel, by decide +kernel, by decide +kernel⟩
theorem vw_10_59 : VW RX10 59 RX4 yX4_begin cX4_begin 1 none 0 := VW.mk qw_216 qw_217 qw_218 qw_11 qw_219 rfl ⟨by decide +kernel, by decide +kernel, by decide +kernel⟩
theorem vw_10_62 : VW RX10 62 RX4 yX4_tell cX4_tell 2 (some .int) 1 := VW.mk qw_220 qw_221 qw_222 qw_11 qw_223 rfl ⟨by decide +kernel, by decide +kernel, by decide +kernel⟩
theorem vw_10_66 : VW RX10 66 RX8 yX8_stretch cX8_stretch 5 none 3 := VW.mk qw_224 qw_225 qw_226 qw_2 qw_227 rfl ⟨by decide +kernel, by decide +kernel, by decide +kernel⟩
theorem vw_10_70 : VW RX10 70 RX8 yX8_laneAt cX8_laneAt 3 (some (.object "HandLoom$Lane")) 2 := VW.mk qw_267 qw_268 qw_269 qw_2 qw_270 rfl ⟨by decide +kernel, by decide +kernel, by decide +kernel⟩
theorem vw_10_74 : VW RX10 74 RX8 yX8_loosen cX8_loosen 3 none 2 := VW.mk qw_271 qw_230 qw_231 qw_2 qw_232 rfl ⟨by decide +kernel, by decide +kernel, by decide +kernel⟩
theorem sw_10_78 : SW RX10 78 yX8_isFrame cX8_isFrame 1 (some .boolean) 1 := SW.mk qw_276 qw_213 qw_2 qw_214 ⟨by decide +kernel, by decide +kernel, by decide +kernel⟩
theorem vw_10_82 : VW RX10 82 RX8 yX8_join cX8_join 4 none 3 := VW.mk qw_277 qw_278 qw_279 qw_2 qw_280 rfl ⟨by decide +kernel, by decide +kernel, by decide +kernel⟩
theorem uw_10_85_4 : UW RX10 85 RX5 "HandLoom$Lane" ⟨"HandLoom$Lane", "count", "()I"⟩ yX3_count cX3_count 1 (some .int) 0 := UW.mk qw_282 qw_284 qw_285 qw_283 qw_3 qw_288 (Or.inl rfl) ⟨by decide +kernel, by decide +kernel, by decide +kernel⟩
theorem uw_10_85_6 : UW RX10 85 RX7 "HandLoom$Lane" ⟨"HandLoom$Lane", "count", "()I"⟩ yX3_count cX3_count 1 (some .int) 0 := UW.mk qw_282 qw_284 qw_286 qw_283 qw_3 qw_288 (Or.inl rfl) ⟨by decide +kernel, by decide +kernel, by decide +kernel⟩
theorem uw_10_85_8 : UW RX10 85 RX9 "HandLoom$Lane" ⟨"HandLoom$Lane", "count", "()I"⟩ yX3_count cX3_count 1 (some .int) 0 := UW.mk qw_282 qw_284 qw_287 qw_283 qw_3 qw_288 (Or.inl rfl) ⟨by decide +kernel, by decide +kernel, by decide +kernel⟩
theorem vw_10_91 : VW RX10 91 RX6 yX6_isFull cX6_isFull 1 (some .boolean) 0 := VW.mk qw_297 qw_298 qw_299 qw_7 qw_300 rfl ⟨by decide +kernel, by decide +kernel, by decide +kernel⟩
theorem vw_10_95 : VW RX10 95 RX6 yX6_wind cX6_wind 2 none 1 := VW.mk qw_301 qw_302 qw_303 qw_7 qw_304 rfl ⟨by decide +kernel, by decide +kernel, by decide +kernel⟩
theorem vw_10_99 : VW RX10 99 RX6 yX6_count cX6_count 1 (some .int) 0 := VW.mk qw_306 qw_307 qw_308 qw_7 qw_309 rfl ⟨by decide +kernel, by decide +kernel, by decide +kernel⟩
theorem sw_10_100 : SW RX10 100 yX10_isAct cX10_isAct 1 (some .boolean) 1 := SW.mk qw_314 qw_315 qw_1 qw_316 ⟨by decide +kernel, by decide +kernel, by decide +kernel⟩
theorem vw_10_103 : VW RX10 103 RX10 yX10_work cX10_work 7 (some .int) 4 := VW.mk qw_317 qw_319 qp_2 qw_1 qw_320 rfl ⟨by decide +kernel, by decide +kernel, by decide +kernel⟩
theorem uw_10_107_4 : UW RX10 107 RX5 "HandLoom$Lane" ⟨"HandLoom$Lane", "has", "(I)Z"⟩ yX3_has cX3_has 2 (some .boolean) 1 := UW.mk qw_330 qw_332 qw_333 qw_331 qw_3 qw_336 (Or.inl rfl) ⟨by decide +kernel, by decide +kernel, by decide +kernel⟩
theorem uw_10_107_6 : UW RX10 107 RX7 "HandLoom$Lane" ⟨"HandLoom$Lane", "has", "(I)Z"⟩ yX3_has cX3_has 2 (some .boolean) 1 := UW.mk qw_330 qw_332 qw_334 qw_331 qw_3 qw_336 (Or.inl rfl) ⟨by decide +kernel, by decide +kernel, by decide +kernel⟩
theorem uw_10_107_8 : UW RX10 107 RX9 "HandLoom$Lane" ⟨"HandLoom$Lane", "has", "(I)Z"⟩ yX3_has cX3_has 2 (some .boolean) 1 := UW.mk qw_330 qw_332 qw_335 qw_331 qw_3 qw_336 (Or.inl rfl) ⟨by decide +kernel, by decide +kernel, by decide +kernel⟩
theorem uw_10_110_4 : UW RX10 110 RX5 "HandLoom$Lane" ⟨"HandLoom$Lane", "tells", "(I)I"⟩ yX5_tells cX5_tells 2 (some .int) 1 := UW.mk qw_407 qw_409 qw_410 qw_411 qw_5 qw_412 (Or.inr (by decide +kernel)) ⟨by decide +kernel, by decide +kernel, by decide +kernel⟩
theorem uw_10_110_6 : UW RX10 110 RX7 "HandLoom$Lane" ⟨"HandLoom$Lane", "tells", "(I)I"⟩ yX7_tells cX7_tells 2 (some .int) 1 := UW.mk qw_407 qw_409 qw_413 qw_414 qw_4 qw_415 (Or.inr (by decide +kernel)) ⟨by decide +kernel, by decide +kernel, by decide +kernel⟩
theorem uw_10_110_8 : UW RX10 110 RX9 "HandLoom$Lane" ⟨"HandLoom$Lane", "tells", "(I)I"⟩ yX9_tells cX9_tells 2 (some .int) 1 := UW.mk qw_407 qw_409 qw_416 qw_417 qw_6 qw_418 (Or.inr (by decide +kernel)) ⟨by decide +kernel, by decide +kernel, by decide +kernel⟩
theorem uw_10_113_4 : UW RX10 113 RX5 "HandLoom$Lane" ⟨"HandLoom$Lane", "exchange", "(II)V"⟩ yX5_exchange cX5_exchange 4 none 2 := UW.mk qw_423 qw_425 qw_426 qw_427 qw_5 qw_428 (Or.inr (by decide +kernel)) ⟨by decide +kernel, by decide +kernel, by decide +kernel⟩
theorem uw_10_113_6 : UW RX10 113 RX7 "HandLoom$Lane" ⟨"HandLoom$Lane", "exchange", "(II)V"⟩ yX7_exchange cX7_exchange 4 none 2 := UW.mk qw_423 qw_425 qw_429 qw_430 qw_4 qw_431 (Or.inr (by decide +kernel)) ⟨by decide +kernel, by decide +kernel, by decide +kernel⟩
theorem uw_10_113_8 : UW RX10 113 RX9 "HandLoom$Lane" ⟨"HandLoom$Lane", "exchange", "(II)V"⟩ yX9_exchange cX9_exchange 4 none 2 := UW.mk qw_423 qw_425 qw_432 qw_433 qw_6 qw_434 (Or.inr (by decide +kernel)) ⟨by decide +kernel, by decide +kernel, by decide +kernel⟩
theorem vw_10_116 : VW RX10 116 RX1 yX1_renew cX1_renew 5 none 2 := VW.mk qw_439 qw_440 qw_441 qw_8 qw_442 rfl ⟨by decide +kernel, by decide +kernel, by decide +kernel⟩
theorem vw_10_119 : VW RX10 119 RX1 yX1_placeFault cX1_placeFault 2 (some .int) 1 := VW.mk qw_447 qw_448 qw_449 qw_8 qw_450 rfl ⟨by decide +kernel, by decide +kernel, by decide +kernel⟩
theorem vw_10_122 : VW RX10 122 RX1 yX1_hasPick cX1_hasPick 2 (some .boolean) 1 := VW.mk qw_455 qw_456 qw_457 qw_8 qw_458 rfl ⟨by decide +kernel, by decide +kernel, by decide +kernel⟩
theorem vw_10_125 : VW RX10 125 RX1 yX1_drop cX1_drop 2 none 1 := VW.mk qw_459 qw_460 qw_461 qw_8 qw_462 rfl ⟨by decide +kernel, by decide +kernel, by decide +kernel⟩
theorem vw_10_128 : VW RX10 128 RX1 yX1_join cX1_join 3 none 2 := VW.mk qw_467 qw_468 qw_469 qw_8 qw_470 rfl ⟨by decide +kernel, by decide +kernel, by decide +kernel⟩
theorem vw_10_130 : VW RX10 130 RX1 yX1_width cX1_width 1 (some .int) 0 := VW.mk qw_471 qw_472 qw_473 qw_8 qw_474 rfl ⟨by decide +kernel, by decide +kernel, by decide +kernel⟩
theorem vw_10_133 : VW RX10 133 RX1 yX1_pickFault cX1_pickFault 3 (some .int) 1 := VW.mk qw_479 qw_480 qw_481 qw_8 qw_482 rfl ⟨by decide +kernel, by decide +kernel, by decide +kernel⟩
theorem vw_10_136 : VW RX10 136 RX1 yX1_hasCell cX1_hasCell 2 (some .boolean) 1 := VW.mk qw_485 qw_486 qw_487 qw_8 qw_488 rfl ⟨by decide +kernel, by decide +kernel, by decide +kernel⟩
theorem vw_10_139 : VW RX10 139 RX1 yX1_get cX1_get 3 (some .int) 2 := VW.mk qw_489 qw_490 qw_491 qw_8 qw_492 rfl ⟨by decide +kernel, by decide +kernel, by decide +kernel⟩
theorem vw_10_143 : VW RX10 143 RX10 yX10_weaveCell cX10_weaveCell 8 (some .int) 4 := VW.mk qw_498 qw_500 qp_6 qw_1 qw_501 rfl ⟨by decide +kernel, by decide +kernel, by decide +kernel⟩
theorem vw_10_147 : VW RX10 147 RX2 yX2_isFull cX2_isFull 1 (some .boolean) 0 := VW.mk qw_513 qw_514 qw_515 qw_9 qw_516 rfl ⟨by decide +kernel, by decide +kernel, by decide +kernel⟩
theorem vw_10_148 : VW RX10 148 RX2 yX2_add cX2_add 7 none 5 := VW.mk qw_517 qw_518 qw_519 qw_9 qw_520 rfl ⟨by decide +kernel, by decide +kernel, by decide +kernel⟩
theorem vw_10_152 : VW RX10 152 RX2 yX2_count cX2_count 1 (some .int) 0 := VW.mk qw_522 qw_523 qw_524 qw_9 qw_525 rfl ⟨by decide +kernel, by decide +kernel, by decide +kernel⟩
theorem vw_10_153 : VW RX10 153 RX2 yX2_clear cX2_clear 1 none 0 := VW.mk qw_530 qw_531 qw_532 qw_9 qw_533 rfl ⟨by decide +kernel, by decide +kernel, by decide +kernel⟩
theorem vw_10_156 : VW RX10 156 RX2 yX2_at cX2_at 2 (some (.object "HandLoom$Card")) 1 := VW.mk qw_542 qw_543 qw_544 qw_9 qw_545 rfl ⟨by decide +kernel, by decide +kernel, by decide +kernel⟩
theorem vw_10_177 : VW RX10 177 RX4 yX4_latest cX4_latest 1 (some .int) 0 := VW.mk qw_546 qw_547 qw_548 qw_11 qw_549 rfl ⟨by decide +kernel, by decide +kernel, by decide +kernel⟩
theorem vw_10_180 : VW RX10 180 RX10 yX10_isEndedBy cX10_isEndedBy 2 (some .boolean) 1 := VW.mk qw_550 qw_552 qp_7 qw_1 qw_553 rfl ⟨by decide +kernel, by decide +kernel, by decide +kernel⟩
theorem vw_10_183 : VW RX10 183 RX4 yX4_countOf cX4_countOf 2 (some .int) 1 := VW.mk qw_558 qw_559 qw_560 qw_11 qw_561 rfl ⟨by decide +kernel, by decide +kernel, by decide +kernel⟩
theorem vw_10_186 : VW RX10 186 RX6 yX6_isEmpty cX6_isEmpty 1 (some .boolean) 0 := VW.mk qw_321 qw_322 qw_323 qw_7 qw_324 rfl ⟨by decide +kernel, by decide +kernel, by decide +kernel⟩
theorem vw_10_189 : VW RX10 189 RX6 yX6_draw cX6_draw 2 (some .int) 0 := VW.mk qw_325 qw_326 qw_327 qw_7 qw_328 rfl ⟨by decide +kernel, by decide +kernel, by decide +kernel⟩
theorem vw_10_192 : VW RX10 192 RX10 yX10_change cX10_change 5 (some .int) 4 := VW.mk qw_337 qw_339 qp_3 qw_1 qw_340 rfl ⟨by decide +kernel, by decide +kernel, by decide +kernel⟩
theorem uw_10_195_4 : UW RX10 195 RX5 "HandLoom$Lane" ⟨"HandLoom$Lane", "lay", "(II)V"⟩ yX5_lay cX5_lay 3 none 2 := UW.mk qw_341 qw_343 qw_344 qw_345 qw_5 qw_346 (Or.inr (by decide +kernel)) ⟨by decide +kernel, by decide +kernel, by decide +kernel⟩
theorem uw_10_195_6 : UW RX10 195 RX7 "HandLoom$Lane" ⟨"HandLoom$Lane", "lay", "(II)V"⟩ yX7_lay cX7_lay 3 none 2 := UW.mk qw_341 qw_343 qw_350 qw_351 qw_4 qw_352 (Or.inr (by decide +kernel)) ⟨by decide +kernel, by decide +kernel, by decide +kernel⟩
theorem uw_10_195_8 : UW RX10 195 RX9 "HandLoom$Lane" ⟨"HandLoom$Lane", "lay", "(II)V"⟩ yX9_lay cX9_lay 3 none 2 := UW.mk qw_341 qw_343 qw_362 qw_363 qw_6 qw_364 (Or.inr (by decide +kernel)) ⟨by decide +kernel, by decide +kernel, by decide +kernel⟩
theorem uw_10_198_4 : UW RX10 198 RX5 "HandLoom$Lane" ⟨"HandLoom$Lane", "pull", "(II)V"⟩ yX5_pull cX5_pull 3 none 2 := UW.mk qw_369 qw_371 qw_372 qw_373 qw_5 qw_374 (Or.inr (by decide +kernel)) ⟨by decide +kernel, by decide +kernel, by decide +kernel⟩
theorem uw_10_198_6 : UW RX10 198 RX7 "HandLoom$Lane" ⟨"HandLoom$Lane", "pull", "(II)V"⟩ yX7_pull cX7_pull 3 none 2 := UW.mk qw_369 qw_371 qw_379 qw_380 qw_4 qw_381 (Or.inr (by decide +kernel)) ⟨by decide +kernel, by decide +kernel, by decide +kernel⟩
theorem uw_10_198_8 : UW RX10 198 RX9 "HandLoom$Lane" ⟨"HandLoom$Lane", "pull", "(II)V"⟩ yX9_pull cX9_pull 3 none 2 := UW.mk qw_369 qw_371 qw_382 qw_383 qw_6 qw_384 (Or.inr (by decide +kernel)) ⟨by decide +kernel, by decide +kernel, by decide +kernel⟩
theorem uw_10_201_4 : UW RX10 201 RX5 "HandLoom$Lane" ⟨"HandLoom$Lane", "turn", "(I)V"⟩ yX5_turn cX5_turn 2 none 1 := UW.mk qw_385 qw_387 qw_388 qw_376 qw_5 qw_378 (Or.inr (by decide +kernel)) ⟨by decide +kernel, by decide +kernel, by decide +kernel⟩
theorem uw_10_201_6 : UW RX10 201 RX7 "HandLoom$Lane" ⟨"HandLoom$Lane", "turn", "(I)V"⟩ yX7_turn cX7_turn 2 none 1 := UW.mk qw_385 qw_387 qw_389 qw_390 qw_4 qw_391 (Or.inr (by decide +kernel)) ⟨by decide +kernel, by decide +kernel, by decide +kernel⟩
theorem uw_10_201_8 : UW RX10 201 RX9 "HandLoom$Lane" ⟨"HandLoom$Lane", "turn", "(I)V"⟩ yX9_turn cX9_turn 2 none 1 := UW.mk qw_385 qw_387 qw_392 qw_393 qw_6 qw_394 (Or.inr (by decide +kernel)) ⟨by decide +kernel, by decide +kernel, by decide +kernel⟩
theorem uw_10_204_4 : UW RX10 204 RX5 "HandLoom$Lane" ⟨"HandLoom$Lane", "part", "(II)Z"⟩ yX5_part cX5_part 3 (some .boolean) 2 := UW.mk qw_395 qw_397 qw_398 qw_399 qw_5 qw_400 (Or.inr (by decide +kernel)) ⟨by decide +kernel, by decide +kernel, by decide +kernel⟩
theorem uw_10_204_6 : UW RX10 204 RX7 "HandLoom$Lane" ⟨"HandLoom$Lane", "part", "(II)Z"⟩ yX7_part cX7_part 3 (some .boolean) 2 := UW.mk qw_395 qw_397 qw_401 qw_402 qw_4 qw_403 (Or.inr (by decide +kernel)) ⟨by decide +kernel, by decide +kernel, by decide +kernel⟩
theorem uw_10_204_8 : UW RX10 204 RX9 "HandLoom$Lane" ⟨"HandLoom$Lane", "part", "(II)Z"⟩ yX9_part cX9_part 3 (some .boolean) 2 := UW.mk qw_395 qw_397 qw_404 qw_405 qw_6 qw_406 (Or.inr (by decide +kernel)) ⟨by decide +kernel, by decide +kernel, by decide +kernel⟩
theorem sw_10_207 : SW RX10 207 yX10_faultAtEnd cX10_faultAtEnd 1 (some .int) 1 := SW.mk qw_502 qw_503 qw_1 qw_504 ⟨by decide +kernel, by decide +kernel, by decide +kernel⟩
theorem vw_10_211 : VW RX10 211 RX1 yX1_set cX1_set 4 none 3 := VW.mk qw_505 qw_506 qw_507 qw_8 qw_508 rfl ⟨by decide +kernel, by decide +kernel, by decide +kernel⟩
theorem vw_1_29 : VW RX1 29 RX1 yX1_isPlace cX1_isPlace 2 (some .boolean) 1 := VW.mk qw_451 qw_453 qp_5 qw_8 qw_454 rfl ⟨by decide +kernel, by decide +kernel, by decide +kernel⟩
theorem vw_1_33 : VW RX1 33 RX1 yX1_placeFault cX1_placeFault 2 (some .int) 1 := VW.mk qw_483 qw_448 qw_449 qw_8 qw_450 rfl ⟨by decide +kernel, by decide +kernel, by decide +kernel⟩
theorem vw_1_37 : VW RX1 37 RX1 yX1_hasPick cX1_hasPick 2 (some .boolean) 1 := VW.mk qw_484 qw_456 qw_457 qw_8 qw_458 rfl ⟨by decide +kernel, by decide +kernel, by decide +kernel⟩
theorem vw_1_40 : VW RX1 40 RX1 yX1_hasCell cX1_hasCell 2 (some .boolean) 1 := VW.mk qw_493 qw_486 qw_487 qw_8 qw_488 rfl ⟨by decide +kernel, by decide +kernel, by decide +kernel⟩
theorem vw_2_22 : VW RX2 22 RX2 yX2_isFull cX2_isFull 1 (some .boolean) 0 := VW.mk qw_521 qw_514 qw_515 qw_9 qw_516 rfl ⟨by decide +kernel, by decide +kernel, by decide +kernel⟩
theorem uw_3_15_4 : UW RX3 15 RX5 "HandLoom$Lane" ⟨"HandLoom$Lane", "reset", "(I)V"⟩ yX5_reset cX5_reset 2 none 1 := UW.mk qw_251 qw_253 qw_254 qw_255 qw_5 qw_256 (Or.inr (by decide +kernel)) ⟨by decide +kernel, by decide +kernel, by decide +kernel⟩
theorem uw_3_15_6 : UW RX3 15 RX7 "HandLoom$Lane" ⟨"HandLoom$Lane", "reset", "(I)V"⟩ yX7_reset cX7_reset 2 none 1 := UW.mk qw_251 qw_253 qw_257 qw_258 qw_4 qw_259 (Or.inr (by decide +kernel)) ⟨by decide +kernel, by decide +kernel, by decide +kernel⟩
theorem uw_3_15_8 : UW RX3 15 RX9 "HandLoom$Lane" ⟨"HandLoom$Lane", "reset", "(I)V"⟩ yX9_reset cX9_reset 2 none 1 := UW.mk qw_251 qw_253 qw_260 qw_261 qw_6 qw_262 (Or.inr (by decide +kernel)) ⟨by decide +kernel, by decide +kernel, by decide +kernel⟩
theorem sw_5_15 : SW RX5 15 yX5_isOdd cX5_isOdd 1 (some .boolean) 1 := SW.mk qw_347 qw_348 qw_5 qw_349 ⟨by decide +kernel, by decide +kernel, by decide +kernel⟩
theorem vw_5_19 : VW RX5 19 RX5 yX5_turn cX5_turn 2 none 1 := VW.mk qw_375 qw_376 qw_377 qw_5 qw_378 rfl ⟨by decide +kernel, by decide +kernel, by decide +kernel⟩
theorem vw_6_22 : VW RX6 22 RX6 yX6_isFull cX6_isFull 1 (some .boolean) 0 := VW.mk qw_305 qw_298 qw_299 qw_7 qw_300 rfl ⟨by decide +kernel, by decide +kernel, by decide +kernel⟩
theorem vw_6_26 : VW RX6 26 RX6 yX6_isEmpty cX6_isEmpty 1 (some .boolean) 0 := VW.mk qw_329 qw_322 qw_323 qw_7 qw_324 rfl ⟨by decide +kernel, by decide +kernel, by decide +kernel⟩
theorem sw_7_18 : SW RX7 18 yX7_eighths cX7_eighths 1 (some .float) 1 := SW.mk qw_353 qw_354 qw_4 qw_355 ⟨by decide +kernel, by decide +kernel, by decide +kernel⟩
theorem sw_7_22 : SW RX7 22 yX7_hold cX7_hold 1 (some .float) 1 := SW.mk qw_357 qw_358 qw_4 qw_359 ⟨by decide +kernel, by decide +kernel, by decide +kernel⟩
theorem sw_8_20 : SW RX8 20 yX8_newLane cX8_newLane 1 (some (.object "HandLoom$Lane")) 1 := SW.mk qw_29 qw_30 qw_2 qw_31 ⟨by decide +kernel, by decide +kernel, by decide +kernel⟩
theorem sw_8_35 : SW RX8 35 yX8_isFrame cX8_isFrame 1 (some .boolean) 1 := SW.mk qw_212 qw_213 qw_2 qw_214 ⟨by decide +kernel, by decide +kernel, by decide +kernel⟩
theorem sw_8_39 : SW RX8 39 yX8_isLane cX8_isLane 2 (some .boolean) 2 := SW.mk qw_228 qw_210 qw_2 qw_211 ⟨by decide +kernel, by decide +kernel, by decide +kernel⟩
theorem sw_8_43 : SW RX8 43 yX8_place cX8_place 2 (some .int) 2 := SW.mk qw_233 qw_234 qw_2 qw_235 ⟨by decide +kernel, by decide +kernel, by decide +kernel⟩
theorem vw_8_47 : VW RX8 47 RX8 yX8_laneAt cX8_laneAt 3 (some (.object "HandLoom$Lane")) 2 := VW.mk qw_281 qw_268 qw_269 qw_2 qw_270 rfl ⟨by decide +kernel, by decide +kernel, by decide +kernel⟩
theorem vw_8_51 : VW RX8 51 RX8 yX8_loosen cX8_loosen 3 none 2 := VW.mk qw_229 qw_230 qw_231 qw_2 qw_232 rfl ⟨by decide +kernel, by decide +kernel, by decide +kernel⟩
theorem vw_8_55 : VW RX8 55 RX8 yX8_spareLane cX8_spareLane 4 (some (.object "HandLoom$Lane")) 1 := VW.mk qw_236 qw_238 qp_0 qw_2 qw_239 rfl ⟨by decide +kernel, by decide +kernel, by decide +kernel⟩
theorem uw_8_58_4 : UW RX8 58 RX5 "HandLoom$Lane" ⟨"HandLoom$Lane", "restretch", "(I)V"⟩ yX3_restretch cX3_restretch 3 none 1 := UW.mk qw_244 qw_246 qw_247 qw_245 qw_3 qw_250 (Or.inl rfl) ⟨by decide +kernel, by decide +kernel, by decide +kernel⟩
theorem uw_8_58_6 : UW RX8 58 RX7 "HandLoom$Lane" ⟨"HandLoom$Lane", "restretch", "(I)V"⟩ yX3_restretch cX3_restretch 3 none 1 := UW.mk qw_244 qw_246 qw_248 qw_245 qw_3 qw_250 (Or.inl rfl) ⟨by decide +kernel, by decide +kernel, by decide +kernel⟩
theorem uw_8_58_8 : UW RX8 58 RX9 "HandLoom$Lane" ⟨"HandLoom$Lane", "restretch", "(I)V"⟩ yX3_restretch cX3_restretch 3 none 1 := UW.mk qw_244 qw_246 qw_249 qw_245 qw_3 qw_250 (Or.inl rfl) ⟨by decide +kernel, by decide +kernel, by decide +kernel⟩
theorem vw_8_61 : VW RX8 61 RX8 yX8_isHeld cX8_isHeld 4 (some .boolean) 2 := VW.mk qw_240 qw_242 qp_1 qw_2 qw_243 rfl ⟨by decide +kernel, by decide +kernel, by decide +kernel⟩
theorem vw_9_19 : VW RX9 19 RX9 yX9_fit cX9_fit 2 (some .int) 1 := VW.mk qw_365 qw_367 qp_4 qw_6 qw_368 rfl ⟨by decide +kernel, by decide +kernel, by decide +kernel⟩
theorem vw_L_13 : VW RL 13 RX10 yX10_thread cX10_thread 4 (some .int) 3 := VW.mk qw_205 qw_206 qw_207 qw_1 qw_208 rfl ⟨by decide +kernel, by decide +kernel, by decide +kernel⟩
theorem vw_L_17 : VW RL 17 RX11 yX11_thread cX11_thread 7 (some .int) 3 := VW.mk qw_623 qw_624 qw_625 qw_12 qw_626 rfl ⟨by decide +kernel, by decide +kernel, by decide +kernel⟩
theorem vw_L_18 : VW RL 18 RX10 yX10_cut cX10_cut 4 (some .int) 2 := VW.mk qw_263 qw_264 qw_265 qw_1 qw_266 rfl ⟨by decide +kernel, by decide +kernel, by decide +kernel⟩
theorem vw_L_22 : VW RL 22 RX11 yX11_cut cX11_cut 5 (some .int) 2 := VW.mk qw_646 qw_647 qw_648 qw_12 qw_649 rfl ⟨by decide +kernel, by decide +kernel, by decide +kernel⟩
theorem vw_L_23 : VW RL 23 RX10 yX10_tie cX10_tie 5 (some .int) 3 := VW.mk qw_272 qw_273 qw_274 qw_1 qw_275 rfl ⟨by decide +kernel, by decide +kernel, by decide +kernel⟩
theorem vw_L_26 : VW RL 26 RX11 yX11_tie cX11_tie 5 (some .int) 3 := VW.mk qw_650 qw_651 qw_652 qw_12 qw_653 rfl ⟨by decide +kernel, by decide +kernel, by decide +kernel⟩
theorem vw_L_27 : VW RL 27 RX10 yX10_ends cX10_ends 4 (some .int) 2 := VW.mk qw_289 qw_290 qw_291 qw_1 qw_292 rfl ⟨by decide +kernel, by decide +kernel, by decide +kernel⟩
theorem vw_L_30 : VW RL 30 RX11 yX11_ends cX11_ends 4 (some .int) 2 := VW.mk qw_654 qw_655 qw_656 qw_12 qw_657 rfl ⟨by decide +kernel, by decide +kernel, by decide +kernel⟩
theorem vw_L_31 : VW RL 31 RX10 yX10_spool cX10_spool 2 (some .int) 1 := VW.mk qw_293 qw_294 qw_295 qw_1 qw_296 rfl ⟨by decide +kernel, by decide +kernel, by decide +kernel⟩
theorem vw_L_35 : VW RL 35 RX11 yX11_spool cX11_spool 2 (some .int) 1 := VW.mk qw_658 qw_659 qw_660 qw_12 qw_661 rfl ⟨by decide +kernel, by decide +kernel, by decide +kernel⟩
theorem vw_L_36 : VW RL 36 RX10 yX10_act cX10_act 6 (some .int) 5 := VW.mk qw_310 qw_311 qw_312 qw_1 qw_313 rfl ⟨by decide +kernel, by decide +kernel, by decide +kernel⟩
theorem vw_L_40 : VW RL 40 RX11 yX11_act cX11_act 6 (some .int) 5 := VW.mk qw_662 qw_663 qw_664 qw_12 qw_665 rfl ⟨by decide +kernel, by decide +kernel, by decide +kernel⟩
theorem vw_L_41 : VW RL 41 RX10 yX10_swap cX10_swap 7 (some .int) 4 := VW.mk qw_419 qw_420 qw_421 qw_1 qw_422 rfl ⟨by decide +kernel, by decide +kernel, by decide +kernel⟩
theorem vw_L_45 : VW RL 45 RX11 yX11_swap cX11_swap 12 (some .int) 4 := VW.mk qw_707 qw_708 qw_709 qw_12 qw_710 rfl ⟨by decide +kernel, by decide +kernel, by decide +kernel⟩
theorem vw_L_46 : VW RL 46 RX10 yX10_cloth cX10_cloth 3 (some .int) 2 := VW.mk qw_435 qw_436 qw_437 qw_1 qw_438 rfl ⟨by decide +kernel, by decide +kernel, by decide +kernel⟩
theorem vw_L_49 : VW RL 49 RX11 yX11_cloth cX11_cloth 4 (some .int) 2 := VW.mk qw_711 qw_712 qw_713 qw_12 qw_714 rfl ⟨by decide +kernel, by decide +kernel, by decide +kernel⟩
theorem vw_L_50 : VW RL 50 RX10 yX10_snip cX10_snip 4 (some .int) 1 := VW.mk qw_443 qw_444 qw_445 qw_1 qw_446 rfl ⟨by decide +kernel, by decide +kernel, by decide +kernel⟩
theorem vw_L_53 : VW RL 53 RX11 yX11_snip cX11_snip 4 (some .int) 1 := VW.mk qw_715 qw_716 qw_717 qw_12 qw_718 rfl ⟨by decide +kernel, by decide +kernel, by decide +kernel⟩
theorem vw_L_54 : VW RL 54 RX10 yX10_hang cX10_hang 4 (some .int) 2 := VW.mk qw_463 qw_464 qw_465 qw_1 qw_466 rfl ⟨by decide +kernel, by decide +kernel, by decide +kernel⟩
theorem vw_L_57 : VW RL 57 RX11 yX11_hang cX11_hang 4 (some .int) 2 := VW.mk qw_723 qw_724 qw_725 qw_12 qw_726 rfl ⟨by decide +kernel, by decide +kernel, by decide +kernel⟩
theorem vw_L_58 : VW RL 58 RX10 yX10_cell cX10_cell 4 (some .int) 2 := VW.mk qw_475 qw_476 qw_477 qw_1 qw_478 rfl ⟨by decide +kernel, by decide +kernel, by decide +kernel⟩
theorem vw_L_61 : VW RL 61 RX11 yX11_cell cX11_cell 4 (some .int) 2 := VW.mk qw_727 qw_728 qw_729 qw_12 qw_730 rfl ⟨by decide +kernel, by decide +kernel, by decide +kernel⟩
theorem vw_L_62 : VW RL 62 RX10 yX10_weave cX10_weave 7 (some .int) 3 := VW.mk qw_494 qw_495 qw_496 qw_1 qw_497 rfl ⟨by decide +kernel, by decide +kernel, by decide +kernel⟩
theorem vw_L_65 : VW RL 65 RX11 yX11_weave cX11_weave 7 (some .int) 3 := VW.mk qw_735 qw_736 qw_737 qw_12 qw_738 rfl ⟨by decide +kernel, by decide +kernel, by decide +kernel⟩
theorem vw_L_66 : VW RL 66 RX10 yX10_card cX10_card 6 (some .int) 5 := VW.mk qw_509 qw_510 qw_511 qw_1 qw_512 rfl ⟨by decide +kernel, by decide +kernel, by decide +kernel⟩
theorem vw_L_69 : VW RL 69 RX11 yX11_card cX11_card 7 (some .int) 5 := VW.mk qw_743 qw_744 qw_745 qw_12 qw_746 rfl ⟨by decide +kernel, by decide +kernel, by decide +kernel⟩
theorem vw_L_70 : VW RL 70 RX10 yX10_unhook cX10_unhook 2 (some .int) 0 := VW.mk qw_526 qw_527 qw_528 qw_1 qw_529 rfl ⟨by decide +kernel, by decide +kernel, by decide +kernel⟩
theorem vw_L_74 : VW RL 74 RX11 yX11_unhook cX11_unhook 2 (some .int) 0 := VW.mk qw_747 qw_748 qw_749 qw_12 qw_750 rfl ⟨by decide +kernel, by decide +kernel, by decide +kernel⟩
theorem vw_L_75 : VW RL 75 RX10 yX10_keeper cX10_keeper 2 (some .boolean) 1 := VW.mk qw_534 qw_535 qw_536 qw_1 qw_537 rfl ⟨by decide +kernel, by decide +kernel, by decide +kernel⟩
theorem vw_L_79 : VW RL 79 RX11 yX11_keeper cX11_keeper 2 (some .boolean) 1 := VW.mk qw_751 qw_752 qw_753 qw_12 qw_754 rfl ⟨by decide +kernel, by decide +kernel, by decide +kernel⟩
theorem vw_L_80 : VW RL 80 RX10 yX10_run cX10_run 4 (some .int) 1 := VW.mk qw_538 qw_539 qw_540 qw_1 qw_541 rfl ⟨by decide +kernel, by decide +kernel, by decide +kernel⟩
theorem vw_L_83 : VW RL 83 RX11 yX11_run cX11_run 5 (some .int) 1 := VW.mk qw_755 qw_756 qw_757 qw_12 qw_758 rfl ⟨by decide +kernel, by decide +kernel, by decide +kernel⟩
theorem vw_L_84 : VW RL 84 RX10 yX10_told cX10_told 2 (some .int) 1 := VW.mk qw_554 qw_555 qw_556 qw_1 qw_557 rfl ⟨by decide +kernel, by decide +kernel, by decide +kernel⟩
theorem vw_L_87 : VW RL 87 RX11 yX11_told cX11_told 2 (some .int) 1 := VW.mk qw_759 qw_760 qw_761 qw_12 qw_762 rfl ⟨by decide +kernel, by decide +kernel, by decide +kernel⟩
theorem sw_11_38 : SW RX11 38 yX11_isFrame cX11_isFrame 1 (some .boolean) 1 := SW.mk qw_630 qw_631 qw_12 qw_632 ⟨by decide +kernel, by decide +kernel, by decide +kernel⟩
theorem sw_11_46 : SW RX11 46 yX11_isLane cX11_isLane 2 (some .boolean) 2 := SW.mk qw_627 qw_628 qw_12 qw_629 ⟨by decide +kernel, by decide +kernel, by decide +kernel⟩
theorem vw_11_51 : VW RX11 51 RX11 yX11_bad cX11_bad 2 (some .int) 1 := VW.mk qw_634 qw_636 qp_8 qw_12 qw_637 rfl ⟨by decide +kernel, by decide +kernel, by decide +kernel⟩
theorem vw_11_55 : VW RX11 55 RX11 yX11_isUsed cX11_isUsed 4 (some .boolean) 1 := VW.mk qw_638 qw_640 qp_9 qw_12 qw_641 rfl ⟨by decide +kernel, by decide +kernel, by decide +kernel⟩
theorem vw_11_58 : VW RX11 58 RX11 yX11_good cX11_good 2 (some .int) 1 := VW.mk qw_642 qw_644 qp_10 qw_12 qw_645 rfl ⟨by decide +kernel, by decide +kernel, by decide +kernel⟩
theorem sw_11_68 : SW RX11 68 yX11_eighths cX11_eighths 1 (some .float) 1 := SW.mk qw_682 qw_683 qw_12 qw_684 ⟨by decide +kernel, by decide +kernel, by decide +kernel⟩
theorem sw_11_72 : SW RX11 72 yX11_held cX11_held 1 (some .float) 1 := SW.mk qw_686 qw_687 qw_12 qw_688 ⟨by decide +kernel, by decide +kernel, by decide +kernel⟩
theorem sw_11_76 : SW RX11 76 yX11_cutTo cX11_cutTo 2 (some .int) 2 := SW.mk qw_691 qw_692 qw_12 qw_693 ⟨by decide +kernel, by decide +kernel, by decide +kernel⟩
theorem vw_11_80 : VW RX11 80 RX11 yX11_drawn cX11_drawn 3 (some .int) 0 := VW.mk qw_670 qw_672 qp_12 qw_12 qw_673 rfl ⟨by decide +kernel, by decide +kernel, by decide +kernel⟩
theorem vw_11_84 : VW RX11 84 RX11 yX11_wrong cX11_wrong 3 (some .int) 2 := VW.mk qw_674 qw_676 qp_13 qw_12 qw_677 rfl ⟨by decide +kernel, by decide +kernel, by decide +kernel⟩
theorem vw_11_87 : VW RX11 87 RX11 yX11_lay cX11_lay 4 none 3 := VW.mk qw_678 qw_680 qp_14 qw_12 qw_681 rfl ⟨by decide +kernel, by decide +kernel, by decide +kernel⟩
theorem vw_11_91 : VW RX11 91 RX11 yX11_pull cX11_pull 4 none 3 := VW.mk qw_695 qw_697 qp_15 qw_12 qw_698 rfl ⟨by decide +kernel, by decide +kernel, by decide +kernel⟩
theorem vw_11_94 : VW RX11 94 RX11 yX11_part cX11_part 4 none 3 := VW.mk qw_699 qw_701 qp_16 qw_12 qw_702 rfl ⟨by decide +kernel, by decide +kernel, by decide +kernel⟩
theorem vw_11_97 : VW RX11 97 RX11 yX11_tells cX11_tells 3 (some .int) 2 := VW.mk qw_703 qw_705 qp_17 qw_12 qw_706 rfl ⟨by decide +kernel, by decide +kernel, by decide +kernel⟩
theorem vw_11_100 : VW RX11 100 RX11 yX11_done cX11_done 10 (some .int) 5 := VW.mk qw_666 qw_668 qp_11 qw_12 qw_669 rfl ⟨by decide +kernel, by decide +kernel, by decide +kernel⟩
theorem vw_11_114 : VW RX11 114 RX11 yX11_wrongPick cX11_wrongPick 2 (some .int) 1 := VW.mk qw_719 qw_721 qp_18 qw_12 qw_722 rfl ⟨by decide +kernel, by decide +kernel, by decide +kernel⟩
theorem vw_11_117 : VW RX11 117 RX11 yX11_goneOrWrong cX11_goneOrWrong 3 (some .int) 1 := VW.mk qw_731 qw_733 qp_19 qw_12 qw_734 rfl ⟨by decide +kernel, by decide +kernel, by decide +kernel⟩
theorem vw_11_120 : VW RX11 120 RX11 yX11_isUp cX11_isUp 3 (some .boolean) 2 := VW.mk qw_739 qw_741 qp_20 qw_12 qw_742 rfl ⟨by decide +kernel, by decide +kernel, by decide +kernel⟩
end
section
/-! writes to the typed heap, in the form that a program lays -/
theorem MM.go {l : Launch} {y : MethodName} {cc : ByteArray} {nL : Nat} {ret : Option FieldType} {d : Nat} {D : va_G} {K : Nat → ClassId} {A : Nat → Nat} {I : TI} {U : TU} {P : TP} {av : List Value} {post : TQ} {lv0 : List (Option Value)} {own : String} (ho : y.cls = own) (hy : plainName y.cls = true) (hc : av.all (fun v => v.category == 1) = true) (hn : (lg_sl av).length ≤ nL) (hlv : av.map some ++ List.replicate (nL - av.length) none = lv0)
    (body : ∀ (p : Program) (e : Env) (s : State) (m : MethodId) (args : Array Value) (below : List Frame) (meth : Method) (c : Code), CX p s m args meth c own cc nL ret D K (AX 75 A s.heap.size) →
      GJ p l e (rmd d) s m args below meth c nL D (AX 75 A s.heap.size) (MQX below D K A args s post) 75 A (gg A K I U P) 0 0 0 lv0 []) : MM l y cc nL ret d D K A I U P av post :=
  MM.mk ho hy (fun v hv => by have h := List.all_eq_true.mp hc v hv; simpa using h) hn hlv (fun p e s m args below meth c C _ => body p e s m args below meth c C)
theorem up2_row {α : Type} {I : Nat → Nat → α} {i j : Nat} {v : α} : up2 I i j v i = fun b => if b = j then v else I i b := by
  funext b
  simp [up2]
theorem up2_same {α : Type} {I : Nat → Nat → α} {i j : Nat} {v : α} : up2 I i j v i j = v := by simp [up2]
theorem up2_ne {α : Type} {I : Nat → Nat → α} {i j a b : Nat} {v : α} (h : ¬ (a = i ∧ b = j)) : up2 I i j v a b = I a b := by simp only [up2, if_neg h]
theorem upd_row {f : Nat → Int32} {j : Nat} {v : Int32} : upd f j v = fun b => if b = j then v else f b := by
  funext b
  simp [upd]
section MEM
variable {p : Program} {l : Launch} {e : Env} {R : Room} {s : State} {m : MethodId} {args : Array Value} {below : List Frame} {meth : Method} {c : Code} {nL : Nat} {D : va_G} {Ax : Nat → Prop} {Q : State → Prop} {cs sl pc : Nat} {lv : List (Option Value)} {st : List Value} {own : String} {cc : ByteArray} {ret : Option FieldType} {K : Nat → ClassId} {A : Nat → Nat} {I : TI} {U : TU} {P : TP}
theorem jx_putI {i idx ci k : Nat} {fs : List Value} {v : Int32} (C : CX p s m args meth c own cc nL ret D K Ax) (F : FP0 own idx ci k .int) (hd : decode cc pc = .ok (.putfield idx, 3)) (hi : i < 75) (hg : gg A K I U P i = .inr (ci, fs)) (hl0 : k < fs.length) (hset : (.inr (ci, fs.set k (.int v)) : va_E) = gg A K (up2 I i k v) U P i) (kk : GJ p l e R s m args below meth c nL D Ax Q 75 A (gg A K (up2 I i k v) U P) cs sl (pc + 3) lv st) : GJ p l e R s m args below meth c nL D Ax Q 75 A (gg A K I U P) cs sl pc lv (.int v :: .ref (A i) :: st) :=
  jx_put C F hd hi hg rfl rfl hl0 (wl_upI hset) kk
theorem jx_putZ {i idx ci k : Nat} {fs : List Value} {v : Int32} (C : CX p s m args meth c own cc nL ret D K Ax) (F : FP0 own idx ci k .boolean) (hd : decode cc pc = .ok (.putfield idx, 3)) (hz : narrow .boolean (.int v) = .int v) (hf : fits .boolean (.int v) = true) (hi : i < 75) (hg : gg A K I U P i = .inr (ci, fs)) (hl0 : k < fs.length) (hset : (.inr (ci, fs.set k (.int v)) : va_E) = gg A K (up2 I i k v) U P i) (kk : GJ p l e R s m args below meth c nL D Ax Q 75 A (gg A K (up2 I i k v) U P) cs sl (pc + 3) lv st) : GJ p l e R s m args below meth c nL D Ax Q 75 A (gg A K I U P) cs sl pc lv (.int v :: .ref (A i) :: st) :=
  jx_put C F hd hi hg hz hf hl0 (wl_upI hset) kk
theorem jx_iastI {i n : Nat} {x v : Int32} (j : Nat) (C : CX p s m args meth c own cc nL ret D K Ax) (hd : decode cc pc = .ok (.iastore, 1)) (hi : i < 75) (hg : ∀ I : TI, gg A K I U P i = .inl (K 0, n, ri (I i))) (hx : x = nI j) (hj : j < n) (hn : n ≤ 1000000) (kk : GJ p l e R s m args below meth c nL D Ax Q 75 A (gg A K (up2 I i j v) U P) cs sl (pc + 1) lv st) : GJ p l e R s m args below meth c nL D Ax Q 75 A (gg A K I U P) cs sl pc lv (.int v :: .int x :: .ref (A i) :: st) :=
  jx_iast j C hd hi (hg I) hx hj hn (wl_upI (k := j) (v := v) (by rw [hg, up2_row, upd_row])) kk
theorem jx_zastI {i n : Nat} {x v : Int32} (j : Nat) (C : CX p s m args meth c own cc nL ret D K Ax) (hd : decode cc pc = .ok (.bastore, 1)) (hi : i < 75) (hg : ∀ I : TI, gg A K I U P i = .inl (K 1, n, ri (I i))) (hx : x = nI j) (hj : j < n) (hn : n ≤ 1000000) (hz : vp_nar .boolean v = v) (kk : GJ p l e R s m args below meth c nL D Ax Q 75 A (gg A K (up2 I i j v) U P) cs sl (pc + 1) lv st) : GJ p l e R s m args below meth c nL D Ax Q 75 A (gg A K I U P) cs sl pc lv (.int v :: .int x :: .ref (A i) :: st) :=
  jx_zast j C hd hi (hg I) hx hj hn hz (wl_upI (k := j) (v := v) (by rw [hg, up2_row, upd_row])) kk
theorem jx_fastU {i n : Nat} {x : Int32} {v : UInt32} (j : Nat) (C : CX p s m args meth c own cc nL ret D K Ax) (hd : decode cc pc = .ok (.fastore, 1)) (hi : i < 75) (hg : ∀ U : TU, gg A K I U P i = .inl (K 2, n, rf (U i))) (hx : x = nI j) (hj : j < n) (hn : n ≤ 1000000) (kk : GJ p l e R s m args below meth c nL D Ax Q 75 A (gg A K I (up2 U i j v) P) cs sl (pc + 1) lv st) : GJ p l e R s m args below meth c nL D Ax Q 75 A (gg A K I U P) cs sl pc lv (.float v :: .int x :: .ref (A i) :: st) :=
  jx_fast j C hd hi (hg U) hx hj hn (wl_upU (k := j) (v := v) (by rw [hg, up2_row]; congr 3)) kk
theorem jx_lnN {x : Int32} (j : Nat) (C : CX p s m args meth c own cc nL ret D K Ax) (hd : decode cc pc = .ok (.aastore, 1)) (hx : x = nI j) (hj : j < 20) (kk : GJ p l e R s m args below meth c nL D Ax Q 75 A (gg A K I U (va_up P j none)) cs sl (pc + 1) lv st) : GJ p l e R s m args below meth c nL D Ax Q 75 A (gg A K I U P) cs sl pc lv (.null :: .int x :: .ref (A 3) :: st) :=
  jx_aastN j C hd (by decide) gg_3 hx hj (by decide) (wl_upP (j := j) (r := none) (by rw [gg_3]; congr 4; funext b; by_cases hb : b = j <;> simp [va_up, hb])) kk
theorem jx_ln {x : Int32} {k : Nat} (j : Nat) (C : CX p s m args meth c own cc nL ret D K Ax) (hd : decode cc pc = .ok (.aastore, 1)) (hk : k < 20) (hx : x = nI j) (hj : j < 20) (kk : GJ p l e R s m args below meth c nL D Ax Q 75 A (gg A K I U (va_up P j (some k))) cs sl (pc + 1) lv st) : GJ p l e R s m args below meth c nL D Ax Q 75 A (gg A K I U P) cs sl pc lv (.ref (A (4 + 2 * k)) :: .int x :: .ref (A 3) :: st) := by
  have hw1 : wl 75 A (va_up (gg A K I U P) 3 (.inl (K 3, 20, rq (va_up (fun j => (P j).map (fun k => A (4 + 2 * k))) j (some (A (4 + 2 * k))))))) = wl 75 A (gg A K I U (va_up P j (some k))) := wl_upP (j := j) (r := some k) (by rw [gg_3]; congr 4; funext b; by_cases hb : b = j <;> simp [va_up, hb])
  by_cases h2 : k % 5 = 2
  · exact jx_aast j C hd (by decide) gg_3 (by omega) (gg_laneT hk h2) rfl (by decide +kernel) hx hj (by decide) hw1 kk
  · by_cases h3 : k % 5 = 3
    · exact jx_aast j C hd (by decide) gg_3 (by omega) (gg_laneL hk h3) rfl (by decide +kernel) hx hj (by decide) hw1 kk
    · exact jx_aast j C hd (by decide) gg_3 (by omega) (gg_laneW hk h2 h3) rfl (by decide +kernel) hx hj (by decide) hw1 kk
end MEM
end
section
/-! leaves: Warp's tests and places, the spool, the ledger -/
def bI (c : Prop) [Decidable c] : Int32 := if c then 1 else 0
theorem bI_t {c : Prop} [Decidable c] (h : c) : bI c = 1 := if_pos h
theorem bI_f {c : Prop} [Decidable c] (h : ¬ c) : bI c = 0 := if_neg h
abbrev inF (f : Int32) : Prop := ¬ f < 0 ∧ ¬ 4 ≤ f
abbrev inS (f : Int32) : Prop := ¬ f < 0 ∧ ¬ 5 ≤ f
abbrev inK (f : Int32) : Prop := ¬ f < 0 ∧ ¬ 4 < f
abbrev inL (f s : Int32) : Prop := inF f ∧ inS s
theorem inF_of {f : Int32} (h : inF f) : ∃ a : Nat, a < 4 ∧ f = nI a := by
  rcases pk_ix f (n := 4) (by decide) with h1 | h1 | h1
  · exact absurd h1 h.1
  · exact absurd h1 h.2
  · exact h1
theorem inS_of {f : Int32} (h : inS f) : ∃ a : Nat, a < 5 ∧ f = nI a := by
  rcases pk_ix f (n := 5) (by decide) with h1 | h1 | h1
  · exact absurd h1 h.1
  · exact absurd h1 h.2
  · exact h1
theorem inF_nI {a : Nat} (h : a < 4) : inF (nI a) := ⟨nI_pos (by omega), nI_ge h (by decide)⟩
theorem inS_nI {a : Nat} (h : a < 5) : inS (nI a) := ⟨nI_pos (by omega), nI_ge h (by decide)⟩
set_option maxRecDepth 100000 in
set_option maxHeartbeats 4000000 in
theorem c_8_isFrame {l : Launch} {D : va_G} {K : Nat → ClassId} {A : Nat → Nat} {I : TI} {U : TU} {P : TP} {f : Int32} : MM l yX8_isFrame cX8_isFrame 1 (some .boolean) 0 D K A (I) (U) (P) [.int f] (XE (some (.int (bI (inF f)))) I U P) := by
  refine MM.go (own := RX8) (lv0 := [some (.int f)]) rfl (by decide) rfl (Nat.le_of_ble_eq_true rfl) rfl ?_
  intro p e s m args below meth c C
  refine jx_iload_n C dX8_isFrame_0 rfl ?_
  refine jx_if_lt (tgt := 13) C dX8_isFrame_1 (by decide) (fun c1 => ?_) (fun c1 => ?_)
  · refine jx_iconst (v := 0) C dX8_isFrame_13 (by decide) ?_
    exact jx_zret C dX8_isFrame_14 rfl ⟨by simp [bI, inF, c1], rfl, rfl, rfl⟩
  · refine jx_iload_n C dX8_isFrame_4 rfl ?_
    refine jx_iconst (v := 4) C dX8_isFrame_5 (by decide) ?_
    refine jx_ic_ge (tgt := 13) C dX8_isFrame_6 (by decide) (fun c6 => ?_) (fun c6 => ?_)
    · refine jx_iconst (v := 0) C dX8_isFrame_13 (by decide) ?_
      exact jx_zret C dX8_isFrame_14 rfl ⟨by simp [bI, inF, c1, c6], rfl, rfl, rfl⟩
    · refine jx_iconst (v := 1) C dX8_isFrame_9 (by decide) ?_
      refine jx_goto (tgt := 14) C dX8_isFrame_10 (by decide) ?_
      exact jx_zret C dX8_isFrame_14 rfl ⟨by simp [bI, inF, c1, c6], rfl, rfl, rfl⟩
set_option maxRecDepth 100000 in
set_option maxHeartbeats 4000000 in
theorem c_8_isLane {l : Launch} {D : va_G} {K : Nat → ClassId} {A : Nat → Nat} {I : TI} {U : TU} {P : TP} {f s0 : Int32} : MM l yX8_isLane cX8_isLane 2 (some .boolean) 1 D K A (I) (U) (P) [.int f, .int s0] (XE (some (.int (bI (inL f s0)))) I U P) := by
  refine MM.go (own := RX8) (lv0 := [some (.int f), some (.int s0)]) rfl (by decide) rfl (Nat.le_of_ble_eq_true rfl) rfl ?_
  intro p e s m args below meth c C
  refine jx_iload_n C dX8_isLane_0 rfl ?_
  by_cases h1 : inF f
  · skip
    refine jx_one C (jr_S C (c_8_isFrame) sw_8_35 rfl ⟨Nat.le_of_ble_eq_true rfl, Nat.le_of_ble_eq_true rfl⟩ ⟨Nat.le_of_ble_eq_true rfl, Nat.le_of_ble_eq_true rfl⟩ dX8_isLane_1 rfl (Nat.le_of_ble_eq_true rfl)) ?_
    rw [bI_t h1]
    refine jx_if_eqF (tgt := 20) C dX8_isLane_4 (by decide) (by decide) ?_
    refine jx_iload_n C dX8_isLane_7 rfl ?_
    refine jx_if_lt (tgt := 20) C dX8_isLane_8 (by decide) (fun c8 => ?_) (fun c8 => ?_)
    · refine jx_iconst (v := 0) C dX8_isLane_20 (by decide) ?_
      exact jx_zret C dX8_isLane_21 rfl ⟨by rw [bI_f (fun h => h.2.1 c8)], rfl, rfl, rfl⟩
    · refine jx_iload_n C dX8_isLane_11 rfl ?_
      refine jx_iconst (v := 5) C dX8_isLane_12 (by decide) ?_
      refine jx_ic_ge (tgt := 20) C dX8_isLane_13 (by decide) (fun c13 => ?_) (fun c13 => ?_)
      · refine jx_iconst (v := 0) C dX8_isLane_20 (by decide) ?_
        exact jx_zret C dX8_isLane_21 rfl ⟨by rw [bI_f (fun h => h.2.2 c13)], rfl, rfl, rfl⟩
      · refine jx_iconst (v := 1) C dX8_isLane_16 (by decide) ?_
        refine jx_goto (tgt := 21) C dX8_isLane_17 (by decide) ?_
        exact jx_zret C dX8_isLane_21 rfl ⟨by rw [bI_t ⟨h1, c8, c13⟩], rfl, rfl, rfl⟩
  · skip
    refine jx_one C (jr_S C (c_8_isFrame) sw_8_35 rfl ⟨Nat.le_of_ble_eq_true rfl, Nat.le_of_ble_eq_true rfl⟩ ⟨Nat.le_of_ble_eq_true rfl, Nat.le_of_ble_eq_true rfl⟩ dX8_isLane_1 rfl (Nat.le_of_ble_eq_true rfl)) ?_
    rw [bI_f h1]
    refine jx_if_eqT (tgt := 20) C dX8_isLane_4 (by decide) (by decide) ?_
    refine jx_iconst (v := 0) C dX8_isLane_20 (by decide) ?_
    exact jx_zret C dX8_isLane_21 rfl ⟨by rw [bI_f (fun h => h1 h.1)], rfl, rfl, rfl⟩
set_option maxRecDepth 100000 in
set_option maxHeartbeats 4000000 in
theorem c_8_place {l : Launch} {D : va_G} {K : Nat → ClassId} {A : Nat → Nat} {I : TI} {U : TU} {P : TP} {f s0 : Int32} : MM l yX8_place cX8_place 2 (some .int) 0 D K A (I) (U) (P) [.int f, .int s0] (XE (some (.int (f * 5 + s0))) I U P) := by
  refine MM.go (own := RX8) (lv0 := [some (.int f), some (.int s0)]) rfl (by decide) rfl (Nat.le_of_ble_eq_true rfl) rfl ?_
  intro p e s m args below meth c C
  refine jx_iload_n C dX8_place_0 rfl ?_
  refine jx_iconst (v := 5) C dX8_place_1 (by decide) ?_
  refine jx_imul C dX8_place_2 ?_
  refine jx_iload_n C dX8_place_3 rfl ?_
  refine jx_iadd C dX8_place_4 ?_
  exact jx_iret C dX8_place_5 ⟨rfl, rfl, rfl, rfl⟩
set_option maxRecDepth 100000 in
set_option maxHeartbeats 4000000 in
theorem c_10_isAct {l : Launch} {D : va_G} {K : Nat → ClassId} {A : Nat → Nat} {I : TI} {U : TU} {P : TP} {f : Int32} : MM l yX10_isAct cX10_isAct 1 (some .boolean) 0 D K A (I) (U) (P) [.int f] (XE (some (.int (bI (inK f)))) I U P) := by
  refine MM.go (own := RX10) (lv0 := [some (.int f)]) rfl (by decide) rfl (Nat.le_of_ble_eq_true rfl) rfl ?_
  intro p e s m args below meth c C
  refine jx_iload_n C dX10_isAct_0 rfl ?_
  refine jx_if_lt (tgt := 13) C dX10_isAct_1 (by decide) (fun c1 => ?_) (fun c1 => ?_)
  · refine jx_iconst (v := 0) C dX10_isAct_13 (by decide) ?_
    exact jx_zret C dX10_isAct_14 rfl ⟨by simp [bI, inK, c1], rfl, rfl, rfl⟩
  · refine jx_iload_n C dX10_isAct_4 rfl ?_
    refine jx_iconst (v := 4) C dX10_isAct_5 (by decide) ?_
    refine jx_ic_gt (tgt := 13) C dX10_isAct_6 (by decide) (fun c6 => ?_) (fun c6 => ?_)
    · refine jx_iconst (v := 0) C dX10_isAct_13 (by decide) ?_
      exact jx_zret C dX10_isAct_14 rfl ⟨by simp [bI, inK, c1, c6], rfl, rfl, rfl⟩
    · refine jx_iconst (v := 1) C dX10_isAct_9 (by decide) ?_
      refine jx_goto (tgt := 14) C dX10_isAct_10 (by decide) ?_
      exact jx_zret C dX10_isAct_14 rfl ⟨by simp [bI, inK, c1, c6], rfl, rfl, rfl⟩
set_option maxRecDepth 100000 in
set_option maxHeartbeats 4000000 in
theorem c_6_count {l : Launch} {D : va_G} {K : Nat → ClassId} {A : Nat → Nat} {I : TI} {U : TU} {P : TP}  : MM l yX6_count cX6_count 1 (some .int) 0 D K A (I) (U) (P) [.ref (A 44)] (XE (some (.int (I 44 2))) I U P) := by
  refine MM.go (own := RX6) (lv0 := [some (.ref (A 44))]) rfl (by decide) rfl (Nat.le_of_ble_eq_true rfl) rfl ?_
  intro p e s m args below meth c C
  refine jx_aload_n C dX6_count_0 rfl ?_
  refine jx_get C fl_6_19_5 dX6_count_1 (by decide) gg_44 rfl ?_
  exact jx_iret C dX6_count_4 ⟨rfl, rfl, rfl, rfl⟩
set_option maxRecDepth 100000 in
set_option maxHeartbeats 4000000 in
theorem c_6_isEmpty {l : Launch} {D : va_G} {K : Nat → ClassId} {A : Nat → Nat} {I : TI} {U : TU} {P : TP}  : MM l yX6_isEmpty cX6_isEmpty 1 (some .boolean) 0 D K A (I) (U) (P) [.ref (A 44)] (XE (some (.int (bI (I 44 2 = 0)))) I U P) := by
  refine MM.go (own := RX6) (lv0 := [some (.ref (A 44))]) rfl (by decide) rfl (Nat.le_of_ble_eq_true rfl) rfl ?_
  intro p e s m args below meth c C
  refine jx_aload_n C dX6_isEmpty_0 rfl ?_
  refine jx_get C fl_6_19_5 dX6_isEmpty_1 (by decide) gg_44 rfl ?_
  refine jx_if_ne (tgt := 11) C dX6_isEmpty_4 (by decide) (fun c4 => ?_) (fun c4 => ?_)
  · refine jx_iconst (v := 0) C dX6_isEmpty_11 (by decide) ?_
    exact jx_zret C dX6_isEmpty_12 rfl ⟨by simp [bI, c4], rfl, rfl, rfl⟩
  · refine jx_iconst (v := 1) C dX6_isEmpty_7 (by decide) ?_
    refine jx_goto (tgt := 12) C dX6_isEmpty_8 (by decide) ?_
    exact jx_zret C dX6_isEmpty_12 rfl ⟨by simp [bI, c4], rfl, rfl, rfl⟩
set_option maxRecDepth 100000 in
set_option maxHeartbeats 4000000 in
theorem c_6_isFull {l : Launch} {D : va_G} {K : Nat → ClassId} {A : Nat → Nat} {I : TI} {U : TU} {P : TP}  : MM l yX6_isFull cX6_isFull 1 (some .boolean) 0 D K A (I) (U) (P) [.ref (A 44)] (XE (some (.int (bI (I 44 2 = 16)))) I U P) := by
  refine MM.go (own := RX6) (lv0 := [some (.ref (A 44))]) rfl (by decide) rfl (Nat.le_of_ble_eq_true rfl) rfl ?_
  intro p e s m args below meth c C
  refine jx_aload_n C dX6_isFull_0 rfl ?_
  refine jx_get C fl_6_19_5 dX6_isFull_1 (by decide) gg_44 rfl ?_
  refine jx_bipush (v := 16) C dX6_isFull_4 (by decide) ?_
  refine jx_ic_ne (tgt := 13) C dX6_isFull_6 (by decide) (fun c6 => ?_) (fun c6 => ?_)
  · refine jx_iconst (v := 0) C dX6_isFull_13 (by decide) ?_
    exact jx_zret C dX6_isFull_14 rfl ⟨by simp [bI, c6], rfl, rfl, rfl⟩
  · refine jx_iconst (v := 1) C dX6_isFull_9 (by decide) ?_
    refine jx_goto (tgt := 14) C dX6_isFull_10 (by decide) ?_
    exact jx_zret C dX6_isFull_14 rfl ⟨by simp [bI, c6], rfl, rfl, rfl⟩
theorem rem16 {a b : Int32} {x y : Nat} (hx : a = nI x) (hy : b = nI y) (h1 : x < 100) (h2 : y < 100) : (a + b) - (a + b) / 16 * 16 = nI ((x + y) % 16) := by
  rw [hx, hy, nI_add, show (16 : Int32) = nI 16 from rfl]
  exact pk_rem (by omega) (by decide) (by decide)
set_option maxRecDepth 100000 in
set_option maxHeartbeats 4000000 in
theorem c_6_wind {l : Launch} {D : va_G} {K : Nat → ClassId} {A : Nat → Nat} {I : TI} {U : TU} {P : TP} {v : Int32} {fi co : Nat} (hfi : I 44 1 = nI fi) (hco : I 44 2 = nI co) (h1 : fi < 16) (h2 : co < 16) : MM l yX6_wind cX6_wind 2 none 1 D K A (I) (U) (P) [.ref (A 44), .int v] (XE none (up2 (up2 I 45 ((fi + co) % 16) v) 44 2 (nI (co + 1))) U P) := by
  have hne : ¬ I 44 2 = 16 := by rw [hco, show (16 : Int32) = nI 16 from rfl, nI_eq (by omega) (by decide)]; omega
  refine MM.go (own := RX6) (lv0 := [some (.ref (A 44)), some (.int v)]) rfl (by decide) rfl (Nat.le_of_ble_eq_true rfl) rfl ?_
  intro p e s m args below meth c C
  refine jx_aload_n C dX6_wind_0 rfl ?_
  refine jx_one C (jr_V C (c_6_isFull) vw_6_22 (by decide) gg_44 rfl rfl ⟨Nat.le_of_ble_eq_true rfl, Nat.le_of_ble_eq_true rfl⟩ ⟨Nat.le_of_ble_eq_true rfl, Nat.le_of_ble_eq_true rfl⟩ dX6_wind_1 rfl (Nat.le_of_ble_eq_true rfl)) ?_
  rw [bI_f hne]
  refine jx_if_neF (tgt := 35) C dX6_wind_4 (by decide) (by decide) ?_
  refine jx_aload_n C dX6_wind_7 rfl ?_
  refine jx_get C fl_6_9_5 dX6_wind_8 (by decide) gg_44 rfl ?_
  refine jx_aload_n C dX6_wind_11 rfl ?_
  refine jx_get C fl_6_15_5 dX6_wind_12 (by decide) gg_44 rfl ?_
  refine jx_aload_n C dX6_wind_15 rfl ?_
  refine jx_get C fl_6_19_5 dX6_wind_16 (by decide) gg_44 rfl ?_
  refine jx_iadd C dX6_wind_19 ?_
  refine jx_bipush (v := 16) C dX6_wind_20 (by decide) ?_
  refine jx_irem C dX6_wind_22 (by decide) ?_
  refine jx_iload_n C dX6_wind_23 rfl ?_
  refine jx_iastI ((fi + co) % 16) C dX6_wind_24 (by decide) (fun _ => gg_45) (rem16 hfi hco (by omega) (by omega)) (Nat.mod_lt _ (by decide)) (by decide) ?_
  refine jx_aload_n C dX6_wind_25 rfl ?_
  refine jx_dup C dX6_wind_26 rfl ?_
  refine jx_get C fl_6_19_5 dX6_wind_27 (by decide) gg_44 rfl ?_
  refine jx_iconst (v := 1) C dX6_wind_30 (by decide) ?_
  refine jx_iadd C dX6_wind_31 ?_
  rw [up2_ne (by omega), hco, nI_1]
  refine jx_putI C fp_6_19_5 dX6_wind_32 (by decide) gg_44 (Nat.le_of_ble_eq_true rfl) rfl ?_
  exact jx_vret C dX6_wind_35 ⟨rfl, rfl, rfl, rfl⟩
set_option maxRecDepth 100000 in
set_option maxHeartbeats 4000000 in
theorem c_6_draw {l : Launch} {D : va_G} {K : Nat → ClassId} {A : Nat → Nat} {I : TI} {U : TU} {P : TP} {fi co : Nat} (hfi : I 44 1 = nI fi) (hco : I 44 2 = nI (co + 1)) (h1 : fi < 16) (h2 : co < 16) : MM l yX6_draw cX6_draw 2 (some .int) 1 D K A (I) (U) (P) [.ref (A 44)] (XE (some (.int (I 45 fi))) (up2 (up2 I 44 1 (nI ((fi + 1) % 16))) 44 2 (nI co)) U P) := by
  have hne : ¬ I 44 2 = 0 := by rw [hco]; exact nI_ne0 (by omega) (by omega)
  refine MM.go (own := RX6) (lv0 := [some (.ref (A 44)), none]) rfl (by decide) rfl (Nat.le_of_ble_eq_true rfl) rfl ?_
  intro p e s m args below meth c C
  refine jx_aload_n C dX6_draw_0 rfl ?_
  refine jx_one C (jr_V C (c_6_isEmpty) vw_6_26 (by decide) gg_44 rfl rfl ⟨Nat.le_of_ble_eq_true rfl, Nat.le_of_ble_eq_true rfl⟩ ⟨Nat.le_of_ble_eq_true rfl, Nat.le_of_ble_eq_true rfl⟩ dX6_draw_1 rfl (Nat.le_of_ble_eq_true rfl)) ?_
  rw [bI_f hne]
  refine jx_if_eqT (tgt := 9) C dX6_draw_4 (by decide) (by decide) ?_
  refine jx_aload_n C dX6_draw_9 rfl ?_
  refine jx_get C fl_6_9_5 dX6_draw_10 (by decide) gg_44 rfl ?_
  refine jx_aload_n C dX6_draw_13 rfl ?_
  refine jx_get C fl_6_15_5 dX6_draw_14 (by decide) gg_44 rfl ?_
  refine jx_iald (fi) C dX6_draw_17 (by decide) gg_45 hfi h1 (by decide) ?_
  refine jx_istore_n (lv1 := [_, _]) C dX6_draw_18 (by decide) rfl ?_
  refine jx_aload_n C dX6_draw_19 rfl ?_
  refine jx_aload_n C dX6_draw_20 rfl ?_
  refine jx_get C fl_6_15_5 dX6_draw_21 (by decide) gg_44 rfl ?_
  refine jx_iconst (v := 1) C dX6_draw_24 (by decide) ?_
  refine jx_iadd C dX6_draw_25 ?_
  refine jx_bipush (v := 16) C dX6_draw_26 (by decide) ?_
  refine jx_irem C dX6_draw_28 (by decide) ?_
  rw [rem16 (x := fi) (b := 1) (y := 1) hfi rfl (by omega) (by decide)]
  refine jx_putI C fp_6_15_5 dX6_draw_29 (by decide) gg_44 (Nat.le_of_ble_eq_true rfl) rfl ?_
  refine jx_aload_n C dX6_draw_32 rfl ?_
  refine jx_dup C dX6_draw_33 rfl ?_
  refine jx_get C fl_6_19_5 dX6_draw_34 (by decide) gg_44 rfl ?_
  refine jx_iconst (v := 1) C dX6_draw_37 (by decide) ?_
  refine jx_isub C dX6_draw_38 ?_
  rw [up2_ne (by omega), hco, nI_pred]
  refine jx_putI C fp_6_19_5 dX6_draw_39 (by decide) gg_44 (Nat.le_of_ble_eq_true rfl) rfl ?_
  refine jx_iload_n C dX6_draw_42 rfl ?_
  exact jx_iret C dX6_draw_43 ⟨rfl, rfl, rfl, rfl⟩
set_option maxRecDepth 100000 in
set_option maxHeartbeats 4000000 in
theorem c_4_begin {l : Launch} {D : va_G} {K : Nat → ClassId} {A : Nat → Nat} {I : TI} {U : TU} {P : TP}  : MM l yX4_begin cX4_begin 1 none 0 D K A (I) (U) (P) [.ref (A 63)] (XE none (up2 I 63 1 0) U P) := by
  refine MM.go (own := RX4) (lv0 := [some (.ref (A 63))]) rfl (by decide) rfl (Nat.le_of_ble_eq_true rfl) rfl ?_
  intro p e s m args below meth c C
  refine jx_aload_n C dX4_begin_0 rfl ?_
  refine jx_iconst (v := 0) C dX4_begin_1 (by decide) ?_
  refine jx_putI C fp_4_15_3 dX4_begin_2 (by decide) gg_63 (Nat.le_of_ble_eq_true rfl) rfl ?_
  exact jx_vret C dX4_begin_5 ⟨rfl, rfl, rfl, rfl⟩
set_option maxRecDepth 100000 in
set_option maxHeartbeats 4000000 in
theorem c_4_latest {l : Launch} {D : va_G} {K : Nat → ClassId} {A : Nat → Nat} {I : TI} {U : TU} {P : TP}  : MM l yX4_latest cX4_latest 1 (some .int) 0 D K A (I) (U) (P) [.ref (A 63)] (XE (some (.int (I 63 1))) I U P) := by
  refine MM.go (own := RX4) (lv0 := [some (.ref (A 63))]) rfl (by decide) rfl (Nat.le_of_ble_eq_true rfl) rfl ?_
  intro p e s m args below meth c C
  refine jx_aload_n C dX4_latest_0 rfl ?_
  refine jx_get C fl_4_15_3 dX4_latest_1 (by decide) gg_63 rfl ?_
  exact jx_iret C dX4_latest_4 ⟨rfl, rfl, rfl, rfl⟩
set_option maxRecDepth 100000 in
set_option maxHeartbeats 4000000 in
theorem c_4_tell {l : Launch} {D : va_G} {K : Nat → ClassId} {A : Nat → Nat} {I : TI} {U : TU} {P : TP} {f : Nat} (h1 : 1 ≤ f) (h2 : f ≤ 5) : MM l yX4_tell cX4_tell 2 (some .int) 0 D K A (I) (U) (P) [.ref (A 63), .int (nI f)] (XE (some (.int 0)) (up2 (up2 I 63 1 (nI f)) 64 f (I 64 f + 1)) U P) := by
  refine MM.go (own := RX4) (lv0 := [some (.ref (A 63)), some (.int (nI f))]) rfl (by decide) rfl (Nat.le_of_ble_eq_true rfl) rfl ?_
  intro p e s m args below meth c C
  refine jx_iload_n C dX4_tell_0 rfl ?_
  refine jx_iconst (v := 1) C dX4_tell_1 (by decide) ?_
  refine jx_ic_ltF (tgt := 25) C dX4_tell_2 (nI_nlt (a := f) (b := 1) (by omega) (by omega)) (by decide) ?_
  refine jx_iload_n C dX4_tell_5 rfl ?_
  refine jx_iconst (v := 5) C dX4_tell_6 (by decide) ?_
  refine jx_ic_gtF (tgt := 25) C dX4_tell_7 (nI_nlt (a := 5) (b := f) (by omega) (by decide)) (by decide) ?_
  refine jx_aload_n C dX4_tell_10 rfl ?_
  refine jx_iload_n C dX4_tell_11 rfl ?_
  refine jx_putI C fp_4_15_3 dX4_tell_12 (by decide) gg_63 (Nat.le_of_ble_eq_true rfl) rfl ?_
  refine jx_aload_n C dX4_tell_15 rfl ?_
  refine jx_get C fl_4_9_3 dX4_tell_16 (by decide) gg_63 rfl ?_
  refine jx_iload_n C dX4_tell_19 rfl ?_
  refine jx_dup2 C dX4_tell_20 rfl rfl ?_
  refine jx_iald (f) C dX4_tell_21 (by decide) gg_64 rfl (by omega) (by decide) ?_
  refine jx_iconst (v := 1) C dX4_tell_22 (by decide) ?_
  refine jx_iadd C dX4_tell_23 ?_
  rw [up2_ne (by omega)]
  refine jx_iastI (f) C dX4_tell_24 (by decide) (fun _ => gg_64) rfl (by omega) (by decide) ?_
  refine jx_iconst (v := 0) C dX4_tell_25 (by decide) ?_
  exact jx_iret C dX4_tell_26 ⟨rfl, rfl, rfl, rfl⟩
set_option maxRecDepth 100000 in
set_option maxHeartbeats 4000000 in
theorem c_4_countOf {l : Launch} {D : va_G} {K : Nat → ClassId} {A : Nat → Nat} {I : TI} {U : TU} {P : TP} {f : Nat} (h1 : 1 ≤ f) (h2 : f ≤ 5) : MM l yX4_countOf cX4_countOf 2 (some .int) 0 D K A (I) (U) (P) [.ref (A 63), .int (nI f)] (XE (some (.int (I 64 f))) I U P) := by
  refine MM.go (own := RX4) (lv0 := [some (.ref (A 63)), some (.int (nI f))]) rfl (by decide) rfl (Nat.le_of_ble_eq_true rfl) rfl ?_
  intro p e s m args below meth c C
  refine jx_iload_n C dX4_countOf_0 rfl ?_
  refine jx_iconst (v := 1) C dX4_countOf_1 (by decide) ?_
  refine jx_ic_ltF (tgt := 19) C dX4_countOf_2 (nI_nlt (a := f) (b := 1) (by omega) (by omega)) (by decide) ?_
  refine jx_iload_n C dX4_countOf_5 rfl ?_
  refine jx_iconst (v := 5) C dX4_countOf_6 (by decide) ?_
  refine jx_ic_gtF (tgt := 19) C dX4_countOf_7 (nI_nlt (a := 5) (b := f) (by omega) (by decide)) (by decide) ?_
  refine jx_aload_n C dX4_countOf_10 rfl ?_
  refine jx_get C fl_4_9_3 dX4_countOf_11 (by decide) gg_63 rfl ?_
  refine jx_iload_n C dX4_countOf_14 rfl ?_
  refine jx_iald (f) C dX4_countOf_15 (by decide) gg_64 rfl (by omega) (by decide) ?_
  refine jx_goto (tgt := 20) C dX4_countOf_16 (by decide) ?_
  exact jx_iret C dX4_countOf_20 ⟨rfl, rfl, rfl, rfl⟩
end
section
/-! the cloth and the deck -/
abbrev inR (n x : Int32) : Prop := ¬ x < 0 ∧ ¬ n ≤ x
theorem inR_of {n : Nat} {x : Int32} (hn : n < 1000) (h : inR (nI n) x) : ∃ j : Nat, j < n ∧ x = nI j := by
  rcases pk_ix x (n := n) (by omega) with h1 | h1 | h1
  · exact absurd h1 h.1
  · exact absurd h1 h.2
  · exact h1
theorem inR_nI {n j : Nat} (hn : n < 1000) (h : j < n) : inR (nI n) (nI j) := ⟨nI_pos (by omega), nI_ge h (by omega)⟩
/-- the fault of a place for a pick: t: is there cloth; n: how many picks; x: the place -/
def fPl (t n x : Int32) : Int32 := if t = 0 then 1 else if inR n x then 0 else 2
/-- .. of a pick that must be there, r: its row -/
def fPk (t n x r : Int32) : Int32 := if t = 0 then 1 else if inR n x then (if r = -1 then 1 else 0) else 2
set_option maxRecDepth 100000 in
set_option maxHeartbeats 4000000 in
theorem c_1_width {l : Launch} {D : va_G} {K : Nat → ClassId} {A : Nat → Nat} {I : TI} {U : TU} {P : TP}  : MM l yX1_width cX1_width 1 (some .int) 0 D K A (I) (U) (P) [.ref (A 46)] (XE (some (.int (I 46 4))) I U P) := by
  refine MM.go (own := RX1) (lv0 := [some (.ref (A 46))]) rfl (by decide) rfl (Nat.le_of_ble_eq_true rfl) rfl ?_
  intro p e s m args below meth c C
  refine jx_aload_n C dX1_width_0 rfl ?_
  refine jx_get C fl_1_26_1 dX1_width_1 (by decide) gg_46 rfl ?_
  exact jx_iret C dX1_width_4 ⟨rfl, rfl, rfl, rfl⟩
set_option maxRecDepth 100000 in
set_option maxHeartbeats 4000000 in
theorem c_1_isPlace {l : Launch} {D : va_G} {K : Nat → ClassId} {A : Nat → Nat} {I : TI} {U : TU} {P : TP} {x : Int32} : MM l yX1_isPlace cX1_isPlace 2 (some .boolean) 0 D K A (I) (U) (P) [.ref (A 46), .int x] (XE (some (.int (bI (inR (I 46 3) x)))) I U P) := by
  refine MM.go (own := RX1) (lv0 := [some (.ref (A 46)), some (.int x)]) rfl (by decide) rfl (Nat.le_of_ble_eq_true rfl) rfl ?_
  intro p e s m args below meth c C
  refine jx_iload_n C dX1_isPlace_0 rfl ?_
  refine jx_if_lt (tgt := 16) C dX1_isPlace_1 (by decide) (fun c1 => ?_) (fun c1 => ?_)
  · refine jx_iconst (v := 0) C dX1_isPlace_16 (by decide) ?_
    exact jx_zret C dX1_isPlace_17 rfl ⟨by simp [bI, inR, c1], rfl, rfl, rfl⟩
  · refine jx_iload_n C dX1_isPlace_4 rfl ?_
    refine jx_aload_n C dX1_isPlace_5 rfl ?_
    refine jx_get C fl_1_22_1 dX1_isPlace_6 (by decide) gg_46 rfl ?_
    refine jx_ic_ge (tgt := 16) C dX1_isPlace_9 (by decide) (fun c9 => ?_) (fun c9 => ?_)
    · refine jx_iconst (v := 0) C dX1_isPlace_16 (by decide) ?_
      exact jx_zret C dX1_isPlace_17 rfl ⟨by simp [bI, inR, c1, c9], rfl, rfl, rfl⟩
    · refine jx_iconst (v := 1) C dX1_isPlace_12 (by decide) ?_
      refine jx_goto (tgt := 17) C dX1_isPlace_13 (by decide) ?_
      exact jx_zret C dX1_isPlace_17 rfl ⟨by simp [bI, inR, c1, c9], rfl, rfl, rfl⟩
set_option maxRecDepth 100000 in
set_option maxHeartbeats 4000000 in
theorem c_1_hasCell {l : Launch} {D : va_G} {K : Nat → ClassId} {A : Nat → Nat} {I : TI} {U : TU} {P : TP} {x : Int32} : MM l yX1_hasCell cX1_hasCell 2 (some .boolean) 0 D K A (I) (U) (P) [.ref (A 46), .int x] (XE (some (.int (bI (inR (I 46 4) x)))) I U P) := by
  refine MM.go (own := RX1) (lv0 := [some (.ref (A 46)), some (.int x)]) rfl (by decide) rfl (Nat.le_of_ble_eq_true rfl) rfl ?_
  intro p e s m args below meth c C
  refine jx_iload_n C dX1_hasCell_0 rfl ?_
  refine jx_if_lt (tgt := 16) C dX1_hasCell_1 (by decide) (fun c1 => ?_) (fun c1 => ?_)
  · refine jx_iconst (v := 0) C dX1_hasCell_16 (by decide) ?_
    exact jx_zret C dX1_hasCell_17 rfl ⟨by simp [bI, inR, c1], rfl, rfl, rfl⟩
  · refine jx_iload_n C dX1_hasCell_4 rfl ?_
    refine jx_aload_n C dX1_hasCell_5 rfl ?_
    refine jx_get C fl_1_26_1 dX1_hasCell_6 (by decide) gg_46 rfl ?_
    refine jx_ic_ge (tgt := 16) C dX1_hasCell_9 (by decide) (fun c9 => ?_) (fun c9 => ?_)
    · refine jx_iconst (v := 0) C dX1_hasCell_16 (by decide) ?_
      exact jx_zret C dX1_hasCell_17 rfl ⟨by simp [bI, inR, c1, c9], rfl, rfl, rfl⟩
    · refine jx_iconst (v := 1) C dX1_hasCell_12 (by decide) ?_
      refine jx_goto (tgt := 17) C dX1_hasCell_13 (by decide) ?_
      exact jx_zret C dX1_hasCell_17 rfl ⟨by simp [bI, inR, c1, c9], rfl, rfl, rfl⟩
set_option maxRecDepth 100000 in
set_option maxHeartbeats 4000000 in
theorem c_1_placeFault {l : Launch} {D : va_G} {K : Nat → ClassId} {A : Nat → Nat} {I : TI} {U : TU} {P : TP} {x : Int32} : MM l yX1_placeFault cX1_placeFault 2 (some .int) 1 D K A (I) (U) (P) [.ref (A 46), .int x] (XE (some (.int (fPl (I 46 2) (I 46 3) x))) I U P) := by
  refine MM.go (own := RX1) (lv0 := [some (.ref (A 46)), some (.int x)]) rfl (by decide) rfl (Nat.le_of_ble_eq_true rfl) rfl ?_
  intro p e s m args below meth c C
  refine jx_aload_n C dX1_placeFault_0 rfl ?_
  refine jx_get C fl_1_18_1 dX1_placeFault_1 (by decide) gg_46 rfl ?_
  refine jx_if_ne (tgt := 9) C dX1_placeFault_4 (by decide) (fun c4 => ?_) (fun c4 => ?_)
  · refine jx_aload_n C dX1_placeFault_9 rfl ?_
    refine jx_iload_n C dX1_placeFault_10 rfl ?_
    by_cases hh : inR (I 46 3) x
    · skip
      refine jx_one C (jr_V C (c_1_isPlace) vw_1_29 (by decide) gg_46 rfl rfl ⟨Nat.le_of_ble_eq_true rfl, Nat.le_of_ble_eq_true rfl⟩ ⟨Nat.le_of_ble_eq_true rfl, Nat.le_of_ble_eq_true rfl⟩ dX1_placeFault_11 rfl (Nat.le_of_ble_eq_true rfl)) ?_
      rw [bI_t hh]
      refine jx_if_eqF (tgt := 21) C dX1_placeFault_14 (by decide) (by decide) ?_
      refine jx_iconst (v := 0) C dX1_placeFault_17 (by decide) ?_
      refine jx_goto (tgt := 22) C dX1_placeFault_18 (by decide) ?_
      exact jx_iret C dX1_placeFault_22 ⟨by simp [fPl, c4, hh], rfl, rfl, rfl⟩
    · skip
      refine jx_one C (jr_V C (c_1_isPlace) vw_1_29 (by decide) gg_46 rfl rfl ⟨Nat.le_of_ble_eq_true rfl, Nat.le_of_ble_eq_true rfl⟩ ⟨Nat.le_of_ble_eq_true rfl, Nat.le_of_ble_eq_true rfl⟩ dX1_placeFault_11 rfl (Nat.le_of_ble_eq_true rfl)) ?_
      rw [bI_f hh]
      refine jx_if_eqT (tgt := 21) C dX1_placeFault_14 (by decide) (by decide) ?_
      refine jx_iconst (v := 2) C dX1_placeFault_21 (by decide) ?_
      exact jx_iret C dX1_placeFault_22 ⟨by simp [fPl, c4, hh], rfl, rfl, rfl⟩
  · refine jx_iconst (v := 1) C dX1_placeFault_7 (by decide) ?_
    exact jx_iret C dX1_placeFault_8 ⟨by simp [fPl, c4], rfl, rfl, rfl⟩
set_option maxRecDepth 100000 in
set_option maxHeartbeats 4000000 in
theorem c_1_hasPick {l : Launch} {D : va_G} {K : Nat → ClassId} {A : Nat → Nat} {I : TI} {U : TU} {P : TP} {x : Int32} {n : Nat} (hn : I 46 3 = nI n) (h24 : n ≤ 24) : MM l yX1_hasPick cX1_hasPick 2 (some .boolean) 1 D K A (I) (U) (P) [.ref (A 46), .int x] (XE (some (.int (bI (inR (I 46 3) x ∧ ¬ I 48 x.toNatClampNeg = -1)))) I U P) := by
  refine MM.go (own := RX1) (lv0 := [some (.ref (A 46)), some (.int x)]) rfl (by decide) rfl (Nat.le_of_ble_eq_true rfl) rfl ?_
  intro p e s m args below meth c C
  refine jx_aload_n C dX1_hasPick_0 rfl ?_
  refine jx_iload_n C dX1_hasPick_1 rfl ?_
  by_cases hh : inR (I 46 3) x
  · skip
    refine jx_one C (jr_V C (c_1_isPlace) vw_1_29 (by decide) gg_46 rfl rfl ⟨Nat.le_of_ble_eq_true rfl, Nat.le_of_ble_eq_true rfl⟩ ⟨Nat.le_of_ble_eq_true rfl, Nat.le_of_ble_eq_true rfl⟩ dX1_hasPick_2 rfl (Nat.le_of_ble_eq_true rfl)) ?_
    rw [bI_t hh]
    refine jx_if_eqF (tgt := 22) C dX1_hasPick_5 (by decide) (by decide) ?_
    refine jx_aload_n C dX1_hasPick_8 rfl ?_
    refine jx_get C fl_1_15_1 dX1_hasPick_9 (by decide) gg_46 rfl ?_
    refine jx_iload_n C dX1_hasPick_12 rfl ?_
    obtain ⟨j, hj, rfl⟩ := inR_of (by omega) (hn ▸ hh)
    rw [nI_clamp (by omega)]
    refine jx_iald (j) C dX1_hasPick_13 (by decide) gg_48 rfl (by omega) (by decide) ?_
    refine jx_iconst (v := (-1)) C dX1_hasPick_14 (by decide) ?_
    refine jx_ic_eq (tgt := 22) C dX1_hasPick_15 (by decide) (fun c15 => ?_) (fun c15 => ?_)
    · refine jx_iconst (v := 0) C dX1_hasPick_22 (by decide) ?_
      exact jx_zret C dX1_hasPick_23 rfl ⟨by simp [bI, hh, c15], rfl, rfl, rfl⟩
    · refine jx_iconst (v := 1) C dX1_hasPick_18 (by decide) ?_
      refine jx_goto (tgt := 23) C dX1_hasPick_19 (by decide) ?_
      exact jx_zret C dX1_hasPick_23 rfl ⟨by simp [bI, hh, c15], rfl, rfl, rfl⟩
  · skip
    refine jx_one C (jr_V C (c_1_isPlace) vw_1_29 (by decide) gg_46 rfl rfl ⟨Nat.le_of_ble_eq_true rfl, Nat.le_of_ble_eq_true rfl⟩ ⟨Nat.le_of_ble_eq_true rfl, Nat.le_of_ble_eq_true rfl⟩ dX1_hasPick_2 rfl (Nat.le_of_ble_eq_true rfl)) ?_
    rw [bI_f hh]
    refine jx_if_eqT (tgt := 22) C dX1_hasPick_5 (by decide) (by decide) ?_
    refine jx_iconst (v := 0) C dX1_hasPick_22 (by decide) ?_
    exact jx_zret C dX1_hasPick_23 rfl ⟨by simp [bI, hh, ], rfl, rfl, rfl⟩
set_option maxRecDepth 100000 in
set_option maxHeartbeats 4000000 in
theorem c_1_pickFault {l : Launch} {D : va_G} {K : Nat → ClassId} {A : Nat → Nat} {I : TI} {U : TU} {P : TP} {x : Int32} {n : Nat} (hn : I 46 3 = nI n) (h24 : n ≤ 24) : MM l yX1_pickFault cX1_pickFault 3 (some .int) 2 D K A (I) (U) (P) [.ref (A 46), .int x] (XE (some (.int (fPk (I 46 2) (I 46 3) x (I 48 x.toNatClampNeg)))) I U P) := by
  refine MM.go (own := RX1) (lv0 := [some (.ref (A 46)), some (.int x), none]) rfl (by decide) rfl (Nat.le_of_ble_eq_true rfl) rfl ?_
  intro p e s m args below meth c C
  refine jx_aload_n C dX1_pickFault_0 rfl ?_
  refine jx_iload_n C dX1_pickFault_1 rfl ?_
  refine jx_one C (jr_V C (c_1_placeFault) vw_1_33 (by decide) gg_46 rfl rfl ⟨Nat.le_of_ble_eq_true rfl, Nat.le_of_ble_eq_true rfl⟩ ⟨Nat.le_of_ble_eq_true rfl, Nat.le_of_ble_eq_true rfl⟩ dX1_pickFault_2 rfl (Nat.le_of_ble_eq_true rfl)) ?_
  refine jx_istore_n (lv1 := [_, _, _]) C dX1_pickFault_5 (by decide) rfl ?_
  refine jx_iload_n C dX1_pickFault_6 rfl ?_
  by_cases ht : I 46 2 = 0
  · rw [show fPl (I 46 2) (I 46 3) x = 1 by simp [fPl, ht]]
    refine jx_if_neT (tgt := 22) C dX1_pickFault_7 (by decide) (by decide) ?_
    refine jx_iload_n C dX1_pickFault_22 rfl ?_
    exact jx_iret C dX1_pickFault_23 ⟨by simp [fPk, ht], rfl, rfl, rfl⟩
  · by_cases hh : inR (I 46 3) x
    · rw [show fPl (I 46 2) (I 46 3) x = 0 by simp [fPl, ht, hh]]
      refine jx_if_neF (tgt := 22) C dX1_pickFault_7 (by decide) (by decide) ?_
      refine jx_aload_n C dX1_pickFault_10 rfl ?_
      refine jx_iload_n C dX1_pickFault_11 rfl ?_
      by_cases hr : I 48 x.toNatClampNeg = -1
      · skip
        refine jx_one C (jr_V C (c_1_hasPick hn h24) vw_1_37 (by decide) gg_46 rfl rfl ⟨Nat.le_of_ble_eq_true rfl, Nat.le_of_ble_eq_true rfl⟩ ⟨Nat.le_of_ble_eq_true rfl, Nat.le_of_ble_eq_true rfl⟩ dX1_pickFault_12 rfl (Nat.le_of_ble_eq_true rfl)) ?_
        rw [bI_f (fun h => h.2 hr)]
        refine jx_if_neF (tgt := 22) C dX1_pickFault_15 (by decide) (by decide) ?_
        refine jx_iconst (v := 1) C dX1_pickFault_18 (by decide) ?_
        refine jx_goto (tgt := 23) C dX1_pickFault_19 (by decide) ?_
        exact jx_iret C dX1_pickFault_23 ⟨by simp [fPk, ht, hh, hr], rfl, rfl, rfl⟩
      · skip
        refine jx_one C (jr_V C (c_1_hasPick hn h24) vw_1_37 (by decide) gg_46 rfl rfl ⟨Nat.le_of_ble_eq_true rfl, Nat.le_of_ble_eq_true rfl⟩ ⟨Nat.le_of_ble_eq_true rfl, Nat.le_of_ble_eq_true rfl⟩ dX1_pickFault_12 rfl (Nat.le_of_ble_eq_true rfl)) ?_
        rw [bI_t ⟨hh, hr⟩]
        refine jx_if_neT (tgt := 22) C dX1_pickFault_15 (by decide) (by decide) ?_
        refine jx_iload_n C dX1_pickFault_22 rfl ?_
        exact jx_iret C dX1_pickFault_23 ⟨by simp [fPk, ht, hh, hr], rfl, rfl, rfl⟩
    · rw [show fPl (I 46 2) (I 46 3) x = 2 by simp only [fPl, if_neg ht, if_neg hh]]
      refine jx_if_neT (tgt := 22) C dX1_pickFault_7 (by decide) (by decide) ?_
      refine jx_iload_n C dX1_pickFault_22 rfl ?_
      exact jx_iret C dX1_pickFault_23 ⟨by simp only [fPk, if_neg ht, if_neg hh], rfl, rfl, rfl⟩
set_option maxRecDepth 100000 in
set_option maxHeartbeats 4000000 in
theorem c_1_drop {l : Launch} {D : va_G} {K : Nat → ClassId} {A : Nat → Nat} {I : TI} {U : TU} {P : TP} {j n : Nat} (hn : I 46 3 = nI n) (h24 : n ≤ 24) (hj : j < n) : MM l yX1_drop cX1_drop 2 none 1 D K A (I) (U) (P) [.ref (A 46), .int (nI j)] (XE none (up2 I 48 j (-1)) U P) := by
  refine MM.go (own := RX1) (lv0 := [some (.ref (A 46)), some (.int (nI j))]) rfl (by decide) rfl (Nat.le_of_ble_eq_true rfl) rfl ?_
  intro p e s m args below meth c C
  refine jx_aload_n C dX1_drop_0 rfl ?_
  refine jx_iload_n C dX1_drop_1 rfl ?_
  refine jx_one C (jr_V C (c_1_isPlace) vw_1_29 (by decide) gg_46 rfl rfl ⟨Nat.le_of_ble_eq_true rfl, Nat.le_of_ble_eq_true rfl⟩ ⟨Nat.le_of_ble_eq_true rfl, Nat.le_of_ble_eq_true rfl⟩ dX1_drop_2 rfl (Nat.le_of_ble_eq_true rfl)) ?_
  rw [bI_t (hn ▸ inR_nI (by omega) hj)]
  refine jx_if_eqF (tgt := 15) C dX1_drop_5 (by decide) (by decide) ?_
  refine jx_aload_n C dX1_drop_8 rfl ?_
  refine jx_get C fl_1_15_1 dX1_drop_9 (by decide) gg_46 rfl ?_
  refine jx_iload_n C dX1_drop_12 rfl ?_
  refine jx_iconst (v := (-1)) C dX1_drop_13 (by decide) ?_
  refine jx_iastI (j) C dX1_drop_14 (by decide) (fun _ => gg_48) rfl (by omega) (by decide) ?_
  exact jx_vret C dX1_drop_15 ⟨rfl, rfl, rfl, rfl⟩
set_option maxRecDepth 100000 in
set_option maxHeartbeats 4000000 in
theorem c_1_join {l : Launch} {D : va_G} {K : Nat → ClassId} {A : Nat → Nat} {I : TI} {U : TU} {P : TP} {j q n : Nat} (hn : I 46 3 = nI n) (h24 : n ≤ 24) (hj : j < n) (hq : q < n) : MM l yX1_join cX1_join 3 none 1 D K A (I) (U) (P) [.ref (A 46), .int (nI j), .int (nI q)] (XE none (up2 I 48 j (I 48 q)) U P) := by
  refine MM.go (own := RX1) (lv0 := [some (.ref (A 46)), some (.int (nI j)), some (.int (nI q))]) rfl (by decide) rfl (Nat.le_of_ble_eq_true rfl) rfl ?_
  intro p e s m args below meth c C
  refine jx_aload_n C dX1_join_0 rfl ?_
  refine jx_iload_n C dX1_join_1 rfl ?_
  refine jx_one C (jr_V C (c_1_isPlace) vw_1_29 (by decide) gg_46 rfl rfl ⟨Nat.le_of_ble_eq_true rfl, Nat.le_of_ble_eq_true rfl⟩ ⟨Nat.le_of_ble_eq_true rfl, Nat.le_of_ble_eq_true rfl⟩ dX1_join_2 rfl (Nat.le_of_ble_eq_true rfl)) ?_
  rw [bI_t (hn ▸ inR_nI (by omega) hj)]
  refine jx_if_eqF (tgt := 28) C dX1_join_5 (by decide) (by decide) ?_
  refine jx_aload_n C dX1_join_8 rfl ?_
  refine jx_iload_n C dX1_join_9 rfl ?_
  refine jx_one C (jr_V C (c_1_isPlace) vw_1_29 (by decide) gg_46 rfl rfl ⟨Nat.le_of_ble_eq_true rfl, Nat.le_of_ble_eq_true rfl⟩ ⟨Nat.le_of_ble_eq_true rfl, Nat.le_of_ble_eq_true rfl⟩ dX1_join_10 rfl (Nat.le_of_ble_eq_true rfl)) ?_
  rw [bI_t (hn ▸ inR_nI (by omega) hq)]
  refine jx_if_eqF (tgt := 28) C dX1_join_13 (by decide) (by decide) ?_
  refine jx_aload_n C dX1_join_16 rfl ?_
  refine jx_get C fl_1_15_1 dX1_join_17 (by decide) gg_46 rfl ?_
  refine jx_iload_n C dX1_join_20 rfl ?_
  refine jx_aload_n C dX1_join_21 rfl ?_
  refine jx_get C fl_1_15_1 dX1_join_22 (by decide) gg_46 rfl ?_
  refine jx_iload_n C dX1_join_25 rfl ?_
  refine jx_iald (q) C dX1_join_26 (by decide) gg_48 rfl (by omega) (by decide) ?_
  refine jx_iastI (j) C dX1_join_27 (by decide) (fun _ => gg_48) rfl (by omega) (by decide) ?_
  exact jx_vret C dX1_join_28 ⟨rfl, rfl, rfl, rfl⟩
theorem nI_m1 {r : Nat} (h : r < 2 ^ 31) : ¬ nI r = -1 := fun q => nI_pos h (by rw [q]; decide)
theorem ix24 {r u : Nat} : nI r * 24 + nI u = nI (24 * r + u) := by
  rw [show (24 : Int32) = nI 24 from rfl, pk_mul, nI_add, Nat.mul_comm]
set_option maxRecDepth 100000 in
set_option maxHeartbeats 4000000 in
theorem c_1_get {l : Launch} {D : va_G} {K : Nat → ClassId} {A : Nat → Nat} {I : TI} {U : TU} {P : TP} {j u r n w : Nat} (hn : I 46 3 = nI n) (h24 : n ≤ 24) (hj : j < n) (hr : I 48 j = nI r) (hr24 : r < 24) (hw : I 46 4 = nI w) (hw24 : w ≤ 24) (hu : u < w) : MM l yX1_get cX1_get 3 (some .int) 2 D K A (I) (U) (P) [.ref (A 46), .int (nI j), .int (nI u)] (XE (some (.int (I 47 (24 * r + u)))) I U P) := by
  refine MM.go (own := RX1) (lv0 := [some (.ref (A 46)), some (.int (nI j)), some (.int (nI u))]) rfl (by decide) rfl (Nat.le_of_ble_eq_true rfl) rfl ?_
  intro p e s m args below meth c C
  refine jx_aload_n C dX1_get_0 rfl ?_
  refine jx_iload_n C dX1_get_1 rfl ?_
  refine jx_one C (jr_V C (c_1_hasPick hn h24) vw_1_37 (by decide) gg_46 rfl rfl ⟨Nat.le_of_ble_eq_true rfl, Nat.le_of_ble_eq_true rfl⟩ ⟨Nat.le_of_ble_eq_true rfl, Nat.le_of_ble_eq_true rfl⟩ dX1_get_2 rfl (Nat.le_of_ble_eq_true rfl)) ?_
  rw [bI_t ⟨hn ▸ inR_nI (by omega) hj, by rw [nI_clamp (by omega), hr]; exact nI_m1 (by omega)⟩]
  refine jx_if_eqF (tgt := 35) C dX1_get_5 (by decide) (by decide) ?_
  refine jx_aload_n C dX1_get_8 rfl ?_
  refine jx_iload_n C dX1_get_9 rfl ?_
  refine jx_one C (jr_V C (c_1_hasCell) vw_1_40 (by decide) gg_46 rfl rfl ⟨Nat.le_of_ble_eq_true rfl, Nat.le_of_ble_eq_true rfl⟩ ⟨Nat.le_of_ble_eq_true rfl, Nat.le_of_ble_eq_true rfl⟩ dX1_get_10 rfl (Nat.le_of_ble_eq_true rfl)) ?_
  rw [bI_t (hw ▸ inR_nI (by omega) hu)]
  refine jx_if_eqF (tgt := 35) C dX1_get_13 (by decide) (by decide) ?_
  refine jx_aload_n C dX1_get_16 rfl ?_
  refine jx_get C fl_1_9_1 dX1_get_17 (by decide) gg_46 rfl ?_
  refine jx_aload_n C dX1_get_20 rfl ?_
  refine jx_get C fl_1_15_1 dX1_get_21 (by decide) gg_46 rfl ?_
  refine jx_iload_n C dX1_get_24 rfl ?_
  refine jx_iald (j) C dX1_get_25 (by decide) gg_48 rfl (by omega) (by decide) ?_
  refine jx_bipush (v := 24) C dX1_get_26 (by decide) ?_
  rw [hr]
  refine jx_imul C dX1_get_28 ?_
  refine jx_iload_n C dX1_get_29 rfl ?_
  refine jx_iadd C dX1_get_30 ?_
  refine jx_iald (24 * r + u) C dX1_get_31 (by decide) gg_47 ix24 (by omega) (by decide) ?_
  refine jx_goto (tgt := 36) C dX1_get_32 (by decide) ?_
  exact jx_iret C dX1_get_36 ⟨rfl, rfl, rfl, rfl⟩
set_option maxRecDepth 100000 in
set_option maxHeartbeats 4000000 in
theorem c_1_set {l : Launch} {D : va_G} {K : Nat → ClassId} {A : Nat → Nat} {I : TI} {U : TU} {P : TP} {v : Int32} {j u r n w : Nat} (hn : I 46 3 = nI n) (h24 : n ≤ 24) (hj : j < n) (hr : I 48 j = nI r) (hr24 : r < 24) (hw : I 46 4 = nI w) (hw24 : w ≤ 24) (hu : u < w) : MM l yX1_set cX1_set 4 none 2 D K A (I) (U) (P) [.ref (A 46), .int (nI j), .int (nI u), .int v] (XE none (up2 I 47 (24 * r + u) v) U P) := by
  refine MM.go (own := RX1) (lv0 := [some (.ref (A 46)), some (.int (nI j)), some (.int (nI u)), some (.int v)]) rfl (by decide) rfl (Nat.le_of_ble_eq_true rfl) rfl ?_
  intro p e s m args below meth c C
  refine jx_aload_n C dX1_set_0 rfl ?_
  refine jx_iload_n C dX1_set_1 rfl ?_
  refine jx_one C (jr_V C (c_1_hasPick hn h24) vw_1_37 (by decide) gg_46 rfl rfl ⟨Nat.le_of_ble_eq_true rfl, Nat.le_of_ble_eq_true rfl⟩ ⟨Nat.le_of_ble_eq_true rfl, Nat.le_of_ble_eq_true rfl⟩ dX1_set_2 rfl (Nat.le_of_ble_eq_true rfl)) ?_
  rw [bI_t ⟨hn ▸ inR_nI (by omega) hj, by rw [nI_clamp (by omega), hr]; exact nI_m1 (by omega)⟩]
  refine jx_if_eqF (tgt := 33) C dX1_set_5 (by decide) (by decide) ?_
  refine jx_aload_n C dX1_set_8 rfl ?_
  refine jx_iload_n C dX1_set_9 rfl ?_
  refine jx_one C (jr_V C (c_1_hasCell) vw_1_40 (by decide) gg_46 rfl rfl ⟨Nat.le_of_ble_eq_true rfl, Nat.le_of_ble_eq_true rfl⟩ ⟨Nat.le_of_ble_eq_true rfl, Nat.le_of_ble_eq_true rfl⟩ dX1_set_10 rfl (Nat.le_of_ble_eq_true rfl)) ?_
  rw [bI_t (hw ▸ inR_nI (by omega) hu)]
  refine jx_if_eqF (tgt := 33) C dX1_set_13 (by decide) (by decide) ?_
  refine jx_aload_n C dX1_set_16 rfl ?_
  refine jx_get C fl_1_9_1 dX1_set_17 (by decide) gg_46 rfl ?_
  refine jx_aload_n C dX1_set_20 rfl ?_
  refine jx_get C fl_1_15_1 dX1_set_21 (by decide) gg_46 rfl ?_
  refine jx_iload_n C dX1_set_24 rfl ?_
  refine jx_iald (j) C dX1_set_25 (by decide) gg_48 rfl (by omega) (by decide) ?_
  refine jx_bipush (v := 24) C dX1_set_26 (by decide) ?_
  rw [hr]
  refine jx_imul C dX1_set_28 ?_
  refine jx_iload_n C dX1_set_29 rfl ?_
  refine jx_iadd C dX1_set_30 ?_
  refine jx_iload_n C dX1_set_31 rfl ?_
  refine jx_iastI (24 * r + u) C dX1_set_32 (by decide) (fun _ => gg_47) ix24 (by omega) (by decide) ?_
  exact jx_vret C dX1_set_33 ⟨rfl, rfl, rfl, rfl⟩
set_option maxRecDepth 100000 in
set_option maxHeartbeats 4000000 in
theorem c_2_count {l : Launch} {D : va_G} {K : Nat → ClassId} {A : Nat → Nat} {I : TI} {U : TU} {P : TP}  : MM l yX2_count cX2_count 1 (some .int) 0 D K A (I) (U) (P) [.ref (A 49)] (XE (some (.int (I 49 1))) I U P) := by
  refine MM.go (own := RX2) (lv0 := [some (.ref (A 49))]) rfl (by decide) rfl (Nat.le_of_ble_eq_true rfl) rfl ?_
  intro p e s m args below meth c C
  refine jx_aload_n C dX2_count_0 rfl ?_
  refine jx_get C fl_2_17_2 dX2_count_1 (by decide) gg_49 rfl ?_
  exact jx_iret C dX2_count_4 ⟨rfl, rfl, rfl, rfl⟩
set_option maxRecDepth 100000 in
set_option maxHeartbeats 4000000 in
theorem c_2_isFull {l : Launch} {D : va_G} {K : Nat → ClassId} {A : Nat → Nat} {I : TI} {U : TU} {P : TP}  : MM l yX2_isFull cX2_isFull 1 (some .boolean) 0 D K A (I) (U) (P) [.ref (A 49)] (XE (some (.int (bI (I 49 1 = 12)))) I U P) := by
  refine MM.go (own := RX2) (lv0 := [some (.ref (A 49))]) rfl (by decide) rfl (Nat.le_of_ble_eq_true rfl) rfl ?_
  intro p e s m args below meth c C
  refine jx_aload_n C dX2_isFull_0 rfl ?_
  refine jx_get C fl_2_17_2 dX2_isFull_1 (by decide) gg_49 rfl ?_
  refine jx_bipush (v := 12) C dX2_isFull_4 (by decide) ?_
  refine jx_ic_ne (tgt := 13) C dX2_isFull_6 (by decide) (fun c6 => ?_) (fun c6 => ?_)
  · refine jx_iconst (v := 0) C dX2_isFull_13 (by decide) ?_
    exact jx_zret C dX2_isFull_14 rfl ⟨by simp [bI, c6], rfl, rfl, rfl⟩
  · refine jx_iconst (v := 1) C dX2_isFull_9 (by decide) ?_
    refine jx_goto (tgt := 14) C dX2_isFull_10 (by decide) ?_
    exact jx_zret C dX2_isFull_14 rfl ⟨by simp [bI, c6], rfl, rfl, rfl⟩
set_option maxRecDepth 100000 in
set_option maxHeartbeats 4000000 in
theorem c_2_clear {l : Launch} {D : va_G} {K : Nat → ClassId} {A : Nat → Nat} {I : TI} {U : TU} {P : TP}  : MM l yX2_clear cX2_clear 1 none 0 D K A (I) (U) (P) [.ref (A 49)] (XE none (up2 I 49 1 0) U P) := by
  refine MM.go (own := RX2) (lv0 := [some (.ref (A 49))]) rfl (by decide) rfl (Nat.le_of_ble_eq_true rfl) rfl ?_
  intro p e s m args below meth c C
  refine jx_aload_n C dX2_clear_0 rfl ?_
  refine jx_iconst (v := 0) C dX2_clear_1 (by decide) ?_
  refine jx_putI C fp_2_17_2 dX2_clear_2 (by decide) gg_49 (Nat.le_of_ble_eq_true rfl) rfl ?_
  exact jx_vret C dX2_clear_5 ⟨rfl, rfl, rfl, rfl⟩
set_option maxRecDepth 100000 in
set_option maxHeartbeats 4000000 in
theorem c_2_add {l : Launch} {D : va_G} {K : Nat → ClassId} {A : Nat → Nat} {I : TI} {U : TU} {P : TP} {x0 x1 x2 x3 x4 : Int32} {co : Nat} (hco : I 49 1 = nI co) (h12 : co < 12) : MM l yX2_add cX2_add 7 none 1 D K A (I) (U) (P) [.ref (A 49), .int x0, .int x1, .int x2, .int x3, .int x4] (XE none (up2 (up2 (up2 (up2 (up2 (up2 I (51 + co) 0 x0) (51 + co) 1 x1) (51 + co) 2 x2) (51 + co) 3 x3) (51 + co) 4 x4) 49 1 (nI (co + 1))) U P) := by
  have hne : ¬ I 49 1 = 12 := by rw [hco, show (12 : Int32) = nI 12 from rfl, nI_eq (by omega) (by decide)]; omega
  refine MM.go (own := RX2) (lv0 := [some (.ref (A 49)), some (.int x0), some (.int x1), some (.int x2), some (.int x3), some (.int x4), none]) rfl (by decide) rfl (Nat.le_of_ble_eq_true rfl) rfl ?_
  intro p e s m args below meth c C
  refine jx_aload_n C dX2_add_0 rfl ?_
  refine jx_one C (jr_V C (c_2_isFull) vw_2_22 (by decide) gg_49 rfl rfl ⟨Nat.le_of_ble_eq_true rfl, Nat.le_of_ble_eq_true rfl⟩ ⟨Nat.le_of_ble_eq_true rfl, Nat.le_of_ble_eq_true rfl⟩ dX2_add_1 rfl (Nat.le_of_ble_eq_true rfl)) ?_
  rw [bI_f hne]
  refine jx_if_eqT (tgt := 8) C dX2_add_4 (by decide) (by decide) ?_
  refine jx_aload_n C dX2_add_8 rfl ?_
  refine jx_get C fl_2_11_2 dX2_add_9 (by decide) gg_49 rfl ?_
  refine jx_aload_n C dX2_add_12 rfl ?_
  refine jx_get C fl_2_17_2 dX2_add_13 (by decide) gg_49 rfl ?_
  refine jx_aald4 (co) C dX2_add_16 (by decide) gg_50 hco h12 (by decide) ?_
  refine jx_astore (lv1 := [_, _, _, _, _, _, _]) C dX2_add_17 (by decide) rfl ?_
  refine jx_aload C dX2_add_19 rfl ?_
  refine jx_iload_n C dX2_add_21 rfl ?_
  refine jx_putI C fp_2_26_0 dX2_add_22 (by omega) (gg_cd h12) (Nat.le_of_ble_eq_true rfl) (by rw [gg_cd h12]; simp [up2]) ?_
  refine jx_aload C dX2_add_25 rfl ?_
  refine jx_iload_n C dX2_add_27 rfl ?_
  refine jx_putI C fp_2_29_0 dX2_add_28 (by omega) (gg_cd h12) (Nat.le_of_ble_eq_true rfl) (by rw [gg_cd h12]; simp [up2]) ?_
  refine jx_aload C dX2_add_31 rfl ?_
  refine jx_iload_n C dX2_add_33 rfl ?_
  refine jx_putI C fp_2_32_0 dX2_add_34 (by omega) (gg_cd h12) (Nat.le_of_ble_eq_true rfl) (by rw [gg_cd h12]; simp [up2]) ?_
  refine jx_aload C dX2_add_37 rfl ?_
  refine jx_iload C dX2_add_39 rfl ?_
  refine jx_putI C fp_2_35_0 dX2_add_41 (by omega) (gg_cd h12) (Nat.le_of_ble_eq_true rfl) (by rw [gg_cd h12]; simp [up2]) ?_
  refine jx_aload C dX2_add_44 rfl ?_
  refine jx_iload C dX2_add_46 rfl ?_
  refine jx_putI C fp_2_38_0 dX2_add_48 (by omega) (gg_cd h12) (Nat.le_of_ble_eq_true rfl) (by rw [gg_cd h12]; simp [up2]) ?_
  refine jx_aload_n C dX2_add_51 rfl ?_
  refine jx_dup C dX2_add_52 rfl ?_
  refine jx_get C fl_2_17_2 dX2_add_53 (by decide) gg_49 rfl ?_
  refine jx_iconst (v := 1) C dX2_add_56 (by decide) ?_
  refine jx_iadd C dX2_add_57 ?_
  rw [up2_ne (by omega), up2_ne (by omega), up2_ne (by omega), up2_ne (by omega), up2_ne (by omega), hco, nI_1]
  refine jx_putI C fp_2_17_2 dX2_add_58 (by decide) gg_49 (Nat.le_of_ble_eq_true rfl) rfl ?_
  exact jx_vret C dX2_add_61 ⟨rfl, rfl, rfl, rfl⟩
set_option maxRecDepth 100000 in
set_option maxHeartbeats 4000000 in
theorem c_2_at {l : Launch} {D : va_G} {K : Nat → ClassId} {A : Nat → Nat} {I : TI} {U : TU} {P : TP} {j : Nat} (hj : j < 12) : MM l yX2_at cX2_at 2 (some (.object "HandLoom$Card")) 0 D K A (I) (U) (P) [.ref (A 49), .int (nI j)] (XE (some (.ref (A (51 + j)))) I U P) := by
  refine MM.go (own := RX2) (lv0 := [some (.ref (A 49)), some (.int (nI j))]) rfl (by decide) rfl (Nat.le_of_ble_eq_true rfl) rfl ?_
  intro p e s m args below meth c C
  refine jx_aload_n C dX2_at_0 rfl ?_
  refine jx_get C fl_2_11_2 dX2_at_1 (by decide) gg_49 rfl ?_
  refine jx_iload_n C dX2_at_4 rfl ?_
  refine jx_aald4 (j) C dX2_at_5 (by decide) gg_50 rfl hj (by decide) ?_
  exact jx_aret C dX2_at_6 (Or.inr ⟨_, rfl⟩) ⟨rfl, rfl, rfl, rfl⟩
/-- the cloth made anew: n picks of w cells -/
def rnw (I : TI) (n w : Nat) : TI := fun a b => if a = 46 ∧ b = 2 then 1 else if a = 46 ∧ b = 3 then nI n else if a = 46 ∧ b = 4 then nI w else if a = 48 ∧ b < n then nI b else if a = 47 ∧ b / 24 < n ∧ b % 24 < w then 0 else I a b
def rnC (I : TI) (q u : Nat) : TI := fun a b => if a = 47 ∧ 24 * q ≤ b ∧ b < 24 * q + u then 0 else I a b
def rnR (I : TI) (n w q : Nat) : TI := fun a b => if a = 46 ∧ b = 2 then 1 else if a = 46 ∧ b = 3 then nI n else if a = 46 ∧ b = 4 then nI w else if a = 48 ∧ b < q then nI b else if a = 47 ∧ b / 24 < q ∧ b % 24 < w then 0 else I a b
set_option maxRecDepth 100000 in
set_option maxHeartbeats 4000000 in
theorem lp_1_renew_in {p : Program} {l : Launch} {e : Env} {R : Room} {s : State} {m : MethodId} {args : Array Value} {below : List Frame} {meth : Method} {c : Code} {D : va_G} {K : Nat → ClassId} {A : Nat → Nat} {Ax : Nat → Prop} {Q : State → Prop} {U : TU} {P : TP} {I : TI} {n w q : Nat} (C : CX p s m args meth c RX1 cX1_renew 5 none D K Ax) (hw : w ≤ 24) (hq : q < 24) (hk : GJ p l e R s m args below meth c 5 D Ax Q 75 A (gg A K (rnC I q w) (U) (P)) 0 0 78 [some (.ref (A 46)), some (.int (nI n)), some (.int (nI w)), some (.int (nI q)), some (.int (nI w))] []) : ∀ k u : Nat, u + k = w → GJ p l e R s m args below meth c 5 D Ax Q 75 A (gg A K (rnC I q u) (U) (P)) 0 0 53 [some (.ref (A 46)), some (.int (nI n)), some (.int (nI w)), some (.int (nI q)), some (.int (nI u))] [] := by
  intro k
  induction k with
  | zero =>
    intro u hu
    obtain rfl : u = w := by omega
    refine jx_iload C dX1_renew_53 rfl ?_
    refine jx_iload_n C dX1_renew_55 rfl ?_
    refine jx_ic_geT (tgt := 78) C dX1_renew_56 (by decide) (nI_le (Nat.le_refl _) (by omega)) ?_
    exact hk
  | succ k ih =>
    intro u hu
    have hI : up2 (rnC I q u) 47 (24 * q + u) 0 = rnC I q (u + 1) := by
      funext a b
      simp only [up2, rnC]
      split <;> split <;> first | rfl | omega | (split <;> first | rfl | omega)
    refine jx_iload C dX1_renew_53 rfl ?_
    refine jx_iload_n C dX1_renew_55 rfl ?_
    refine jx_ic_geF (tgt := 78) C dX1_renew_56 (nI_ge (by omega) (by omega)) (by decide) ?_
    refine jx_aload_n C dX1_renew_59 rfl ?_
    refine jx_get C fl_1_9_1 dX1_renew_60 (by decide) gg_46 rfl ?_
    refine jx_iload_n C dX1_renew_63 rfl ?_
    refine jx_bipush (v := 24) C dX1_renew_64 (by decide) ?_
    refine jx_imul C dX1_renew_66 ?_
    refine jx_iload C dX1_renew_67 rfl ?_
    refine jx_iadd C dX1_renew_69 ?_
    refine jx_iconst (v := 0) C dX1_renew_70 (by decide) ?_
    refine jx_iastI (24 * q + u) C dX1_renew_71 (by decide) (fun _ => gg_47) ix24 (by omega) (by decide) ?_
    rw [hI]
    refine jx_iinc (lv1 := [_, _, _, _, _]) C dX1_renew_72 rfl (nI_1 u) rfl ?_
    refine jx_goto (tgt := 53) C dX1_renew_75 (by decide) ?_
    exact ih (u + 1) (by omega)
set_option maxRecDepth 100000 in
set_option maxHeartbeats 4000000 in
theorem lp_1_renew {p : Program} {l : Launch} {e : Env} {R : Room} {s : State} {m : MethodId} {args : Array Value} {below : List Frame} {meth : Method} {c : Code} {D : va_G} {K : Nat → ClassId} {A : Nat → Nat} {Ax : Nat → Prop} {Q : State → Prop} {U : TU} {P : TP} {I : TI} {n w : Nat} (C : CX p s m args meth c RX1 cX1_renew 5 none D K Ax) (hn : n ≤ 24) (hw : w ≤ 24) (hk : ∀ z : Option Value, GJ p l e R s m args below meth c 5 D Ax Q 75 A (gg A K (rnw I n w) (U) (P)) 0 0 84 [some (.ref (A 46)), some (.int (nI n)), some (.int (nI w)), some (.int (nI n)), z] []) : ∀ k q : Nat, q + k = n → ∀ z : Option Value, GJ p l e R s m args below meth c 5 D Ax Q 75 A (gg A K (rnR I n w q) (U) (P)) 0 0 38 [some (.ref (A 46)), some (.int (nI n)), some (.int (nI w)), some (.int (nI q)), z] [] := by
  intro k
  induction k with
  | zero =>
    intro q hq z
    obtain rfl : q = n := by omega
    refine jx_iload_n C dX1_renew_38 rfl ?_
    refine jx_iload_n C dX1_renew_39 rfl ?_
    refine jx_ic_geT (tgt := 84) C dX1_renew_40 (by decide) (nI_le (Nat.le_refl _) (by omega)) ?_
    exact hk z
  | succ k ih =>
    intro q hq z
    have hI : rnC (up2 (rnR I n w q) 48 q (nI q)) q w = rnR I n w (q + 1) := by
      funext a b
      by_cases h46 : a = 46
      · subst h46; simp [rnC, up2, rnR]
      by_cases h48 : a = 48
      · subst h48; simp only [rnC, up2, rnR]
        by_cases hb : b = q
        · subst hb; simp
        · by_cases hb2 : b < q
          · simp [hb, hb2, show b < q + 1 by omega]
          · simp [hb, hb2, show ¬ b < q + 1 by omega]
      by_cases h47 : a = 47
      · subst h47; simp only [rnC, up2, rnR]
        by_cases hb : 24 * q ≤ b ∧ b < 24 * q + w
        · have h1 : b / 24 < q + 1 ∧ b % 24 < w := by omega
          simp [hb, h1]
        · have h1 : (b / 24 < q + 1 ∧ b % 24 < w) ↔ (b / 24 < q ∧ b % 24 < w) := by omega
          simp [hb, h1]
      simp [rnC, up2, rnR, h46, h47, h48]
    have hI0 : rnC (up2 (rnR I n w q) 48 q (nI q)) q 0 = up2 (rnR I n w q) 48 q (nI q) := by
      funext a b
      simp only [rnC]
      rw [if_neg (by omega)]
    refine jx_iload_n C dX1_renew_38 rfl ?_
    refine jx_iload_n C dX1_renew_39 rfl ?_
    refine jx_ic_geF (tgt := 84) C dX1_renew_40 (nI_ge (by omega) (by omega)) (by decide) ?_
    refine jx_aload_n C dX1_renew_43 rfl ?_
    refine jx_get C fl_1_15_1 dX1_renew_44 (by decide) gg_46 rfl ?_
    refine jx_iload_n C dX1_renew_47 rfl ?_
    refine jx_iload_n C dX1_renew_48 rfl ?_
    refine jx_iastI (q) C dX1_renew_49 (by decide) (fun _ => gg_48) rfl (by omega) (by decide) ?_
    refine jx_iconst (v := 0) C dX1_renew_50 (by decide) ?_
    refine jx_istore (lv1 := [_, _, _, _, _]) C dX1_renew_51 (by decide) rfl ?_
    rw [← hI0]
    refine lp_1_renew_in C hw (by omega) ?_ w 0 (by omega)
    rw [hI]
    refine jx_iinc (lv1 := [_, _, _, _, _]) C dX1_renew_78 rfl (nI_1 q) rfl ?_
    refine jx_goto (tgt := 38) C dX1_renew_81 (by decide) ?_
    exact ih (q + 1) (by omega) _
set_option maxRecDepth 100000 in
set_option maxHeartbeats 4000000 in
theorem c_1_renew {l : Launch} {D : va_G} {K : Nat → ClassId} {A : Nat → Nat} {I : TI} {U : TU} {P : TP} {n w : Nat} (hn : n ≤ 24) (hw : w ≤ 24) : MM l yX1_renew cX1_renew 5 none 0 D K A (I) (U) (P) [.ref (A 46), .int (nI n), .int (nI w)] (XE none (rnw I n w) U P) := by
  have hI : up2 (up2 (up2 I 46 2 1) 46 3 (nI n)) 46 4 (nI w) = rnR I n w 0 := by
    funext a b
    by_cases h46 : a = 46
    · subst h46
      by_cases h2 : b = 2
      · subst h2; simp [up2, rnR]
      · by_cases h3 : b = 3
        · subst h3; simp [up2, rnR]
        · by_cases h4 : b = 4
          · subst h4; simp [up2, rnR]
          · simp [up2, rnR, h2, h3, h4]
    · simp [up2, rnR, h46]
  refine MM.go (own := RX1) (lv0 := [some (.ref (A 46)), some (.int (nI n)), some (.int (nI w)), none, none]) rfl (by decide) rfl (Nat.le_of_ble_eq_true rfl) rfl ?_
  intro p e s m args below meth c C
  refine jx_iload_n C dX1_renew_0 rfl ?_
  refine jx_if_ltF (tgt := 20) C dX1_renew_1 (nI_pos (by omega)) (by decide) ?_
  refine jx_iload_n C dX1_renew_4 rfl ?_
  refine jx_bipush (v := 24) C dX1_renew_5 (by decide) ?_
  refine jx_ic_gtF (tgt := 20) C dX1_renew_7 (nI_nlt (a := 24) (b := n) (by omega) (by decide)) (by decide) ?_
  refine jx_iload_n C dX1_renew_10 rfl ?_
  refine jx_if_ltF (tgt := 20) C dX1_renew_11 (nI_pos (by omega)) (by decide) ?_
  refine jx_iload_n C dX1_renew_14 rfl ?_
  refine jx_bipush (v := 24) C dX1_renew_15 (by decide) ?_
  refine jx_ic_leT (tgt := 21) C dX1_renew_17 (by decide) (nI_le (b := 24) hw (by decide)) ?_
  refine jx_aload_n C dX1_renew_21 rfl ?_
  refine jx_iconst (v := 1) C dX1_renew_22 (by decide) ?_
  refine jx_putZ C fp_1_18_1 dX1_renew_23 rfl rfl (by decide) gg_46 (Nat.le_of_ble_eq_true rfl) rfl ?_
  refine jx_aload_n C dX1_renew_26 rfl ?_
  refine jx_iload_n C dX1_renew_27 rfl ?_
  refine jx_putI C fp_1_22_1 dX1_renew_28 (by decide) gg_46 (Nat.le_of_ble_eq_true rfl) rfl ?_
  refine jx_aload_n C dX1_renew_31 rfl ?_
  refine jx_iload_n C dX1_renew_32 rfl ?_
  refine jx_putI C fp_1_26_1 dX1_renew_33 (by decide) gg_46 (Nat.le_of_ble_eq_true rfl) rfl ?_
  refine jx_iconst (v := 0) C dX1_renew_36 (by decide) ?_
  refine jx_istore_n (lv1 := [_, _, _, _, _]) C dX1_renew_37 (by decide) rfl ?_
  rw [hI]
  refine lp_1_renew C hn hw (fun z => ?_) n 0 (by omega) none
  exact jx_vret C dX1_renew_84 ⟨rfl, rfl, rfl, rfl⟩
end
section
/-! single precision: what is held (of magnitude at most 4096), and that nothing here is a NaN -/
def hd32 (x : UInt32) : Prop := x.toNat % 2 ^ 31 ≤ 1166016512
theorem vf_of {r : UInt32} (h : FP.Core.fIsNaN r = false) : vf_n32 r := by
  have h1 : ¬ 2139095040 < r.toNat % 2 ^ 31 := fun q => by
    have := (FP.Core.isNaN_bits32 r).mpr q
    rw [h] at this
    cases this
  unfold vf_n32
  rw [UInt32.le_iff_toNat_le, UInt32.toNat_and]
  have e : (2147483647 : UInt32).toNat = 2 ^ 31 - 1 := rfl
  have e2 : (2139095040 : UInt32).toNat = 2139095040 := rfl
  show r.toNat &&& (2147483647 : UInt32).toNat ≤ (2139095040 : UInt32).toNat
  rw [e, e2, Nat.and_two_pow_sub_one_eq_mod]
  omega
theorem hd_fin {x : UInt32} (h : hd32 x) : FP.Core.FFin x := by
  rw [FP.Core.fin_bits32]
  unfold hd32 at h
  omega
theorem fin_8 : FP.Core.FFin 1090519040 := by
  rw [FP.Core.fin_bits32]
  decide
theorem nz_8 : ¬ FP.Core.FZero 1090519040 := by
  rw [FP.Core.zero_bits232]
  decide
theorem fin_1 : FP.Core.FFin FP.fconst1 := by
  rw [FP.Core.fin_bits32]
  decide
theorem nn_tell {x : UInt32} (h : hd32 x) : vf_n32 (FP.fmul x 1090519040) := vf_of (FP.Core.fmul_out (hd_fin h) fin_8)
/-- v eighths -/
def f8 (v : Int32) : UInt32 := FP.fdiv (FP.i2f v) 1090519040
theorem nn_8 (v : Int32) : vf_n32 (FP.fdiv (FP.i2f v) 1090519040) := vf_of (FP.Core.fdiv_out (FP.Core.i2f_fin v).notNaN fin_8 nz_8)
theorem f8_nan (v : Int32) : FP.Core.fIsNaN (f8 v) = false := FP.Core.fdiv_out (FP.Core.i2f_fin v).notNaN fin_8 nz_8
theorem nn_add {x y : UInt32} (h : hd32 x) (hy : FP.Core.fIsNaN y = false) : vf_n32 (FP.fadd x y) := vf_of (FP.Core.fadd_out' (hd_fin h) hy)
theorem nn_div {x : UInt32} {v : Int32} (h : hd32 x) (hv : ¬ v = 0) : vf_n32 (FP.fdiv x (FP.i2f v)) := vf_of (FP.Core.fdiv_out (hd_fin h).notNaN (FP.Core.i2f_fin v) (fun q => FP.Core.i2f_ne_zero hv ((FP.Core.zero_bits232 _).mp q)))
/-- held to -4096 .. 4096 -/
def fHo (x : UInt32) : UInt32 := if FP.fcmp x 3313500160 = some .lt then 3313500160 else if FP.fcmp x 1166016512 = some .gt then 1166016512 else x
theorem cmp_k {x y : UInt32} (hx : FP.Core.fIsNaN x = false) (hy : FP.Core.fIsNaN y = false) : FP.fcmp x y = some (compare (FP.Core.key FP.Core.b32 x.toNat) (FP.Core.key FP.Core.b32 y.toNat)) :=
  FP.Core.cmp_key FP.Core.good_b32 (FP.Core.lt_full32 x) (FP.Core.lt_full32 y) ((FP.Core.notNaN_iff32 x).mp hx) ((FP.Core.notNaN_iff32 y).mp hy)
theorem key_m : FP.Core.key FP.Core.b32 (3313500160 : UInt32).toNat = -1166016512 := by decide +kernel
theorem key_p : FP.Core.key FP.Core.b32 (1166016512 : UInt32).toNat = 1166016512 := by decide +kernel
theorem nan_m : FP.Core.fIsNaN 3313500160 = false := by decide +kernel
theorem nan_p : FP.Core.fIsNaN 1166016512 = false := by decide +kernel
theorem key_mag (x : UInt32) : FP.Core.key FP.Core.b32 x.toNat = (x.toNat % 2 ^ 31 : Nat) ∨ FP.Core.key FP.Core.b32 x.toNat = -((x.toNat % 2 ^ 31 : Nat) : Int) := by
  unfold FP.Core.key FP.Core.signed
  rw [FP.Core.mag_toNat32]
  split
  · exact Or.inr rfl
  · exact Or.inl rfl
theorem cmp_lt {x y : Int} : compare x y = .lt ↔ x < y := by
  rw [Int.compare_eq_lt]
theorem cmp_gt {x y : Int} : compare x y = .gt ↔ y < x := by
  rw [Int.compare_eq_gt]
theorem hd_ho {x : UInt32} (h : FP.Core.fIsNaN x = false) : hd32 (fHo x) := by
  unfold fHo
  rw [cmp_k h nan_m, cmp_k h nan_p, key_m, key_p]
  split
  · unfold hd32; decide
  · split
    · unfold hd32; decide
    · next h1 h2 =>
      rw [Option.some.injEq, cmp_lt] at h1
      rw [Option.some.injEq, cmp_gt] at h2
      unfold hd32
      rcases key_mag x with h3 | h3 <;> omega
theorem ho_id {x : UInt32} (h : hd32 x) : fHo x = x := by
  unfold fHo
  rw [cmp_k (hd_fin h).notNaN nan_m, cmp_k (hd_fin h).notNaN nan_p, key_m, key_p]
  unfold hd32 at h
  rw [if_neg, if_neg]
  · rw [Option.some.injEq, cmp_gt]
    rcases key_mag x with h3 | h3 <;> omega
  · rw [Option.some.injEq, cmp_lt]
    rcases key_mag x with h3 | h3 <;> omega
/-- a quotient by a whole number other than 0 is held where the dividend is -/
theorem hd_div {x : UInt32} {v : Int32} (h : hd32 x) (hv : ¬ v = 0) : hd32 (FP.fdiv x (FP.i2f v)) := by
  have hb : 127 * 2 ^ 23 ≤ (FP.i2f v).toNat % 2 ^ 31 ∧ (FP.i2f v).toNat % 2 ^ 31 < 255 * 2 ^ 23 := FP.Core.i2f_big (FP.Core.int32_ne hv)
  generalize FP.i2f v = y at hb ⊢
  have hf := FP.Core.good_b32
  have h1 : (FP.Core.fdiv x y).toNat = FP.Core.div FP.Core.b32 x.toNat y.toNat := FP.Core.toNat_of32 (FP.Core.quotient_fits hf _ _)
  unfold hd32 at h ⊢
  show (FP.Core.fdiv x y).toNat % 2 ^ 31 ≤ _
  rw [h1, ← FP.Core.half_b32]
  show FP.Core.mag FP.Core.b32 _ ≤ _
  have hx : FP.Core.mag FP.Core.b32 x.toNat ≤ 1166016512 := by rw [FP.Core.mag_toNat32]; exact h
  have hy : 127 * 2 ^ 23 ≤ FP.Core.mag FP.Core.b32 y.toNat := by rw [FP.Core.mag_toNat32]; exact hb.1
  have hy2 : FP.Core.mag FP.Core.b32 y.toNat < FP.Core.infBits FP.Core.b32 := by rw [FP.Core.mag_toNat32, FP.Core.infBits_b32]; have := hb.2; omega
  obtain ⟨s, c, q, x1, x2, x3⟩ := FP.Core.fin_of_mag hf (show FP.Core.mag FP.Core.b32 x.toNat < FP.Core.infBits FP.Core.b32 by rw [FP.Core.infBits_b32]; omega)
  obtain ⟨t, d, r, y1, y2, y3⟩ := FP.Core.fin_of_mag hf hy2
  have hq := FP.Core.qmin_neg hf
  have l2 : FP.Core.b32.tails * 2 ^ (127 - 1) ≤ FP.Core.zmag FP.Core.b32 (.fin t d r) := by
    rw [y3, ← FP.Core.unitsOf_start (by decide : 1 ≤ 127)]
    exact FP.Core.unitsOf_le_iff.mpr (by rw [FP.Core.tails_b32]; exact hy)
  have hd0 : d ≠ 0 := by
    rintro rfl
    have h1 : FP.Core.zmag FP.Core.b32 (.fin t 0 r) = 0 := Nat.zero_mul _
    have := Nat.mul_pos (FP.Core.tails_pos FP.Core.b32) (Nat.two_pow_pos (127 - 1))
    omega
  have hd : FP.Core.decode FP.Core.b32 (FP.Core.div FP.Core.b32 x.toNat y.toNat) = FP.Core.roundRatio FP.Core.b32 (s != t) c d (q - r) := by
    unfold FP.Core.div
    rw [FP.Core.decode_enc hf (FP.Core.quotient_fits hf _ _), x1, y1]
    simp only [FP.Core.quotient, if_neg hd0]
  have hx1 := x2.2.1
  have hy1 := y2.2.1
  refine FP.Core.mag_le hf hd (by omega) (e0 := 2 * FP.Core.b32.qmin - r) (by omega) (by omega) ?_
  have e1 : FP.Core.inUnits c (q - r) (2 * FP.Core.b32.qmin - r) = FP.Core.zmag FP.Core.b32 (.fin s c q) * 2 ^ (-FP.Core.b32.qmin).toNat := by
    show c * _ = c * _ * _
    rw [Nat.mul_assoc, ← Nat.pow_add]; congr 2; omega
  have e2 : 2 ^ (FP.Core.b32.qmin - (2 * FP.Core.b32.qmin - r)).toNat * d = FP.Core.zmag FP.Core.b32 (.fin t d r) := by
    show _ = d * _
    rw [Nat.mul_comm]; congr 2; omega
  rw [e1, Nat.mul_assoc, e2, x3]
  refine Nat.mul_le_mul (FP.Core.unitsOf_le_iff.mpr hx) (Nat.le_trans ?_ l2)
  rw [FP.Core.qmin_b32, FP.Core.tails_b32, ← Nat.pow_add]
  exact Nat.pow_le_pow_right (by decide) (by decide)
theorem hd_0 : hd32 FP.fconst0 := by unfold hd32; decide
theorem f8_8 : f8 8 = FP.fconst1 := by decide +kernel
end
section
/-! the lanes -/
/-- a number that comes to an end of a sort of whole numbers, or of LIFT -/
def cutTo (so : Nat) (v : Int32) : Int32 := if so = 0 then v &&& 65535 else if so = 1 then v <<< ((16 : Int32) &&& 31) >>> ((16 : Int32) &&& 31) else if so = 4 then v <<< ((24 : Int32) &&& 31) >>> ((24 : Int32) &&& 31) else v &&& 1
def vPull (so : Nat) (x v : Int32) : Int32 := if so = 3 then x ^^^ (v &&& 1) else cutTo so (x + v)
def vPart (so : Nat) (x v : Int32) : Int32 := if so = 3 then x &&& v &&& 1 else cutTo so (if v = -1 then -x else x / v)
theorem cut_c (v : Int32) : (v.toUInt32 % 65536).toInt32 = v &&& 65535 := by
  rw [pk_char, pk_and v 16 (by decide)]
theorem shl_toInt (v : Int32) (s : Int32) (k : Nat) (hs : (s.toBitVec.smod 32).toNat = k) : (v <<< s).toInt = (v.toInt * 2 ^ k).bmod (2 ^ 32) := by
  have h1 := pk_shl v s k hs
  have h2 : (v <<< s).toInt = ((v <<< s).toBitVec.toNat : Int).bmod (2 ^ 32) := by
    show (v <<< s).toBitVec.toInt = _
    rw [BitVec.toInt_eq_toNat_bmod]
  have h3 : v.toInt = (v.toBitVec.toNat : Int).bmod (2 ^ 32) := by
    show v.toBitVec.toInt = _
    rw [BitVec.toInt_eq_toNat_bmod]
  have e : ((v.toBitVec.toNat * 2 ^ k % 2 ^ 32 : Nat) : Int) = ((v.toBitVec.toNat : Int) * 2 ^ k) % ((2 ^ 32 : Nat) : Int) := by
    rw [Int.natCast_emod, Int.natCast_mul, Int.natCast_pow]
    rfl
  rw [h2, h1, h3, e, Int.emod_bmod, Int.bmod_mul_bmod]
theorem cut_s (v : Int32) : v.toInt16.toInt32 = v <<< ((16 : Int32) &&& 31) >>> ((16 : Int32) &&& 31) := by
  apply Int32.toInt_inj.mp
  rw [pk_shr _ _ 16 (by decide), shl_toInt v _ 16 (by decide)]
  have h : v.toInt16.toInt32.toInt = v.toInt.bmod (2 ^ 16) := by
    rw [Int16.toInt_toInt32, Int32.toInt_toInt16]
  rw [h, Int.shiftRight_eq_div_pow]
  have h1 := v.toInt_lt
  have h2 := v.le_toInt
  simp only [Int.bmod_def]
  omega
theorem cut_b (v : Int32) : v.toInt8.toInt32 = v <<< ((24 : Int32) &&& 31) >>> ((24 : Int32) &&& 31) := by
  apply Int32.toInt_inj.mp
  rw [pk_shr _ _ 24 (by decide), shl_toInt v _ 24 (by decide)]
  have h : v.toInt8.toInt32.toInt = v.toInt.bmod (2 ^ 8) := by
    rw [Int8.toInt_toInt32, Int32.toInt_toInt8]
  rw [h, Int.shiftRight_eq_div_pow]
  have h1 := v.toInt_lt
  have h2 := v.le_toInt
  simp only [Int.bmod_def]
  omega
theorem bit1 (v : Int32) : v &&& 1 = 0 ∨ v &&& 1 = 1 := by
  obtain ⟨j, hj, e⟩ := pk_andE v (m := 1) 1 (by decide)
  rcases (show j = 0 ∨ j = 1 by omega) with rfl | rfl
  · exact Or.inl e
  · exact Or.inr e
theorem bit1_b (v : Int32) : bI (¬ v &&& 1 = 0) = v &&& 1 := by
  rcases bit1 v with h | h
  · rw [bI_f (fun q => q h), h]
  · rw [bI_t (by rw [h]; decide), h]
theorem div_m1 (x : Int32) : x / (-1) = -x := by
  apply Int32.toInt_inj.mp
  have h := Int32.toInt_div x (-1)
  rw [show (-1 : Int32).toInt = -1 from rfl, Int.tdiv_neg, Int.tdiv_one] at h
  rw [h, Int32.toInt_neg]
theorem part_div (x v : Int32) : (if v = -1 then -x else x / v) = x / v := by
  split
  · next h => rw [h, div_m1]
  · rfl
theorem cv_g {r : Option Ordering} : 0 ≤ Op.cmpValue r .g ↔ ¬ r = some .lt := by
  rcases r with _ | (_ | _ | _) <;> simp [Op.cmpValue]
theorem cv_l {r : Option Ordering} : Op.cmpValue r .l ≤ 0 ↔ ¬ r = some .gt := by
  rcases r with _ | (_ | _ | _) <;> simp [Op.cmpValue]
def laI (k i : Nat) (x : Int32) (I : TI) : TI := if k % 5 = 2 then I else up2 I (5 + 2 * k) i x
def laU (k i : Nat) (x : UInt32) (U : TU) : TU := if k % 5 = 2 then up2 U (5 + 2 * k) i x else U
/-- what an end tells -/
def tl (I : TI) (U : TU) (k i : Nat) : Int32 := if k % 5 = 2 then FP.f2i (FP.fmul (U (5 + 2 * k) i) 1090519040) else I (5 + 2 * k) i
def swI (k i j : Nat) (I : TI) : TI := if k % 5 = 2 then I else up2 (up2 I (5 + 2 * k) i (I (5 + 2 * k) j)) (5 + 2 * k) j (I (5 + 2 * k) i)
def swU (k i j : Nat) (U : TU) : TU := if k % 5 = 2 then up2 (up2 U (5 + 2 * k) i (U (5 + 2 * k) j)) (5 + 2 * k) j (U (5 + 2 * k) i) else U
/-- ends of a lane hold what their sort can: LIFT 0 or 1, TENSION what is held -/
def okE (I : TI) (U : TU) (k i : Nat) : Prop := (k % 5 = 3 → I (5 + 2 * k) i = 0 ∨ I (5 + 2 * k) i = 1) ∧ (k % 5 = 2 → hd32 (U (5 + 2 * k) i))
set_option maxRecDepth 100000 in
set_option maxHeartbeats 4000000 in
theorem c_3_countW {l : Launch} {D : va_G} {K : Nat → ClassId} {A : Nat → Nat} {I : TI} {U : TU} {P : TP} {k : Nat} (hk : k < 20) (h2 : ¬ k % 5 = 2) (h3 : ¬ k % 5 = 3) : MM l yX3_count cX3_count 1 (some .int) 0 D K A (I) (U) (P) [.ref (A (4 + 2 * k))] (XE (some (.int (I (4 + 2 * k) 0))) I U P) := by
  refine MM.go (own := RX3) (lv0 := [some (.ref (A (4 + 2 * k)))]) rfl (by decide) rfl (Nat.le_of_ble_eq_true rfl) rfl ?_
  intro p e s m args below meth c C
  refine jx_aload_n C dX3_count_0 rfl ?_
  refine jx_get C fl_3_9_8 dX3_count_1 (by omega) (gg_laneW hk h2 h3) rfl ?_
  exact jx_iret C dX3_count_4 ⟨rfl, rfl, rfl, rfl⟩
set_option maxRecDepth 100000 in
set_option maxHeartbeats 4000000 in
theorem c_3_hasW {l : Launch} {D : va_G} {K : Nat → ClassId} {A : Nat → Nat} {I : TI} {U : TU} {P : TP} {k : Nat} {x : Int32} (hk : k < 20) (h2 : ¬ k % 5 = 2) (h3 : ¬ k % 5 = 3) : MM l yX3_has cX3_has 2 (some .boolean) 0 D K A (I) (U) (P) [.ref (A (4 + 2 * k)), .int x] (XE (some (.int (bI (inR (I (4 + 2 * k) 0) x)))) I U P) := by
  refine MM.go (own := RX3) (lv0 := [some (.ref (A (4 + 2 * k))), some (.int x)]) rfl (by decide) rfl (Nat.le_of_ble_eq_true rfl) rfl ?_
  intro p e s m args below meth c C
  refine jx_iload_n C dX3_has_0 rfl ?_
  refine jx_if_lt (tgt := 16) C dX3_has_1 (by decide) (fun c1 => ?_) (fun c1 => ?_)
  · refine jx_iconst (v := 0) C dX3_has_16 (by decide) ?_
    exact jx_zret C dX3_has_17 rfl ⟨by simp [bI, inR, c1], rfl, rfl, rfl⟩
  · refine jx_iload_n C dX3_has_4 rfl ?_
    refine jx_aload_n C dX3_has_5 rfl ?_
    refine jx_get C fl_3_9_8 dX3_has_6 (by omega) (gg_laneW hk h2 h3) rfl ?_
    refine jx_ic_ge (tgt := 16) C dX3_has_9 (by decide) (fun c9 => ?_) (fun c9 => ?_)
    · refine jx_iconst (v := 0) C dX3_has_16 (by decide) ?_
      exact jx_zret C dX3_has_17 rfl ⟨by simp [bI, inR, c1, c9], rfl, rfl, rfl⟩
    · refine jx_iconst (v := 1) C dX3_has_12 (by decide) ?_
      refine jx_goto (tgt := 17) C dX3_has_13 (by decide) ?_
      exact jx_zret C dX3_has_17 rfl ⟨by simp [bI, inR, c1, c9], rfl, rfl, rfl⟩
set_option maxRecDepth 100000 in
set_option maxHeartbeats 4000000 in
theorem c_3_countT {l : Launch} {D : va_G} {K : Nat → ClassId} {A : Nat → Nat} {I : TI} {U : TU} {P : TP} {k : Nat} (hk : k < 20) (h2 : k % 5 = 2) : MM l yX3_count cX3_count 1 (some .int) 0 D K A (I) (U) (P) [.ref (A (4 + 2 * k))] (XE (some (.int (I (4 + 2 * k) 0))) I U P) := by
  refine MM.go (own := RX3) (lv0 := [some (.ref (A (4 + 2 * k)))]) rfl (by decide) rfl (Nat.le_of_ble_eq_true rfl) rfl ?_
  intro p e s m args below meth c C
  refine jx_aload_n C dX3_count_0 rfl ?_
  refine jx_get C fl_3_9_6 dX3_count_1 (by omega) (gg_laneT hk h2) rfl ?_
  exact jx_iret C dX3_count_4 ⟨rfl, rfl, rfl, rfl⟩
set_option maxRecDepth 100000 in
set_option maxHeartbeats 4000000 in
theorem c_3_hasT {l : Launch} {D : va_G} {K : Nat → ClassId} {A : Nat → Nat} {I : TI} {U : TU} {P : TP} {k : Nat} {x : Int32} (hk : k < 20) (h2 : k % 5 = 2) : MM l yX3_has cX3_has 2 (some .boolean) 0 D K A (I) (U) (P) [.ref (A (4 + 2 * k)), .int x] (XE (some (.int (bI (inR (I (4 + 2 * k) 0) x)))) I U P) := by
  refine MM.go (own := RX3) (lv0 := [some (.ref (A (4 + 2 * k))), some (.int x)]) rfl (by decide) rfl (Nat.le_of_ble_eq_true rfl) rfl ?_
  intro p e s m args below meth c C
  refine jx_iload_n C dX3_has_0 rfl ?_
  refine jx_if_lt (tgt := 16) C dX3_has_1 (by decide) (fun c1 => ?_) (fun c1 => ?_)
  · refine jx_iconst (v := 0) C dX3_has_16 (by decide) ?_
    exact jx_zret C dX3_has_17 rfl ⟨by simp [bI, inR, c1], rfl, rfl, rfl⟩
  · refine jx_iload_n C dX3_has_4 rfl ?_
    refine jx_aload_n C dX3_has_5 rfl ?_
    refine jx_get C fl_3_9_6 dX3_has_6 (by omega) (gg_laneT hk h2) rfl ?_
    refine jx_ic_ge (tgt := 16) C dX3_has_9 (by decide) (fun c9 => ?_) (fun c9 => ?_)
    · refine jx_iconst (v := 0) C dX3_has_16 (by decide) ?_
      exact jx_zret C dX3_has_17 rfl ⟨by simp [bI, inR, c1, c9], rfl, rfl, rfl⟩
    · refine jx_iconst (v := 1) C dX3_has_12 (by decide) ?_
      refine jx_goto (tgt := 17) C dX3_has_13 (by decide) ?_
      exact jx_zret C dX3_has_17 rfl ⟨by simp [bI, inR, c1, c9], rfl, rfl, rfl⟩
set_option maxRecDepth 100000 in
set_option maxHeartbeats 4000000 in
theorem c_3_countL {l : Launch} {D : va_G} {K : Nat → ClassId} {A : Nat → Nat} {I : TI} {U : TU} {P : TP} {k : Nat} (hk : k < 20) (h3 : k % 5 = 3) : MM l yX3_count cX3_count 1 (some .int) 0 D K A (I) (U) (P) [.ref (A (4 + 2 * k))] (XE (some (.int (I (4 + 2 * k) 0))) I U P) := by
  refine MM.go (own := RX3) (lv0 := [some (.ref (A (4 + 2 * k)))]) rfl (by decide) rfl (Nat.le_of_ble_eq_true rfl) rfl ?_
  intro p e s m args below meth c C
  refine jx_aload_n C dX3_count_0 rfl ?_
  refine jx_get C fl_3_9_4 dX3_count_1 (by omega) (gg_laneL hk h3) rfl ?_
  exact jx_iret C dX3_count_4 ⟨rfl, rfl, rfl, rfl⟩
set_option maxRecDepth 100000 in
set_option maxHeartbeats 4000000 in
theorem c_3_hasL {l : Launch} {D : va_G} {K : Nat → ClassId} {A : Nat → Nat} {I : TI} {U : TU} {P : TP} {k : Nat} {x : Int32} (hk : k < 20) (h3 : k % 5 = 3) : MM l yX3_has cX3_has 2 (some .boolean) 0 D K A (I) (U) (P) [.ref (A (4 + 2 * k)), .int x] (XE (some (.int (bI (inR (I (4 + 2 * k) 0) x)))) I U P) := by
  refine MM.go (own := RX3) (lv0 := [some (.ref (A (4 + 2 * k))), some (.int x)]) rfl (by decide) rfl (Nat.le_of_ble_eq_true rfl) rfl ?_
  intro p e s m args below meth c C
  refine jx_iload_n C dX3_has_0 rfl ?_
  refine jx_if_lt (tgt := 16) C dX3_has_1 (by decide) (fun c1 => ?_) (fun c1 => ?_)
  · refine jx_iconst (v := 0) C dX3_has_16 (by decide) ?_
    exact jx_zret C dX3_has_17 rfl ⟨by simp [bI, inR, c1], rfl, rfl, rfl⟩
  · refine jx_iload_n C dX3_has_4 rfl ?_
    refine jx_aload_n C dX3_has_5 rfl ?_
    refine jx_get C fl_3_9_4 dX3_has_6 (by omega) (gg_laneL hk h3) rfl ?_
    refine jx_ic_ge (tgt := 16) C dX3_has_9 (by decide) (fun c9 => ?_) (fun c9 => ?_)
    · refine jx_iconst (v := 0) C dX3_has_16 (by decide) ?_
      exact jx_zret C dX3_has_17 rfl ⟨by simp [bI, inR, c1, c9], rfl, rfl, rfl⟩
    · refine jx_iconst (v := 1) C dX3_has_12 (by decide) ?_
      refine jx_goto (tgt := 17) C dX3_has_13 (by decide) ?_
      exact jx_zret C dX3_has_17 rfl ⟨by simp [bI, inR, c1, c9], rfl, rfl, rfl⟩
set_option maxRecDepth 100000 in
set_option maxHeartbeats 4000000 in
theorem c_9_fit {l : Launch} {D : va_G} {K : Nat → ClassId} {A : Nat → Nat} {I : TI} {U : TU} {P : TP} {k : Nat} {v : Int32} (hk : k < 20) (h2 : ¬ k % 5 = 2) (h3 : ¬ k % 5 = 3) : MM l yX9_fit cX9_fit 2 (some .int) 0 D K A (I) (U) (P) [.ref (A (4 + 2 * k)), .int v] (XE (some (.int (cutTo (k % 5) v))) I U P) := by
  refine MM.go (own := RX9) (lv0 := [some (.ref (A (4 + 2 * k))), some (.int v)]) rfl (by decide) rfl (Nat.le_of_ble_eq_true rfl) rfl ?_
  intro p e s m args below meth c C
  refine jx_aload_n C dX9_fit_0 rfl ?_
  refine jx_get C fl_9_15_8 dX9_fit_1 (by omega) (gg_laneW hk h2 h3) rfl ?_
  rcases (show k % 5 = 0 ∨ k % 5 = 1 ∨ k % 5 = 4 by omega) with h | h | h
  · rw [h]
    refine jx_lookup (tgt := 32) C dX9_fit_4 rfl (off := 28) (by decide +kernel) (by decide) ?_
    refine jx_iload_n C dX9_fit_32 rfl ?_
    refine jx_i2c C dX9_fit_33 ?_
    exact jx_iret C dX9_fit_34 ⟨by rw [cut_c]; rfl, rfl, rfl, rfl⟩
  · rw [h]
    refine jx_lookup (tgt := 35) C dX9_fit_4 rfl (off := 31) (by decide +kernel) (by decide) ?_
    refine jx_iload_n C dX9_fit_35 rfl ?_
    refine jx_i2s C dX9_fit_36 ?_
    exact jx_iret C dX9_fit_37 ⟨by rw [cut_s]; rfl, rfl, rfl, rfl⟩
  · rw [h]
    refine jx_lookup (tgt := 38) C dX9_fit_4 rfl (off := 34) (by decide +kernel) (by decide) ?_
    refine jx_iload_n C dX9_fit_38 rfl ?_
    refine jx_i2b C dX9_fit_39 ?_
    exact jx_iret C dX9_fit_40 ⟨by rw [cut_b]; rfl, rfl, rfl, rfl⟩
set_option maxRecDepth 100000 in
set_option maxHeartbeats 4000000 in
theorem c_9_reset {l : Launch} {D : va_G} {K : Nat → ClassId} {A : Nat → Nat} {I : TI} {U : TU} {P : TP} {k : Nat} {i : Nat} (hi : i < 24) (hk : k < 20) (h2 : ¬ k % 5 = 2) (h3 : ¬ k % 5 = 3) : MM l yX9_reset cX9_reset 2 none 0 D K A (I) (U) (P) [.ref (A (4 + 2 * k)), .int (nI i)] (XE none (up2 I (5 + 2 * k) i 0) U P) := by
  refine MM.go (own := RX9) (lv0 := [some (.ref (A (4 + 2 * k))), some (.int (nI i))]) rfl (by decide) rfl (Nat.le_of_ble_eq_true rfl) rfl ?_
  intro p e s m args below meth c C
  refine jx_aload_n C dX9_reset_0 rfl ?_
  refine jx_get C fl_9_9_8 dX9_reset_1 (by omega) (gg_laneW hk h2 h3) rfl ?_
  refine jx_iload_n C dX9_reset_4 rfl ?_
  refine jx_iconst (v := 0) C dX9_reset_5 (by decide) ?_
  refine jx_iastI (i) C dX9_reset_6 (by omega) (fun _ => (gg_larrW hk h2 h3)) rfl hi (by decide) ?_
  exact jx_vret C dX9_reset_7 ⟨rfl, rfl, rfl, rfl⟩
set_option maxRecDepth 100000 in
set_option maxHeartbeats 4000000 in
theorem c_9_tells {l : Launch} {D : va_G} {K : Nat → ClassId} {A : Nat → Nat} {I : TI} {U : TU} {P : TP} {k : Nat} {i : Nat} (hi : i < 24) (hk : k < 20) (h2 : ¬ k % 5 = 2) (h3 : ¬ k % 5 = 3) : MM l yX9_tells cX9_tells 2 (some .int) 0 D K A (I) (U) (P) [.ref (A (4 + 2 * k)), .int (nI i)] (XE (some (.int (I (5 + 2 * k) i))) I U P) := by
  refine MM.go (own := RX9) (lv0 := [some (.ref (A (4 + 2 * k))), some (.int (nI i))]) rfl (by decide) rfl (Nat.le_of_ble_eq_true rfl) rfl ?_
  intro p e s m args below meth c C
  refine jx_aload_n C dX9_tells_0 rfl ?_
  refine jx_get C fl_9_9_8 dX9_tells_1 (by omega) (gg_laneW hk h2 h3) rfl ?_
  refine jx_iload_n C dX9_tells_4 rfl ?_
  refine jx_iald (i) C dX9_tells_5 (by omega) (gg_larrW hk h2 h3) rfl hi (by decide) ?_
  exact jx_iret C dX9_tells_6 ⟨rfl, rfl, rfl, rfl⟩
set_option maxRecDepth 100000 in
set_option maxHeartbeats 4000000 in
theorem c_9_lay {l : Launch} {D : va_G} {K : Nat → ClassId} {A : Nat → Nat} {I : TI} {U : TU} {P : TP} {k : Nat} {v : Int32} {i : Nat} (hi : i < 24) (hk : k < 20) (h2 : ¬ k % 5 = 2) (h3 : ¬ k % 5 = 3) : MM l yX9_lay cX9_lay 3 none 1 D K A (I) (U) (P) [.ref (A (4 + 2 * k)), .int (nI i), .int v] (XE none (up2 I (5 + 2 * k) i (cutTo (k % 5) v)) U P) := by
  refine MM.go (own := RX9) (lv0 := [some (.ref (A (4 + 2 * k))), some (.int (nI i)), some (.int v)]) rfl (by decide) rfl (Nat.le_of_ble_eq_true rfl) rfl ?_
  intro p e s m args below meth c C
  refine jx_aload_n C dX9_lay_0 rfl ?_
  refine jx_get C fl_9_9_8 dX9_lay_1 (by omega) (gg_laneW hk h2 h3) rfl ?_
  refine jx_iload_n C dX9_lay_4 rfl ?_
  refine jx_aload_n C dX9_lay_5 rfl ?_
  refine jx_iload_n C dX9_lay_6 rfl ?_
  refine jx_one C (jr_V C (c_9_fit hk h2 h3) vw_9_19 (by omega) (gg_laneW hk h2 h3) rfl rfl ⟨Nat.le_of_ble_eq_true rfl, Nat.le_of_ble_eq_true rfl⟩ ⟨Nat.le_of_ble_eq_true rfl, Nat.le_of_ble_eq_true rfl⟩ dX9_lay_7 rfl (Nat.le_of_ble_eq_true rfl)) ?_
  refine jx_iastI (i) C dX9_lay_10 (by omega) (fun _ => (gg_larrW hk h2 h3)) rfl hi (by decide) ?_
  exact jx_vret C dX9_lay_11 ⟨rfl, rfl, rfl, rfl⟩
set_option maxRecDepth 100000 in
set_option maxHeartbeats 4000000 in
theorem c_9_pull {l : Launch} {D : va_G} {K : Nat → ClassId} {A : Nat → Nat} {I : TI} {U : TU} {P : TP} {k : Nat} {v : Int32} {i : Nat} (hi : i < 24) (hk : k < 20) (h2 : ¬ k % 5 = 2) (h3 : ¬ k % 5 = 3) : MM l yX9_pull cX9_pull 3 none 1 D K A (I) (U) (P) [.ref (A (4 + 2 * k)), .int (nI i), .int v] (XE none (up2 I (5 + 2 * k) i (cutTo (k % 5) (I (5 + 2 * k) i + v))) U P) := by
  refine MM.go (own := RX9) (lv0 := [some (.ref (A (4 + 2 * k))), some (.int (nI i)), some (.int v)]) rfl (by decide) rfl (Nat.le_of_ble_eq_true rfl) rfl ?_
  intro p e s m args below meth c C
  refine jx_aload_n C dX9_pull_0 rfl ?_
  refine jx_get C fl_9_9_8 dX9_pull_1 (by omega) (gg_laneW hk h2 h3) rfl ?_
  refine jx_iload_n C dX9_pull_4 rfl ?_
  refine jx_aload_n C dX9_pull_5 rfl ?_
  refine jx_aload_n C dX9_pull_6 rfl ?_
  refine jx_get C fl_9_9_8 dX9_pull_7 (by omega) (gg_laneW hk h2 h3) rfl ?_
  refine jx_iload_n C dX9_pull_10 rfl ?_
  refine jx_iald (i) C dX9_pull_11 (by omega) (gg_larrW hk h2 h3) rfl hi (by decide) ?_
  refine jx_iload_n C dX9_pull_12 rfl ?_
  refine jx_iadd C dX9_pull_13 ?_
  refine jx_one C (jr_V C (c_9_fit hk h2 h3) vw_9_19 (by omega) (gg_laneW hk h2 h3) rfl rfl ⟨Nat.le_of_ble_eq_true rfl, Nat.le_of_ble_eq_true rfl⟩ ⟨Nat.le_of_ble_eq_true rfl, Nat.le_of_ble_eq_true rfl⟩ dX9_pull_14 rfl (Nat.le_of_ble_eq_true rfl)) ?_
  refine jx_iastI (i) C dX9_pull_17 (by omega) (fun _ => (gg_larrW hk h2 h3)) rfl hi (by decide) ?_
  exact jx_vret C dX9_pull_18 ⟨rfl, rfl, rfl, rfl⟩
set_option maxRecDepth 100000 in
set_option maxHeartbeats 4000000 in
theorem c_9_turn {l : Launch} {D : va_G} {K : Nat → ClassId} {A : Nat → Nat} {I : TI} {U : TU} {P : TP} {k : Nat} {i : Nat} (hi : i < 24) (hk : k < 20) (h2 : ¬ k % 5 = 2) (h3 : ¬ k % 5 = 3) : MM l yX9_turn cX9_turn 2 none 1 D K A (I) (U) (P) [.ref (A (4 + 2 * k)), .int (nI i)] (XE none (up2 I (5 + 2 * k) i (cutTo (k % 5) (I (5 + 2 * k) i + 1))) U P) := by
  refine MM.go (own := RX9) (lv0 := [some (.ref (A (4 + 2 * k))), some (.int (nI i))]) rfl (by decide) rfl (Nat.le_of_ble_eq_true rfl) rfl ?_
  intro p e s m args below meth c C
  refine jx_aload_n C dX9_turn_0 rfl ?_
  refine jx_get C fl_9_9_8 dX9_turn_1 (by omega) (gg_laneW hk h2 h3) rfl ?_
  refine jx_iload_n C dX9_turn_4 rfl ?_
  refine jx_aload_n C dX9_turn_5 rfl ?_
  refine jx_aload_n C dX9_turn_6 rfl ?_
  refine jx_get C fl_9_9_8 dX9_turn_7 (by omega) (gg_laneW hk h2 h3) rfl ?_
  refine jx_iload_n C dX9_turn_10 rfl ?_
  refine jx_iald (i) C dX9_turn_11 (by omega) (gg_larrW hk h2 h3) rfl hi (by decide) ?_
  refine jx_iconst (v := 1) C dX9_turn_12 (by decide) ?_
  refine jx_iadd C dX9_turn_13 ?_
  refine jx_one C (jr_V C (c_9_fit hk h2 h3) vw_9_19 (by omega) (gg_laneW hk h2 h3) rfl rfl ⟨Nat.le_of_ble_eq_true rfl, Nat.le_of_ble_eq_true rfl⟩ ⟨Nat.le_of_ble_eq_true rfl, Nat.le_of_ble_eq_true rfl⟩ dX9_turn_14 rfl (Nat.le_of_ble_eq_true rfl)) ?_
  refine jx_iastI (i) C dX9_turn_17 (by omega) (fun _ => (gg_larrW hk h2 h3)) rfl hi (by decide) ?_
  exact jx_vret C dX9_turn_18 ⟨rfl, rfl, rfl, rfl⟩
set_option maxRecDepth 100000 in
set_option maxHeartbeats 4000000 in
theorem c_9_part {l : Launch} {D : va_G} {K : Nat → ClassId} {A : Nat → Nat} {I : TI} {U : TU} {P : TP} {k : Nat} {v : Int32} (hv : ¬ v = 0) {i : Nat} (hi : i < 24) (hk : k < 20) (h2 : ¬ k % 5 = 2) (h3 : ¬ k % 5 = 3) : MM l yX9_part cX9_part 3 (some .boolean) 1 D K A (I) (U) (P) [.ref (A (4 + 2 * k)), .int (nI i), .int v] (XE (some (.int 1)) (up2 I (5 + 2 * k) i (cutTo (k % 5) (I (5 + 2 * k) i / v))) U P) := by
  refine MM.go (own := RX9) (lv0 := [some (.ref (A (4 + 2 * k))), some (.int (nI i)), some (.int v)]) rfl (by decide) rfl (Nat.le_of_ble_eq_true rfl) rfl ?_
  intro p e s m args below meth c C
  refine jx_iload_n C dX9_part_0 rfl ?_
  refine jx_if_neT (tgt := 6) C dX9_part_1 (by decide) hv ?_
  refine jx_aload_n C dX9_part_6 rfl ?_
  refine jx_get C fl_9_9_8 dX9_part_7 (by omega) (gg_laneW hk h2 h3) rfl ?_
  refine jx_iload_n C dX9_part_10 rfl ?_
  refine jx_aload_n C dX9_part_11 rfl ?_
  refine jx_aload_n C dX9_part_12 rfl ?_
  refine jx_get C fl_9_9_8 dX9_part_13 (by omega) (gg_laneW hk h2 h3) rfl ?_
  refine jx_iload_n C dX9_part_16 rfl ?_
  refine jx_iald (i) C dX9_part_17 (by omega) (gg_larrW hk h2 h3) rfl hi (by decide) ?_
  refine jx_iload_n C dX9_part_18 rfl ?_
  refine jx_idiv C dX9_part_19 hv ?_
  refine jx_one C (jr_V C (c_9_fit hk h2 h3) vw_9_19 (by omega) (gg_laneW hk h2 h3) rfl rfl ⟨Nat.le_of_ble_eq_true rfl, Nat.le_of_ble_eq_true rfl⟩ ⟨Nat.le_of_ble_eq_true rfl, Nat.le_of_ble_eq_true rfl⟩ dX9_part_20 rfl (Nat.le_of_ble_eq_true rfl)) ?_
  refine jx_iastI (i) C dX9_part_23 (by omega) (fun _ => (gg_larrW hk h2 h3)) rfl hi (by decide) ?_
  refine jx_iconst (v := 1) C dX9_part_24 (by decide) ?_
  exact jx_zret C dX9_part_25 rfl ⟨rfl, rfl, rfl, rfl⟩
set_option maxRecDepth 100000 in
set_option maxHeartbeats 4000000 in
theorem c_9_part0 {l : Launch} {D : va_G} {K : Nat → ClassId} {A : Nat → Nat} {I : TI} {U : TU} {P : TP} {k : Nat} {x : Int32} (hk : k < 20) (h2 : ¬ k % 5 = 2) (h3 : ¬ k % 5 = 3) : MM l yX9_part cX9_part 3 (some .boolean) 1 D K A (I) (U) (P) [.ref (A (4 + 2 * k)), .int x, .int 0] (XE (some (.int 0)) I U P) := by
  refine MM.go (own := RX9) (lv0 := [some (.ref (A (4 + 2 * k))), some (.int x), some (.int 0)]) rfl (by decide) rfl (Nat.le_of_ble_eq_true rfl) rfl ?_
  intro p e s m args below meth c C
  refine jx_iload_n C dX9_part_0 rfl ?_
  refine jx_if_neF (tgt := 6) C dX9_part_1 rfl (by decide) ?_
  refine jx_iconst (v := 0) C dX9_part_4 (by decide) ?_
  exact jx_zret C dX9_part_5 rfl ⟨rfl, rfl, rfl, rfl⟩
set_option maxRecDepth 100000 in
set_option maxHeartbeats 4000000 in
theorem c_9_exchange {l : Launch} {D : va_G} {K : Nat → ClassId} {A : Nat → Nat} {I : TI} {U : TU} {P : TP} {k : Nat} {i j : Nat} (hi : i < 24) (hj : j < 24) (hk : k < 20) (h2 : ¬ k % 5 = 2) (h3 : ¬ k % 5 = 3) : MM l yX9_exchange cX9_exchange 4 none 0 D K A (I) (U) (P) [.ref (A (4 + 2 * k)), .int (nI i), .int (nI j)] (XE none (up2 (up2 I (5 + 2 * k) i (I (5 + 2 * k) j)) (5 + 2 * k) j (I (5 + 2 * k) i)) U P) := by
  refine MM.go (own := RX9) (lv0 := [some (.ref (A (4 + 2 * k))), some (.int (nI i)), some (.int (nI j)), none]) rfl (by decide) rfl (Nat.le_of_ble_eq_true rfl) rfl ?_
  intro p e s m args below meth c C
  refine jx_aload_n C dX9_exchange_0 rfl ?_
  refine jx_get C fl_9_9_8 dX9_exchange_1 (by omega) (gg_laneW hk h2 h3) rfl ?_
  refine jx_iload_n C dX9_exchange_4 rfl ?_
  refine jx_iald (i) C dX9_exchange_5 (by omega) (gg_larrW hk h2 h3) rfl hi (by decide) ?_
  refine jx_istore_n (lv1 := [_, _, _, _]) C dX9_exchange_6 (by decide) rfl ?_
  refine jx_aload_n C dX9_exchange_7 rfl ?_
  refine jx_get C fl_9_9_8 dX9_exchange_8 (by omega) (gg_laneW hk h2 h3) rfl ?_
  refine jx_iload_n C dX9_exchange_11 rfl ?_
  refine jx_aload_n C dX9_exchange_12 rfl ?_
  refine jx_get C fl_9_9_8 dX9_exchange_13 (by omega) (gg_laneW hk h2 h3) rfl ?_
  refine jx_iload_n C dX9_exchange_16 rfl ?_
  refine jx_iald (j) C dX9_exchange_17 (by omega) (gg_larrW hk h2 h3) rfl hj (by decide) ?_
  refine jx_iastI (i) C dX9_exchange_18 (by omega) (fun _ => (gg_larrW hk h2 h3)) rfl hi (by decide) ?_
  refine jx_aload_n C dX9_exchange_19 rfl ?_
  refine jx_get C fl_9_9_8 dX9_exchange_20 (by omega) (gg_laneW hk h2 h3) rfl ?_
  refine jx_iload_n C dX9_exchange_23 rfl ?_
  refine jx_iload_n C dX9_exchange_24 rfl ?_
  refine jx_iastI (j) C dX9_exchange_25 (by omega) (fun _ => (gg_larrW hk h2 h3)) rfl hj (by decide) ?_
  exact jx_vret C dX9_exchange_26 ⟨rfl, rfl, rfl, rfl⟩
theorem z_nar {v : Int32} (h : v = 0 ∨ v = 1) : vp_nar .boolean v = v := by rcases h with rfl | rfl <;> rfl
theorem z_ret {v : Int32} (h : v = 0 ∨ v = 1) : narrow .boolean (.int v) = .int v := by rcases h with rfl | rfl <;> rfl
theorem bI_01 (c : Prop) [Decidable c] : bI c = 0 ∨ bI c = 1 := by unfold bI; split <;> simp
theorem x_turn {x : Int32} (h : x = 0 ∨ x = 1) : bI (x = 0) = x ^^^ (1 &&& 1) := by rcases h with rfl | rfl <;> decide
set_option maxRecDepth 100000 in
set_option maxHeartbeats 4000000 in
theorem c_5_isOdd {l : Launch} {D : va_G} {K : Nat → ClassId} {A : Nat → Nat} {I : TI} {U : TU} {P : TP} {v : Int32} : MM l yX5_isOdd cX5_isOdd 1 (some .boolean) 0 D K A (I) (U) (P) [.int v] (XE (some (.int (v &&& 1))) I U P) := by
  refine MM.go (own := RX5) (lv0 := [some (.int v)]) rfl (by decide) rfl (Nat.le_of_ble_eq_true rfl) rfl ?_
  intro p e s m args below meth c C
  refine jx_iload_n C dX5_isOdd_0 rfl ?_
  refine jx_iconst (v := 1) C dX5_isOdd_1 (by decide) ?_
  refine jx_iand C dX5_isOdd_2 ?_
  refine jx_if_eq (tgt := 10) C dX5_isOdd_3 (by decide) (fun c3 => ?_) (fun c3 => ?_)
  · refine jx_iconst (v := 0) C dX5_isOdd_10 (by decide) ?_
    exact jx_zret C dX5_isOdd_11 rfl ⟨by rw [← bit1_b]; simp [bI, c3], rfl, rfl, rfl⟩
  · refine jx_iconst (v := 1) C dX5_isOdd_6 (by decide) ?_
    refine jx_goto (tgt := 11) C dX5_isOdd_7 (by decide) ?_
    exact jx_zret C dX5_isOdd_11 rfl ⟨by rw [← bit1_b]; simp [bI, c3], rfl, rfl, rfl⟩
set_option maxRecDepth 100000 in
set_option maxHeartbeats 4000000 in
theorem c_5_reset {l : Launch} {D : va_G} {K : Nat → ClassId} {A : Nat → Nat} {I : TI} {U : TU} {P : TP} {k : Nat} {i : Nat} (hi : i < 24) (hk : k < 20) (h3 : k % 5 = 3) : MM l yX5_reset cX5_reset 2 none 0 D K A (I) (U) (P) [.ref (A (4 + 2 * k)), .int (nI i)] (XE none (up2 I (5 + 2 * k) i 0) U P) := by
  refine MM.go (own := RX5) (lv0 := [some (.ref (A (4 + 2 * k))), some (.int (nI i))]) rfl (by decide) rfl (Nat.le_of_ble_eq_true rfl) rfl ?_
  intro p e s m args below meth c C
  refine jx_aload_n C dX5_reset_0 rfl ?_
  refine jx_get C fl_5_9_4 dX5_reset_1 (by omega) (gg_laneL hk h3) rfl ?_
  refine jx_iload_n C dX5_reset_4 rfl ?_
  refine jx_iconst (v := 0) C dX5_reset_5 (by decide) ?_
  refine jx_zastI (i) C dX5_reset_6 (by omega) (fun _ => (gg_larrL hk h3)) rfl hi (by decide) rfl ?_
  exact jx_vret C dX5_reset_7 ⟨rfl, rfl, rfl, rfl⟩
set_option maxRecDepth 100000 in
set_option maxHeartbeats 4000000 in
theorem c_5_tells {l : Launch} {D : va_G} {K : Nat → ClassId} {A : Nat → Nat} {I : TI} {U : TU} {P : TP} {k : Nat} {i : Nat} (hi : i < 24) (hz : I (5 + 2 * k) i = 0 ∨ I (5 + 2 * k) i = 1) (hk : k < 20) (h3 : k % 5 = 3) : MM l yX5_tells cX5_tells 2 (some .int) 0 D K A (I) (U) (P) [.ref (A (4 + 2 * k)), .int (nI i)] (XE (some (.int (I (5 + 2 * k) i))) I U P) := by
  refine MM.go (own := RX5) (lv0 := [some (.ref (A (4 + 2 * k))), some (.int (nI i))]) rfl (by decide) rfl (Nat.le_of_ble_eq_true rfl) rfl ?_
  intro p e s m args below meth c C
  refine jx_aload_n C dX5_tells_0 rfl ?_
  refine jx_get C fl_5_9_4 dX5_tells_1 (by omega) (gg_laneL hk h3) rfl ?_
  refine jx_iload_n C dX5_tells_4 rfl ?_
  refine jx_zald (i) C dX5_tells_5 (by omega) (gg_larrL hk h3) rfl hi (by decide) ?_
  refine jx_if_eq (tgt := 13) C dX5_tells_6 (by decide) (fun c6 => ?_) (fun c6 => ?_)
  · refine jx_iconst (v := 0) C dX5_tells_13 (by decide) ?_
    exact jx_iret C dX5_tells_14 ⟨by rcases hz with h | h <;> simp [h] at c6 ⊢, rfl, rfl, rfl⟩
  · refine jx_iconst (v := 1) C dX5_tells_9 (by decide) ?_
    refine jx_goto (tgt := 14) C dX5_tells_10 (by decide) ?_
    exact jx_iret C dX5_tells_14 ⟨by rcases hz with h | h <;> simp [h] at c6 ⊢, rfl, rfl, rfl⟩
set_option maxRecDepth 100000 in
set_option maxHeartbeats 4000000 in
theorem c_5_lay {l : Launch} {D : va_G} {K : Nat → ClassId} {A : Nat → Nat} {I : TI} {U : TU} {P : TP} {k : Nat} {v : Int32} {i : Nat} (hi : i < 24) (hk : k < 20) (h3 : k % 5 = 3) : MM l yX5_lay cX5_lay 3 none 1 D K A (I) (U) (P) [.ref (A (4 + 2 * k)), .int (nI i), .int v] (XE none (up2 I (5 + 2 * k) i (v &&& 1)) U P) := by
  refine MM.go (own := RX5) (lv0 := [some (.ref (A (4 + 2 * k))), some (.int (nI i)), some (.int v)]) rfl (by decide) rfl (Nat.le_of_ble_eq_true rfl) rfl ?_
  intro p e s m args below meth c C
  refine jx_aload_n C dX5_lay_0 rfl ?_
  refine jx_get C fl_5_9_4 dX5_lay_1 (by omega) (gg_laneL hk h3) rfl ?_
  refine jx_iload_n C dX5_lay_4 rfl ?_
  refine jx_iload_n C dX5_lay_5 rfl ?_
  refine jx_one C (jr_S C (c_5_isOdd) sw_5_15 rfl ⟨Nat.le_of_ble_eq_true rfl, Nat.le_of_ble_eq_true rfl⟩ ⟨Nat.le_of_ble_eq_true rfl, Nat.le_of_ble_eq_true rfl⟩ dX5_lay_6 rfl (Nat.le_of_ble_eq_true rfl)) ?_
  refine jx_zastI (i) C dX5_lay_9 (by omega) (fun _ => (gg_larrL hk h3)) rfl hi (by decide) (z_nar (bit1 v)) ?_
  exact jx_vret C dX5_lay_10 ⟨rfl, rfl, rfl, rfl⟩
set_option maxRecDepth 100000 in
set_option maxHeartbeats 4000000 in
theorem c_5_turn {l : Launch} {D : va_G} {K : Nat → ClassId} {A : Nat → Nat} {I : TI} {U : TU} {P : TP} {k : Nat} {i : Nat} (hi : i < 24) (hz : I (5 + 2 * k) i = 0 ∨ I (5 + 2 * k) i = 1) (hk : k < 20) (h3 : k % 5 = 3) : MM l yX5_turn cX5_turn 2 none 0 D K A (I) (U) (P) [.ref (A (4 + 2 * k)), .int (nI i)] (XE none (up2 I (5 + 2 * k) i (I (5 + 2 * k) i ^^^ (1 &&& 1))) U P) := by
  refine MM.go (own := RX5) (lv0 := [some (.ref (A (4 + 2 * k))), some (.int (nI i))]) rfl (by decide) rfl (Nat.le_of_ble_eq_true rfl) rfl ?_
  intro p e s m args below meth c C
  refine jx_aload_n C dX5_turn_0 rfl ?_
  refine jx_get C fl_5_9_4 dX5_turn_1 (by omega) (gg_laneL hk h3) rfl ?_
  refine jx_iload_n C dX5_turn_4 rfl ?_
  refine jx_aload_n C dX5_turn_5 rfl ?_
  refine jx_get C fl_5_9_4 dX5_turn_6 (by omega) (gg_laneL hk h3) rfl ?_
  refine jx_iload_n C dX5_turn_9 rfl ?_
  refine jx_zald (i) C dX5_turn_10 (by omega) (gg_larrL hk h3) rfl hi (by decide) ?_
  refine jx_if_ne (tgt := 18) C dX5_turn_11 (by decide) (fun c11 => ?_) (fun c11 => ?_)
  · refine jx_iconst (v := 0) C dX5_turn_18 (by decide) ?_
    refine jx_zastI (i) C dX5_turn_19 (by omega) (fun _ => (gg_larrL hk h3)) rfl hi (by decide) rfl ?_
    exact jx_vret C dX5_turn_20 ⟨rfl, by rw [← x_turn hz]; simp [bI, c11], rfl, rfl⟩
  · refine jx_iconst (v := 1) C dX5_turn_14 (by decide) ?_
    refine jx_goto (tgt := 19) C dX5_turn_15 (by decide) ?_
    refine jx_zastI (i) C dX5_turn_19 (by omega) (fun _ => (gg_larrL hk h3)) rfl hi (by decide) rfl ?_
    exact jx_vret C dX5_turn_20 ⟨rfl, by rw [← x_turn hz]; simp [bI, c11], rfl, rfl⟩
theorem up2_id {α : Type} {I : Nat → Nat → α} (i j : Nat) : up2 I i j (I i j) = I := by
  funext a b
  by_cases h : a = i ∧ b = j
  · rw [h.1, h.2, up2_same]
  · rw [up2_ne h]
set_option maxRecDepth 100000 in
set_option maxHeartbeats 4000000 in
theorem c_5_pull {l : Launch} {D : va_G} {K : Nat → ClassId} {A : Nat → Nat} {I : TI} {U : TU} {P : TP} {k : Nat} {v : Int32} {i : Nat} (hi : i < 24) (hz : I (5 + 2 * k) i = 0 ∨ I (5 + 2 * k) i = 1) (hk : k < 20) (h3 : k % 5 = 3) : MM l yX5_pull cX5_pull 3 none 1 D K A (I) (U) (P) [.ref (A (4 + 2 * k)), .int (nI i), .int v] (XE none (up2 I (5 + 2 * k) i (I (5 + 2 * k) i ^^^ (v &&& 1))) U P) := by
  refine MM.go (own := RX5) (lv0 := [some (.ref (A (4 + 2 * k))), some (.int (nI i)), some (.int v)]) rfl (by decide) rfl (Nat.le_of_ble_eq_true rfl) rfl ?_
  intro p e s m args below meth c C
  refine jx_iload_n C dX5_pull_0 rfl ?_
  rcases bit1 v with hb | hb
  · skip
    refine jx_one C (jr_S C (c_5_isOdd) sw_5_15 rfl ⟨Nat.le_of_ble_eq_true rfl, Nat.le_of_ble_eq_true rfl⟩ ⟨Nat.le_of_ble_eq_true rfl, Nat.le_of_ble_eq_true rfl⟩ dX5_pull_1 rfl (Nat.le_of_ble_eq_true rfl)) ?_
    rw [hb]
    refine jx_if_eqT (tgt := 12) C dX5_pull_4 (by decide) (by decide) ?_
    exact jx_vret C dX5_pull_12 ⟨rfl, by rw [show I (5 + 2 * k) i ^^^ 0 = I (5 + 2 * k) i by simp]; exact (up2_id _ _).symm, rfl, rfl⟩
  · skip
    refine jx_one C (jr_S C (c_5_isOdd) sw_5_15 rfl ⟨Nat.le_of_ble_eq_true rfl, Nat.le_of_ble_eq_true rfl⟩ ⟨Nat.le_of_ble_eq_true rfl, Nat.le_of_ble_eq_true rfl⟩ dX5_pull_1 rfl (Nat.le_of_ble_eq_true rfl)) ?_
    rw [hb]
    refine jx_if_eqF (tgt := 12) C dX5_pull_4 (by decide) (by decide) ?_
    refine jx_aload_n C dX5_pull_7 rfl ?_
    refine jx_iload_n C dX5_pull_8 rfl ?_
    refine jx_void C (jr_V C (c_5_turn hi hz hk h3) vw_5_19 (by omega) (gg_laneL hk h3) rfl rfl ⟨Nat.le_of_ble_eq_true rfl, Nat.le_of_ble_eq_true rfl⟩ ⟨Nat.le_of_ble_eq_true rfl, Nat.le_of_ble_eq_true rfl⟩ dX5_pull_9 rfl (Nat.le_of_ble_eq_true rfl)) ?_
    exact jx_vret C dX5_pull_12 ⟨rfl, rfl, rfl, rfl⟩
theorem x_part {x v : Int32} (h : x = 0 ∨ x = 1) : x &&& v &&& 1 = x &&& (v &&& 1) := Int32.and_assoc ..
set_option maxRecDepth 100000 in
set_option maxHeartbeats 4000000 in
theorem c_5_part {l : Launch} {D : va_G} {K : Nat → ClassId} {A : Nat → Nat} {I : TI} {U : TU} {P : TP} {k : Nat} {v : Int32} {i : Nat} (hi : i < 24) (hz : I (5 + 2 * k) i = 0 ∨ I (5 + 2 * k) i = 1) (hk : k < 20) (h3 : k % 5 = 3) : MM l yX5_part cX5_part 3 (some .boolean) 1 D K A (I) (U) (P) [.ref (A (4 + 2 * k)), .int (nI i), .int v] (XE (some (.int 1)) (up2 I (5 + 2 * k) i (I (5 + 2 * k) i &&& v &&& 1)) U P) := by
  refine MM.go (own := RX5) (lv0 := [some (.ref (A (4 + 2 * k))), some (.int (nI i)), some (.int v)]) rfl (by decide) rfl (Nat.le_of_ble_eq_true rfl) rfl ?_
  intro p e s m args below meth c C
  refine jx_iload_n C dX5_part_0 rfl ?_
  rcases bit1 v with hb | hb
  · skip
    refine jx_one C (jr_S C (c_5_isOdd) sw_5_15 rfl ⟨Nat.le_of_ble_eq_true rfl, Nat.le_of_ble_eq_true rfl⟩ ⟨Nat.le_of_ble_eq_true rfl, Nat.le_of_ble_eq_true rfl⟩ dX5_part_1 rfl (Nat.le_of_ble_eq_true rfl)) ?_
    rw [hb]
    refine jx_if_neF (tgt := 14) C dX5_part_4 (by decide) (by decide) ?_
    refine jx_aload_n C dX5_part_7 rfl ?_
    refine jx_get C fl_5_9_4 dX5_part_8 (by omega) (gg_laneL hk h3) rfl ?_
    refine jx_iload_n C dX5_part_11 rfl ?_
    refine jx_iconst (v := 0) C dX5_part_12 (by decide) ?_
    refine jx_zastI (i) C dX5_part_13 (by omega) (fun _ => (gg_larrL hk h3)) rfl hi (by decide) rfl ?_
    refine jx_iconst (v := 1) C dX5_part_14 (by decide) ?_
    exact jx_zret C dX5_part_15 rfl ⟨rfl, by rw [x_part hz, hb, show I (5 + 2 * k) i &&& 0 = 0 by simp], rfl, rfl⟩
  · skip
    refine jx_one C (jr_S C (c_5_isOdd) sw_5_15 rfl ⟨Nat.le_of_ble_eq_true rfl, Nat.le_of_ble_eq_true rfl⟩ ⟨Nat.le_of_ble_eq_true rfl, Nat.le_of_ble_eq_true rfl⟩ dX5_part_1 rfl (Nat.le_of_ble_eq_true rfl)) ?_
    rw [hb]
    refine jx_if_neT (tgt := 14) C dX5_part_4 (by decide) (by decide) ?_
    refine jx_iconst (v := 1) C dX5_part_14 (by decide) ?_
    exact jx_zret C dX5_part_15 rfl ⟨rfl, by rw [x_part hz, hb, show I (5 + 2 * k) i &&& 1 = I (5 + 2 * k) i by rcases hz with h | h <;> rw [h] <;> rfl, up2_id], rfl, rfl⟩
set_option maxRecDepth 100000 in
set_option maxHeartbeats 4000000 in
theorem c_5_exchange {l : Launch} {D : va_G} {K : Nat → ClassId} {A : Nat → Nat} {I : TI} {U : TU} {P : TP} {k : Nat} {i j : Nat} (hi : i < 24) (hj : j < 24) (hz : I (5 + 2 * k) i = 0 ∨ I (5 + 2 * k) i = 1) (hz2 : I (5 + 2 * k) j = 0 ∨ I (5 + 2 * k) j = 1) (hk : k < 20) (h3 : k % 5 = 3) : MM l yX5_exchange cX5_exchange 4 none 0 D K A (I) (U) (P) [.ref (A (4 + 2 * k)), .int (nI i), .int (nI j)] (XE none (up2 (up2 I (5 + 2 * k) i (I (5 + 2 * k) j)) (5 + 2 * k) j (I (5 + 2 * k) i)) U P) := by
  refine MM.go (own := RX5) (lv0 := [some (.ref (A (4 + 2 * k))), some (.int (nI i)), some (.int (nI j)), none]) rfl (by decide) rfl (Nat.le_of_ble_eq_true rfl) rfl ?_
  intro p e s m args below meth c C
  refine jx_aload_n C dX5_exchange_0 rfl ?_
  refine jx_get C fl_5_9_4 dX5_exchange_1 (by omega) (gg_laneL hk h3) rfl ?_
  refine jx_iload_n C dX5_exchange_4 rfl ?_
  refine jx_zald (i) C dX5_exchange_5 (by omega) (gg_larrL hk h3) rfl hi (by decide) ?_
  refine jx_istore_n (lv1 := [_, _, _, _]) C dX5_exchange_6 (by decide) rfl ?_
  refine jx_aload_n C dX5_exchange_7 rfl ?_
  refine jx_get C fl_5_9_4 dX5_exchange_8 (by omega) (gg_laneL hk h3) rfl ?_
  refine jx_iload_n C dX5_exchange_11 rfl ?_
  refine jx_aload_n C dX5_exchange_12 rfl ?_
  refine jx_get C fl_5_9_4 dX5_exchange_13 (by omega) (gg_laneL hk h3) rfl ?_
  refine jx_iload_n C dX5_exchange_16 rfl ?_
  refine jx_zald (j) C dX5_exchange_17 (by omega) (gg_larrL hk h3) rfl hj (by decide) ?_
  refine jx_zastI (i) C dX5_exchange_18 (by omega) (fun _ => (gg_larrL hk h3)) rfl hi (by decide) (z_nar hz2) ?_
  refine jx_aload_n C dX5_exchange_19 rfl ?_
  refine jx_get C fl_5_9_4 dX5_exchange_20 (by omega) (gg_laneL hk h3) rfl ?_
  refine jx_iload_n C dX5_exchange_23 rfl ?_
  refine jx_iload_n C dX5_exchange_24 rfl ?_
  refine jx_zastI (j) C dX5_exchange_25 (by omega) (fun _ => (gg_larrL hk h3)) rfl hj (by decide) (z_nar hz) ?_
  exact jx_vret C dX5_exchange_26 ⟨rfl, rfl, rfl, rfl⟩
set_option maxRecDepth 100000 in
set_option maxHeartbeats 4000000 in
theorem c_7_hold {l : Launch} {D : va_G} {K : Nat → ClassId} {A : Nat → Nat} {I : TI} {U : TU} {P : TP} {x : UInt32} : MM l yX7_hold cX7_hold 1 (some .float) 0 D K A (I) (U) (P) [.float x] (XE (some (.float (fHo x))) I U P) := by
  refine MM.go (own := RX7) (lv0 := [some (.float x)]) rfl (by decide) rfl (Nat.le_of_ble_eq_true rfl) rfl ?_
  intro p e s m args below meth c C
  refine jx_fload_n C dX7_hold_0 rfl ?_
  refine jx_ldcf C dX7_hold_1 qw_360 ?_
  refine jx_fcmp C dX7_hold_3 ?_
  refine jx_if_ge (tgt := 10) C dX7_hold_4 (by decide) (fun c4 => ?_) (fun c4 => ?_)
  · refine jx_fload_n C dX7_hold_10 rfl ?_
    refine jx_ldcf C dX7_hold_11 qw_361 ?_
    refine jx_fcmp C dX7_hold_13 ?_
    refine jx_if_le (tgt := 22) C dX7_hold_14 (by decide) (fun c14 => ?_) (fun c14 => ?_)
    · refine jx_fload_n C dX7_hold_22 rfl ?_
      exact jx_fret C dX7_hold_23 ⟨by rw [cv_g] at c4; rw [cv_l] at c14; rw [fHo, if_neg c4, if_neg c14], rfl, rfl, rfl⟩
    · refine jx_ldcf C dX7_hold_17 qw_361 ?_
      refine jx_goto (tgt := 23) C dX7_hold_19 (by decide) ?_
      exact jx_fret C dX7_hold_23 ⟨by rw [cv_g] at c4; rw [cv_l] at c14; rw [fHo, if_neg c4, if_pos (Classical.not_not.mp c14)], rfl, rfl, rfl⟩
  · refine jx_ldcf C dX7_hold_7 qw_360 ?_
    exact jx_fret C dX7_hold_9 ⟨by rw [cv_g] at c4; rw [fHo, if_pos (Classical.not_not.mp c4)], rfl, rfl, rfl⟩
set_option maxRecDepth 100000 in
set_option maxHeartbeats 4000000 in
theorem c_7_eighths {l : Launch} {D : va_G} {K : Nat → ClassId} {A : Nat → Nat} {I : TI} {U : TU} {P : TP} {v : Int32} : MM l yX7_eighths cX7_eighths 1 (some .float) 0 D K A (I) (U) (P) [.int v] (XE (some (.float (f8 v))) I U P) := by
  refine MM.go (own := RX7) (lv0 := [some (.int v)]) rfl (by decide) rfl (Nat.le_of_ble_eq_true rfl) rfl ?_
  intro p e s m args below meth c C
  refine jx_iload_n C dX7_eighths_0 rfl ?_
  refine jx_i2f C dX7_eighths_1 ?_
  refine jx_ldcf C dX7_eighths_2 qw_356 ?_
  refine jx_fdiv C dX7_eighths_4 (nn_8 v) ?_
  exact jx_fret C dX7_eighths_5 ⟨rfl, rfl, rfl, rfl⟩
set_option maxRecDepth 100000 in
set_option maxHeartbeats 4000000 in
theorem c_7_reset {l : Launch} {D : va_G} {K : Nat → ClassId} {A : Nat → Nat} {I : TI} {U : TU} {P : TP} {k : Nat} {i : Nat} (hi : i < 24) (hk : k < 20) (h2 : k % 5 = 2) : MM l yX7_reset cX7_reset 2 none 0 D K A (I) (U) (P) [.ref (A (4 + 2 * k)), .int (nI i)] (XE none I (up2 U (5 + 2 * k) i FP.fconst0) P) := by
  refine MM.go (own := RX7) (lv0 := [some (.ref (A (4 + 2 * k))), some (.int (nI i))]) rfl (by decide) rfl (Nat.le_of_ble_eq_true rfl) rfl ?_
  intro p e s m args below meth c C
  refine jx_aload_n C dX7_reset_0 rfl ?_
  refine jx_get C fl_7_9_6 dX7_reset_1 (by omega) (gg_laneT hk h2) rfl ?_
  refine jx_iload_n C dX7_reset_4 rfl ?_
  refine jx_fconst0 C dX7_reset_5 ?_
  refine jx_fastU (i) C dX7_reset_6 (by omega) (fun _ => (gg_larrT hk h2)) rfl hi (by decide) ?_
  exact jx_vret C dX7_reset_7 ⟨rfl, rfl, rfl, rfl⟩
set_option maxRecDepth 100000 in
set_option maxHeartbeats 4000000 in
theorem c_7_tells {l : Launch} {D : va_G} {K : Nat → ClassId} {A : Nat → Nat} {I : TI} {U : TU} {P : TP} {k : Nat} {i : Nat} (hi : i < 24) (hh : hd32 (U (5 + 2 * k) i)) (hk : k < 20) (h2 : k % 5 = 2) : MM l yX7_tells cX7_tells 2 (some .int) 0 D K A (I) (U) (P) [.ref (A (4 + 2 * k)), .int (nI i)] (XE (some (.int (FP.f2i (FP.fmul (U (5 + 2 * k) i) 1090519040)))) I U P) := by
  refine MM.go (own := RX7) (lv0 := [some (.ref (A (4 + 2 * k))), some (.int (nI i))]) rfl (by decide) rfl (Nat.le_of_ble_eq_true rfl) rfl ?_
  intro p e s m args below meth c C
  refine jx_aload_n C dX7_tells_0 rfl ?_
  refine jx_get C fl_7_9_6 dX7_tells_1 (by omega) (gg_laneT hk h2) rfl ?_
  refine jx_iload_n C dX7_tells_4 rfl ?_
  refine jx_fald (i) C dX7_tells_5 (by omega) (gg_larrT hk h2) rfl hi (by decide) ?_
  refine jx_ldcf C dX7_tells_6 qw_356 ?_
  refine jx_fmul C dX7_tells_8 (nn_tell hh) ?_
  refine jx_f2i C dX7_tells_9 ?_
  exact jx_iret C dX7_tells_10 ⟨rfl, rfl, rfl, rfl⟩
set_option maxRecDepth 100000 in
set_option maxHeartbeats 4000000 in
theorem c_7_lay {l : Launch} {D : va_G} {K : Nat → ClassId} {A : Nat → Nat} {I : TI} {U : TU} {P : TP} {k : Nat} {v : Int32} {i : Nat} (hi : i < 24) (hk : k < 20) (h2 : k % 5 = 2) : MM l yX7_lay cX7_lay 3 none 1 D K A (I) (U) (P) [.ref (A (4 + 2 * k)), .int (nI i), .int v] (XE none I (up2 U (5 + 2 * k) i (fHo (f8 v))) P) := by
  refine MM.go (own := RX7) (lv0 := [some (.ref (A (4 + 2 * k))), some (.int (nI i)), some (.int v)]) rfl (by decide) rfl (Nat.le_of_ble_eq_true rfl) rfl ?_
  intro p e s m args below meth c C
  refine jx_aload_n C dX7_lay_0 rfl ?_
  refine jx_get C fl_7_9_6 dX7_lay_1 (by omega) (gg_laneT hk h2) rfl ?_
  refine jx_iload_n C dX7_lay_4 rfl ?_
  refine jx_iload_n C dX7_lay_5 rfl ?_
  refine jx_one C (jr_S C (c_7_eighths) sw_7_18 rfl ⟨Nat.le_of_ble_eq_true rfl, Nat.le_of_ble_eq_true rfl⟩ ⟨Nat.le_of_ble_eq_true rfl, Nat.le_of_ble_eq_true rfl⟩ dX7_lay_6 rfl (Nat.le_of_ble_eq_true rfl)) ?_
  refine jx_one C (jr_S C (c_7_hold) sw_7_22 rfl ⟨Nat.le_of_ble_eq_true rfl, Nat.le_of_ble_eq_true rfl⟩ ⟨Nat.le_of_ble_eq_true rfl, Nat.le_of_ble_eq_true rfl⟩ dX7_lay_9 rfl (Nat.le_of_ble_eq_true rfl)) ?_
  refine jx_fastU (i) C dX7_lay_12 (by omega) (fun _ => (gg_larrT hk h2)) rfl hi (by decide) ?_
  exact jx_vret C dX7_lay_13 ⟨rfl, rfl, rfl, rfl⟩
set_option maxRecDepth 100000 in
set_option maxHeartbeats 4000000 in
theorem c_7_pull {l : Launch} {D : va_G} {K : Nat → ClassId} {A : Nat → Nat} {I : TI} {U : TU} {P : TP} {k : Nat} {v : Int32} {i : Nat} (hi : i < 24) (hh : hd32 (U (5 + 2 * k) i)) (hk : k < 20) (h2 : k % 5 = 2) : MM l yX7_pull cX7_pull 3 none 1 D K A (I) (U) (P) [.ref (A (4 + 2 * k)), .int (nI i), .int v] (XE none I (up2 U (5 + 2 * k) i (fHo (FP.fadd (U (5 + 2 * k) i) (f8 v)))) P) := by
  refine MM.go (own := RX7) (lv0 := [some (.ref (A (4 + 2 * k))), some (.int (nI i)), some (.int v)]) rfl (by decide) rfl (Nat.le_of_ble_eq_true rfl) rfl ?_
  intro p e s m args below meth c C
  refine jx_aload_n C dX7_pull_0 rfl ?_
  refine jx_get C fl_7_9_6 dX7_pull_1 (by omega) (gg_laneT hk h2) rfl ?_
  refine jx_iload_n C dX7_pull_4 rfl ?_
  refine jx_aload_n C dX7_pull_5 rfl ?_
  refine jx_get C fl_7_9_6 dX7_pull_6 (by omega) (gg_laneT hk h2) rfl ?_
  refine jx_iload_n C dX7_pull_9 rfl ?_
  refine jx_fald (i) C dX7_pull_10 (by omega) (gg_larrT hk h2) rfl hi (by decide) ?_
  refine jx_iload_n C dX7_pull_11 rfl ?_
  refine jx_one C (jr_S C (c_7_eighths) sw_7_18 rfl ⟨Nat.le_of_ble_eq_true rfl, Nat.le_of_ble_eq_true rfl⟩ ⟨Nat.le_of_ble_eq_true rfl, Nat.le_of_ble_eq_true rfl⟩ dX7_pull_12 rfl (Nat.le_of_ble_eq_true rfl)) ?_
  refine jx_fadd C dX7_pull_15 (nn_add hh (f8_nan v)) ?_
  refine jx_one C (jr_S C (c_7_hold) sw_7_22 rfl ⟨Nat.le_of_ble_eq_true rfl, Nat.le_of_ble_eq_true rfl⟩ ⟨Nat.le_of_ble_eq_true rfl, Nat.le_of_ble_eq_true rfl⟩ dX7_pull_16 rfl (Nat.le_of_ble_eq_true rfl)) ?_
  refine jx_fastU (i) C dX7_pull_19 (by omega) (fun _ => (gg_larrT hk h2)) rfl hi (by decide) ?_
  exact jx_vret C dX7_pull_20 ⟨rfl, rfl, rfl, rfl⟩
set_option maxRecDepth 100000 in
set_option maxHeartbeats 4000000 in
theorem c_7_turn {l : Launch} {D : va_G} {K : Nat → ClassId} {A : Nat → Nat} {I : TI} {U : TU} {P : TP} {k : Nat} {i : Nat} (hi : i < 24) (hh : hd32 (U (5 + 2 * k) i)) (hk : k < 20) (h2 : k % 5 = 2) : MM l yX7_turn cX7_turn 2 none 1 D K A (I) (U) (P) [.ref (A (4 + 2 * k)), .int (nI i)] (XE none I (up2 U (5 + 2 * k) i (fHo (FP.fadd (U (5 + 2 * k) i) (f8 8)))) P) := by
  rw [f8_8]
  refine MM.go (own := RX7) (lv0 := [some (.ref (A (4 + 2 * k))), some (.int (nI i))]) rfl (by decide) rfl (Nat.le_of_ble_eq_true rfl) rfl ?_
  intro p e s m args below meth c C
  refine jx_aload_n C dX7_turn_0 rfl ?_
  refine jx_get C fl_7_9_6 dX7_turn_1 (by omega) (gg_laneT hk h2) rfl ?_
  refine jx_iload_n C dX7_turn_4 rfl ?_
  refine jx_aload_n C dX7_turn_5 rfl ?_
  refine jx_get C fl_7_9_6 dX7_turn_6 (by omega) (gg_laneT hk h2) rfl ?_
  refine jx_iload_n C dX7_turn_9 rfl ?_
  refine jx_fald (i) C dX7_turn_10 (by omega) (gg_larrT hk h2) rfl hi (by decide) ?_
  refine jx_fconst1 C dX7_turn_11 ?_
  refine jx_fadd C dX7_turn_12 (nn_add hh fin_1.notNaN) ?_
  refine jx_one C (jr_S C (c_7_hold) sw_7_22 rfl ⟨Nat.le_of_ble_eq_true rfl, Nat.le_of_ble_eq_true rfl⟩ ⟨Nat.le_of_ble_eq_true rfl, Nat.le_of_ble_eq_true rfl⟩ dX7_turn_13 rfl (Nat.le_of_ble_eq_true rfl)) ?_
  refine jx_fastU (i) C dX7_turn_16 (by omega) (fun _ => (gg_larrT hk h2)) rfl hi (by decide) ?_
  exact jx_vret C dX7_turn_17 ⟨rfl, rfl, rfl, rfl⟩
set_option maxRecDepth 100000 in
set_option maxHeartbeats 4000000 in
theorem c_7_part {l : Launch} {D : va_G} {K : Nat → ClassId} {A : Nat → Nat} {I : TI} {U : TU} {P : TP} {k : Nat} {v : Int32} (hv : ¬ v = 0) {i : Nat} (hi : i < 24) (hh : hd32 (U (5 + 2 * k) i)) (hk : k < 20) (h2 : k % 5 = 2) : MM l yX7_part cX7_part 3 (some .boolean) 0 D K A (I) (U) (P) [.ref (A (4 + 2 * k)), .int (nI i), .int v] (XE (some (.int 1)) I (up2 U (5 + 2 * k) i (fHo (FP.fdiv (U (5 + 2 * k) i) (FP.i2f v)))) P) := by
  rw [ho_id (hd_div hh hv)]
  refine MM.go (own := RX7) (lv0 := [some (.ref (A (4 + 2 * k))), some (.int (nI i)), some (.int v)]) rfl (by decide) rfl (Nat.le_of_ble_eq_true rfl) rfl ?_
  intro p e s m args below meth c C
  refine jx_iload_n C dX7_part_0 rfl ?_
  refine jx_if_neT (tgt := 6) C dX7_part_1 (by decide) hv ?_
  refine jx_aload_n C dX7_part_6 rfl ?_
  refine jx_get C fl_7_9_6 dX7_part_7 (by omega) (gg_laneT hk h2) rfl ?_
  refine jx_iload_n C dX7_part_10 rfl ?_
  refine jx_aload_n C dX7_part_11 rfl ?_
  refine jx_get C fl_7_9_6 dX7_part_12 (by omega) (gg_laneT hk h2) rfl ?_
  refine jx_iload_n C dX7_part_15 rfl ?_
  refine jx_fald (i) C dX7_part_16 (by omega) (gg_larrT hk h2) rfl hi (by decide) ?_
  refine jx_iload_n C dX7_part_17 rfl ?_
  refine jx_i2f C dX7_part_18 ?_
  refine jx_fdiv C dX7_part_19 (nn_div hh hv) ?_
  refine jx_fastU (i) C dX7_part_20 (by omega) (fun _ => (gg_larrT hk h2)) rfl hi (by decide) ?_
  refine jx_iconst (v := 1) C dX7_part_21 (by decide) ?_
  exact jx_zret C dX7_part_22 rfl ⟨rfl, rfl, rfl, rfl⟩
set_option maxRecDepth 100000 in
set_option maxHeartbeats 4000000 in
theorem c_7_part0 {l : Launch} {D : va_G} {K : Nat → ClassId} {A : Nat → Nat} {I : TI} {U : TU} {P : TP} {k : Nat} {x : Int32} (hk : k < 20) (h2 : k % 5 = 2) : MM l yX7_part cX7_part 3 (some .boolean) 0 D K A (I) (U) (P) [.ref (A (4 + 2 * k)), .int x, .int 0] (XE (some (.int 0)) I U P) := by
  refine MM.go (own := RX7) (lv0 := [some (.ref (A (4 + 2 * k))), some (.int x), some (.int 0)]) rfl (by decide) rfl (Nat.le_of_ble_eq_true rfl) rfl ?_
  intro p e s m args below meth c C
  refine jx_iload_n C dX7_part_0 rfl ?_
  refine jx_if_neF (tgt := 6) C dX7_part_1 rfl (by decide) ?_
  refine jx_iconst (v := 0) C dX7_part_4 (by decide) ?_
  exact jx_zret C dX7_part_5 rfl ⟨rfl, rfl, rfl, rfl⟩
set_option maxRecDepth 100000 in
set_option maxHeartbeats 4000000 in
theorem c_7_exchange {l : Launch} {D : va_G} {K : Nat → ClassId} {A : Nat → Nat} {I : TI} {U : TU} {P : TP} {k : Nat} {i j : Nat} (hi : i < 24) (hj : j < 24) (hk : k < 20) (h2 : k % 5 = 2) : MM l yX7_exchange cX7_exchange 4 none 0 D K A (I) (U) (P) [.ref (A (4 + 2 * k)), .int (nI i), .int (nI j)] (XE none I (up2 (up2 U (5 + 2 * k) i (U (5 + 2 * k) j)) (5 + 2 * k) j (U (5 + 2 * k) i)) P) := by
  refine MM.go (own := RX7) (lv0 := [some (.ref (A (4 + 2 * k))), some (.int (nI i)), some (.int (nI j)), none]) rfl (by decide) rfl (Nat.le_of_ble_eq_true rfl) rfl ?_
  intro p e s m args below meth c C
  refine jx_aload_n C dX7_exchange_0 rfl ?_
  refine jx_get C fl_7_9_6 dX7_exchange_1 (by omega) (gg_laneT hk h2) rfl ?_
  refine jx_iload_n C dX7_exchange_4 rfl ?_
  refine jx_fald (i) C dX7_exchange_5 (by omega) (gg_larrT hk h2) rfl hi (by decide) ?_
  refine jx_fstore_n (lv1 := [_, _, _, _]) C dX7_exchange_6 (by decide) rfl ?_
  refine jx_aload_n C dX7_exchange_7 rfl ?_
  refine jx_get C fl_7_9_6 dX7_exchange_8 (by omega) (gg_laneT hk h2) rfl ?_
  refine jx_iload_n C dX7_exchange_11 rfl ?_
  refine jx_aload_n C dX7_exchange_12 rfl ?_
  refine jx_get C fl_7_9_6 dX7_exchange_13 (by omega) (gg_laneT hk h2) rfl ?_
  refine jx_iload_n C dX7_exchange_16 rfl ?_
  refine jx_fald (j) C dX7_exchange_17 (by omega) (gg_larrT hk h2) rfl hj (by decide) ?_
  refine jx_fastU (i) C dX7_exchange_18 (by omega) (fun _ => (gg_larrT hk h2)) rfl hi (by decide) ?_
  refine jx_aload_n C dX7_exchange_19 rfl ?_
  refine jx_get C fl_7_9_6 dX7_exchange_20 (by omega) (gg_laneT hk h2) rfl ?_
  refine jx_iload_n C dX7_exchange_23 rfl ?_
  refine jx_fload_n C dX7_exchange_24 rfl ?_
  refine jx_fastU (j) C dX7_exchange_25 (by omega) (fun _ => (gg_larrT hk h2)) rfl hj (by decide) ?_
  exact jx_vret C dX7_exchange_26 ⟨rfl, rfl, rfl, rfl⟩
end
section
/-! relational ends, dispatch over the three kinds of lane, the warp -/
def XV (q : Value → TI → TU → TP → Prop) : TQ := fun v I U P => ∃ w, v = some w ∧ q w I U P
def XN (q : TI → TU → TP → Prop) : TQ := fun v I U P => v = none ∧ q I U P
section CALLR
variable {p : Program} {l : Launch} {e : Env} {R : Room} {s : State} {m : MethodId} {args : Array Value} {below : List Frame} {meth : Method} {c : Code} {nL : Nat} {D : va_G} {Ax : Nat → Prop} {Q : State → Prop} {cs sl pc : Nat} {lv : List (Option Value)} {st rest : List Value} {own : String} {cc : ByteArray} {ret : Option FieldType} {K : Nat → ClassId} {A : Nat → Nat} {I : TI} {U : TU} {P : TP}
theorem jx_oneV {q : Value → TI → TU → TP → Prop} (C : CX p s m args meth c own cc nL ret D K Ax) (h : JRun p l e R s m args below meth c nL D Ax K A I U P cs sl pc lv st rest (XV q)) (kk : ∀ (w : Value) (I1 : TI) (U1 : TU) (P1 : TP), q w I1 U1 P1 → GJ p l e R s m args below meth c nL D Ax Q 75 A (gg A K I1 U1 P1) cs sl (pc + 3) lv (w :: rest)) : GJ p l e R s m args below meth c nL D Ax Q 75 A (gg A K I U P) cs sl pc lv st := by
  refine jx_after C h (fun v I1 U1 P1 hq => ?_)
  obtain ⟨w, rfl, hq⟩ := hq
  exact kk w I1 U1 P1 hq
theorem jx_voidN {q : TI → TU → TP → Prop} (C : CX p s m args meth c own cc nL ret D K Ax) (h : JRun p l e R s m args below meth c nL D Ax K A I U P cs sl pc lv st rest (XN q)) (kk : ∀ (I1 : TI) (U1 : TU) (P1 : TP), q I1 U1 P1 → GJ p l e R s m args below meth c nL D Ax Q 75 A (gg A K I1 U1 P1) cs sl (pc + 3) lv rest) : GJ p l e R s m args below meth c nL D Ax Q 75 A (gg A K I U P) cs sl pc lv st := by
  refine jx_after C h (fun v I1 U1 P1 hq => ?_)
  obtain ⟨rfl, hq⟩ := hq
  exact kk I1 U1 P1 hq
/-- the cells are apart -/
theorem jx_inj {N : Nat} {g : Nat → va_E} (k : (∀ i j, i < N → j < N → A i = A j → i = j) → GJ p l e R s m args below meth c nL D Ax Q N A g cs sl pc lv st) : GJ p l e R s m args below meth c nL D Ax Q N A g cs sl pc lv st :=
  fun H locs ls hP hD hS hl => k (fun i j hi hj h => hD.1 i j _ _ (wl_get hi) (wl_get hj) h) H locs ls hP hD hS hl
theorem jv_count  {k : Nat} (C : CX p s m args meth c RX10 cc nL ret D K Ax) (hd : decode cc pc = .ok (.invokevirtual 85, 3)) (hk : k < 20)  (hR : 2 ≤ R.frames ∧ 49 ≤ R.locals) (hf : cs ≤ R.cells ∧ sl ≤ R.slots) (hro : (rest.map fun v => v.category).sum ≤ 8) : JRun p l e R s m args below meth c nL D Ax K A I U P cs sl pc lv (.ref (A (4 + 2 * k)) :: rest) rest (XE (some (.int (I (4 + 2 * k) 0))) I U P) := by
  obtain ⟨hR1, hR2⟩ := hR
  by_cases h2 : k % 5 = 2
  · skip
    exact jr_U C (c_3_countT hk h2) uw_10_85_6 (by omega) (gg_laneT hk h2) rfl rfl ⟨by omega, by omega⟩ hf hd rfl hro
  · by_cases h3 : k % 5 = 3
    · skip
      exact jr_U C (c_3_countL hk h3) uw_10_85_4 (by omega) (gg_laneL hk h3) rfl rfl ⟨by omega, by omega⟩ hf hd rfl hro
    · skip
      exact jr_U C (c_3_countW hk h2 h3) uw_10_85_8 (by omega) (gg_laneW hk h2 h3) rfl rfl ⟨by omega, by omega⟩ hf hd rfl hro
theorem jv_has {x : Int32} {k : Nat} (C : CX p s m args meth c RX10 cc nL ret D K Ax) (hd : decode cc pc = .ok (.invokevirtual 107, 3)) (hk : k < 20)  (hR : 2 ≤ R.frames ∧ 49 ≤ R.locals) (hf : cs ≤ R.cells ∧ sl ≤ R.slots) (hro : (rest.map fun v => v.category).sum ≤ 8) : JRun p l e R s m args below meth c nL D Ax K A I U P cs sl pc lv (.int x :: .ref (A (4 + 2 * k)) :: rest) rest (XE (some (.int (bI (inR (I (4 + 2 * k) 0) x)))) I U P) := by
  obtain ⟨hR1, hR2⟩ := hR
  by_cases h2 : k % 5 = 2
  · skip
    exact jr_U C (c_3_hasT hk h2) uw_10_107_6 (by omega) (gg_laneT hk h2) rfl rfl ⟨by omega, by omega⟩ hf hd rfl hro
  · by_cases h3 : k % 5 = 3
    · skip
      exact jr_U C (c_3_hasL hk h3) uw_10_107_4 (by omega) (gg_laneL hk h3) rfl rfl ⟨by omega, by omega⟩ hf hd rfl hro
    · skip
      exact jr_U C (c_3_hasW hk h2 h3) uw_10_107_8 (by omega) (gg_laneW hk h2 h3) rfl rfl ⟨by omega, by omega⟩ hf hd rfl hro
theorem jv_tells {i : Nat} {k : Nat} (C : CX p s m args meth c RX10 cc nL ret D K Ax) (hd : decode cc pc = .ok (.invokevirtual 110, 3)) (hk : k < 20) (hi : i < 24) (ok : okE I U k i) (hR : 2 ≤ R.frames ∧ 49 ≤ R.locals) (hf : cs ≤ R.cells ∧ sl ≤ R.slots) (hro : (rest.map fun v => v.category).sum ≤ 8) : JRun p l e R s m args below meth c nL D Ax K A I U P cs sl pc lv (.int (nI i) :: .ref (A (4 + 2 * k)) :: rest) rest (XE (some (.int (tl I U k i))) I U P) := by
  obtain ⟨hR1, hR2⟩ := hR
  by_cases h2 : k % 5 = 2
  · rw [tl, if_pos h2]
    exact jr_U C (c_7_tells hi (ok.2 h2) hk h2) uw_10_110_6 (by omega) (gg_laneT hk h2) rfl rfl ⟨by omega, by omega⟩ hf hd rfl hro
  · by_cases h3 : k % 5 = 3
    · rw [tl, if_neg h2]
      exact jr_U C (c_5_tells hi (ok.1 h3) hk h3) uw_10_110_4 (by omega) (gg_laneL hk h3) rfl rfl ⟨by omega, by omega⟩ hf hd rfl hro
    · rw [tl, if_neg h2]
      exact jr_U C (c_9_tells hi hk h2 h3) uw_10_110_8 (by omega) (gg_laneW hk h2 h3) rfl rfl ⟨by omega, by omega⟩ hf hd rfl hro
theorem jv_lay {i : Nat} {v : Int32} {k : Nat} (C : CX p s m args meth c RX10 cc nL ret D K Ax) (hd : decode cc pc = .ok (.invokevirtual 195, 3)) (hk : k < 20) (hi : i < 24) (hR : 2 ≤ R.frames ∧ 49 ≤ R.locals) (hf : cs ≤ R.cells ∧ sl ≤ R.slots) (hro : (rest.map fun v => v.category).sum ≤ 8) : JRun p l e R s m args below meth c nL D Ax K A I U P cs sl pc lv (.int v :: .int (nI i) :: .ref (A (4 + 2 * k)) :: rest) rest (XE none (laI k i (cutTo (k % 5) v) I) (laU k i (fHo (f8 v)) U) P) := by
  obtain ⟨hR1, hR2⟩ := hR
  by_cases h2 : k % 5 = 2
  · rw [laI, laU, if_pos h2, if_pos h2]
    exact jr_U C (c_7_lay hi hk h2) uw_10_195_6 (by omega) (gg_laneT hk h2) rfl rfl ⟨by omega, by omega⟩ hf hd rfl hro
  · by_cases h3 : k % 5 = 3
    · rw [laI, laU, if_neg h2, if_neg h2, h3, show cutTo 3 v = v &&& 1 from rfl]
      exact jr_U C (c_5_lay hi hk h3) uw_10_195_4 (by omega) (gg_laneL hk h3) rfl rfl ⟨by omega, by omega⟩ hf hd rfl hro
    · rw [laI, laU, if_neg h2, if_neg h2]
      exact jr_U C (c_9_lay hi hk h2 h3) uw_10_195_8 (by omega) (gg_laneW hk h2 h3) rfl rfl ⟨by omega, by omega⟩ hf hd rfl hro
theorem jv_pull {i : Nat} {v : Int32} {k : Nat} (C : CX p s m args meth c RX10 cc nL ret D K Ax) (hd : decode cc pc = .ok (.invokevirtual 198, 3)) (hk : k < 20) (hi : i < 24) (ok : okE I U k i) (hR : 2 ≤ R.frames ∧ 49 ≤ R.locals) (hf : cs ≤ R.cells ∧ sl ≤ R.slots) (hro : (rest.map fun v => v.category).sum ≤ 8) : JRun p l e R s m args below meth c nL D Ax K A I U P cs sl pc lv (.int v :: .int (nI i) :: .ref (A (4 + 2 * k)) :: rest) rest (XE none (laI k i (vPull (k % 5) (I (5 + 2 * k) i) v) I) (laU k i (fHo (FP.fadd (U (5 + 2 * k) i) (f8 v))) U) P) := by
  obtain ⟨hR1, hR2⟩ := hR
  by_cases h2 : k % 5 = 2
  · rw [laI, laU, if_pos h2, if_pos h2]
    exact jr_U C (c_7_pull hi (ok.2 h2) hk h2) uw_10_198_6 (by omega) (gg_laneT hk h2) rfl rfl ⟨by omega, by omega⟩ hf hd rfl hro
  · by_cases h3 : k % 5 = 3
    · rw [laI, laU, if_neg h2, if_neg h2, vPull, if_pos h3]
      exact jr_U C (c_5_pull hi (ok.1 h3) hk h3) uw_10_198_4 (by omega) (gg_laneL hk h3) rfl rfl ⟨by omega, by omega⟩ hf hd rfl hro
    · rw [laI, laU, if_neg h2, if_neg h2, vPull, if_neg h3]
      exact jr_U C (c_9_pull hi hk h2 h3) uw_10_198_8 (by omega) (gg_laneW hk h2 h3) rfl rfl ⟨by omega, by omega⟩ hf hd rfl hro
theorem jv_turn {i : Nat} {k : Nat} (C : CX p s m args meth c RX10 cc nL ret D K Ax) (hd : decode cc pc = .ok (.invokevirtual 201, 3)) (hk : k < 20) (hi : i < 24) (ok : okE I U k i) (hR : 2 ≤ R.frames ∧ 49 ≤ R.locals) (hf : cs ≤ R.cells ∧ sl ≤ R.slots) (hro : (rest.map fun v => v.category).sum ≤ 8) : JRun p l e R s m args below meth c nL D Ax K A I U P cs sl pc lv (.int (nI i) :: .ref (A (4 + 2 * k)) :: rest) rest (XE none (laI k i (vPull (k % 5) (I (5 + 2 * k) i) 1) I) (laU k i (fHo (FP.fadd (U (5 + 2 * k) i) (f8 8))) U) P) := by
  obtain ⟨hR1, hR2⟩ := hR
  by_cases h2 : k % 5 = 2
  · rw [laI, laU, if_pos h2, if_pos h2]
    exact jr_U C (c_7_turn hi (ok.2 h2) hk h2) uw_10_201_6 (by omega) (gg_laneT hk h2) rfl rfl ⟨by omega, by omega⟩ hf hd rfl hro
  · by_cases h3 : k % 5 = 3
    · rw [laI, laU, if_neg h2, if_neg h2, vPull, if_pos h3]
      exact jr_U C (c_5_turn hi (ok.1 h3) hk h3) uw_10_201_4 (by omega) (gg_laneL hk h3) rfl rfl ⟨by omega, by omega⟩ hf hd rfl hro
    · rw [laI, laU, if_neg h2, if_neg h2, vPull, if_neg h3]
      exact jr_U C (c_9_turn hi hk h2 h3) uw_10_201_8 (by omega) (gg_laneW hk h2 h3) rfl rfl ⟨by omega, by omega⟩ hf hd rfl hro
theorem jv_part {i : Nat} {v : Int32} {k : Nat} (C : CX p s m args meth c RX10 cc nL ret D K Ax) (hd : decode cc pc = .ok (.invokevirtual 204, 3)) (hk : k < 20) (hi : i < 24) (ok : okE I U k i) (hv : ¬ v = 0 ∨ k % 5 = 3) (hR : 2 ≤ R.frames ∧ 49 ≤ R.locals) (hf : cs ≤ R.cells ∧ sl ≤ R.slots) (hro : (rest.map fun v => v.category).sum ≤ 8) : JRun p l e R s m args below meth c nL D Ax K A I U P cs sl pc lv (.int v :: .int (nI i) :: .ref (A (4 + 2 * k)) :: rest) rest (XE (some (.int 1)) (laI k i (vPart (k % 5) (I (5 + 2 * k) i) v) I) (laU k i (fHo (FP.fdiv (U (5 + 2 * k) i) (FP.i2f v))) U) P) := by
  obtain ⟨hR1, hR2⟩ := hR
  by_cases h2 : k % 5 = 2
  · rw [laI, laU, if_pos h2, if_pos h2]
    exact jr_U C (c_7_part (hv.resolve_right (by omega)) hi (ok.2 h2) hk h2) uw_10_204_6 (by omega) (gg_laneT hk h2) rfl rfl ⟨by omega, by omega⟩ hf hd rfl hro
  · by_cases h3 : k % 5 = 3
    · rw [laI, laU, if_neg h2, if_neg h2, vPart, if_pos h3]
      exact jr_U C (c_5_part hi (ok.1 h3) hk h3) uw_10_204_4 (by omega) (gg_laneL hk h3) rfl rfl ⟨by omega, by omega⟩ hf hd rfl hro
    · rw [laI, laU, if_neg h2, if_neg h2, vPart, if_neg h3, part_div]
      exact jr_U C (c_9_part (hv.resolve_right h3) hi hk h2 h3) uw_10_204_8 (by omega) (gg_laneW hk h2 h3) rfl rfl ⟨by omega, by omega⟩ hf hd rfl hro
theorem jv_part0 {x : Int32} {k : Nat} (C : CX p s m args meth c RX10 cc nL ret D K Ax) (hd : decode cc pc = .ok (.invokevirtual 204, 3)) (hk : k < 20) (h3 : ¬ k % 5 = 3) (hR : 2 ≤ R.frames ∧ 49 ≤ R.locals) (hf : cs ≤ R.cells ∧ sl ≤ R.slots) (hro : (rest.map fun v => v.category).sum ≤ 8) : JRun p l e R s m args below meth c nL D Ax K A I U P cs sl pc lv (.int 0 :: .int x :: .ref (A (4 + 2 * k)) :: rest) rest (XE (some (.int 0)) I U P) := by
  obtain ⟨hR1, hR2⟩ := hR
  by_cases h2 : k % 5 = 2
  · skip
    exact jr_U C (c_7_part0 hk h2) uw_10_204_6 (by omega) (gg_laneT hk h2) rfl rfl ⟨by omega, by omega⟩ hf hd rfl hro
  · exact jr_U C (c_9_part0 hk h2 h3) uw_10_204_8 (by omega) (gg_laneW hk h2 h3) rfl rfl ⟨by omega, by omega⟩ hf hd rfl hro
theorem jv_exchange {i j : Nat} {k : Nat} (C : CX p s m args meth c RX10 cc nL ret D K Ax) (hd : decode cc pc = .ok (.invokevirtual 113, 3)) (hk : k < 20) (hi : i < 24) (hj : j < 24) (ok : okE I U k i) (ok2 : okE I U k j) (hR : 2 ≤ R.frames ∧ 49 ≤ R.locals) (hf : cs ≤ R.cells ∧ sl ≤ R.slots) (hro : (rest.map fun v => v.category).sum ≤ 8) : JRun p l e R s m args below meth c nL D Ax K A I U P cs sl pc lv (.int (nI j) :: .int (nI i) :: .ref (A (4 + 2 * k)) :: rest) rest (XE none (swI k i j I) (swU k i j U) P) := by
  obtain ⟨hR1, hR2⟩ := hR
  by_cases h2 : k % 5 = 2
  · rw [swI, swU, if_pos h2, if_pos h2]
    exact jr_U C (c_7_exchange hi hj hk h2) uw_10_113_6 (by omega) (gg_laneT hk h2) rfl rfl ⟨by omega, by omega⟩ hf hd rfl hro
  · by_cases h3 : k % 5 = 3
    · rw [swI, swU, if_neg h2, if_neg h2]
      exact jr_U C (c_5_exchange hi hj (ok.1 h3) (ok2.1 h3) hk h3) uw_10_113_4 (by omega) (gg_laneL hk h3) rfl rfl ⟨by omega, by omega⟩ hf hd rfl hro
    · rw [swI, swU, if_neg h2, if_neg h2]
      exact jr_U C (c_9_exchange hi hj hk h2 h3) uw_10_113_8 (by omega) (gg_laneW hk h2 h3) rfl rfl ⟨by omega, by omega⟩ hf hd rfl hro
theorem jv_reset {i : Nat} {k : Nat} (C : CX p s m args meth c RX3 cc nL ret D K Ax) (hd : decode cc pc = .ok (.invokevirtual 15, 3)) (hk : k < 20) (hi : i < 24) (hR : 2 ≤ R.frames ∧ 49 ≤ R.locals) (hf : cs ≤ R.cells ∧ sl ≤ R.slots) (hro : (rest.map fun v => v.category).sum ≤ 8) : JRun p l e R s m args below meth c nL D Ax K A I U P cs sl pc lv (.int (nI i) :: .ref (A (4 + 2 * k)) :: rest) rest (XE none (laI k i 0 I) (laU k i FP.fconst0 U) P) := by
  obtain ⟨hR1, hR2⟩ := hR
  by_cases h2 : k % 5 = 2
  · rw [laI, laU, if_pos h2, if_pos h2]
    exact jr_U C (c_7_reset hi hk h2) uw_3_15_6 (by omega) (gg_laneT hk h2) rfl rfl ⟨by omega, by omega⟩ hf hd rfl hro
  · by_cases h3 : k % 5 = 3
    · rw [laI, laU, if_neg h2, if_neg h2]
      exact jr_U C (c_5_reset hi hk h3) uw_3_15_4 (by omega) (gg_laneL hk h3) rfl rfl ⟨by omega, by omega⟩ hf hd rfl hro
    · rw [laI, laU, if_neg h2, if_neg h2]
      exact jr_U C (c_9_reset hi hk h2 h3) uw_3_15_8 (by omega) (gg_laneW hk h2 h3) rfl rfl ⟨by omega, by omega⟩ hf hd rfl hro
end CALLR
/-- a lane threaded anew with n ends: u of them are reset -/
def rsJ (k n u : Nat) (I : TI) : TI := fun a b => if a = 4 + 2 * k ∧ b = 0 then nI n else if ¬ k % 5 = 2 ∧ a = 5 + 2 * k ∧ b < u then 0 else I a b
def rsV (k u : Nat) (U : TU) : TU := fun a b => if k % 5 = 2 ∧ a = 5 + 2 * k ∧ b < u then FP.fconst0 else U a b
theorem rsJ_c {k n u : Nat} {I : TI} : rsJ k n u I (4 + 2 * k) 0 = nI n := by simp [rsJ]
theorem rsJ_0 {k n : Nat} {I : TI} : up2 I (4 + 2 * k) 0 (nI n) = rsJ k n 0 I := by
  funext a b
  simp [up2, rsJ]
theorem rsV_0 {k : Nat} {U : TU} : rsV k 0 U = U := by
  funext a b
  simp [rsV]
theorem rsJ_s {k n u : Nat} {I : TI} : laI k u 0 (rsJ k n u I) = rsJ k n (u + 1) I := by
  unfold laI
  split
  · next h => funext a b; simp [rsJ, h]
  · next h =>
    funext a b
    simp only [up2, rsJ]
    by_cases h1 : a = 5 + 2 * k
    · subst h1
      rw [if_neg (show ¬ (5 + 2 * k = 4 + 2 * k ∧ b = 0) by omega), if_neg (show ¬ (5 + 2 * k = 4 + 2 * k ∧ b = 0) by omega)]
      by_cases hb : b = u
      · subst hb; simp [h]
      · by_cases hb2 : b < u
        · simp [h, hb, hb2, show b < u + 1 by omega]
        · simp [h, hb, hb2, show ¬ b < u + 1 by omega]
    · simp [h1]
theorem rsV_s {k u : Nat} {U : TU} : laU k u FP.fconst0 (rsV k u U) = rsV k (u + 1) U := by
  unfold laU
  split
  · next h =>
    funext a b
    simp only [up2, rsV]
    by_cases h1 : a = 5 + 2 * k
    · subst h1
      by_cases hb : b = u
      · subst hb; simp [h]
      · by_cases hb2 : b < u
        · simp [h, hb, hb2, show b < u + 1 by omega]
        · simp [h, hb, hb2, show ¬ b < u + 1 by omega]
    · simp [h1]
  · next h => funext a b; simp [rsV, h]
set_option maxRecDepth 100000 in
set_option maxHeartbeats 4000000 in
theorem lp_3_restretchW {p : Program} {l : Launch} {e : Env} {R : Room} {s : State} {m : MethodId} {args : Array Value} {below : List Frame} {meth : Method} {c : Code} {D : va_G} {K : Nat → ClassId} {A : Nat → Nat} {Ax : Nat → Prop} {Q : State → Prop} {P : TP} {I : TI} {U : TU} {k n : Nat} (C : CX p s m args meth c RX3 cX3_restretch 3 none D K Ax) (hk : k < 20) (h2 : ¬ k % 5 = 2) (h3 : ¬ k % 5 = 3) (hn : n ≤ 24) (hR : 2 ≤ R.frames ∧ 49 ≤ R.locals) (hz : GJ p l e R s m args below meth c 3 D Ax Q 75 A (gg A K (rsJ k n n I) (rsV k n U) (P)) 0 0 40 [some (.ref (A (4 + 2 * k))), some (.int (nI n)), some (.int (nI (n)))] []) : ∀ f u : Nat, u + f = n → GJ p l e R s m args below meth c 3 D Ax Q 75 A (gg A K (rsJ k n u I) (rsV k u U) (P)) 0 0 21 [some (.ref (A (4 + 2 * k))), some (.int (nI n)), some (.int (nI (u)))] [] := by
  intro f
  induction f with
  | zero =>
    intro u hu
    obtain rfl : u = n := by omega
    refine jx_iload_n C dX3_restretch_21 rfl ?_
    refine jx_aload_n C dX3_restretch_22 rfl ?_
    refine jx_get C fl_3_9_8 dX3_restretch_23 (by omega) (gg_laneW hk h2 h3) rfl ?_
    rw [rsJ_c]
    refine jx_ic_geT (tgt := 40) C dX3_restretch_26 (by decide) (nI_le (Nat.le_refl _) (by omega)) ?_
    exact hz
  | succ f ih =>
    intro u hu
    refine jx_iload_n C dX3_restretch_21 rfl ?_
    refine jx_aload_n C dX3_restretch_22 rfl ?_
    refine jx_get C fl_3_9_8 dX3_restretch_23 (by omega) (gg_laneW hk h2 h3) rfl ?_
    rw [rsJ_c]
    refine jx_ic_geF (tgt := 40) C dX3_restretch_26 (nI_ge (by omega) (by omega)) (by decide) ?_
    refine jx_aload_n C dX3_restretch_29 rfl ?_
    refine jx_iload_n C dX3_restretch_30 rfl ?_
    refine jx_void C (jv_reset C dX3_restretch_31 hk (by omega) hR ⟨Nat.zero_le _, Nat.zero_le _⟩ (Nat.le_of_ble_eq_true rfl)) ?_
    rw [rsJ_s, rsV_s]
    refine jx_iinc (lv1 := [_, _, _]) C dX3_restretch_34 rfl (nI_1 u) rfl ?_
    refine jx_goto (tgt := 21) C dX3_restretch_37 (by decide) ?_
    exact ih (u + 1) (by omega)
set_option maxRecDepth 100000 in
set_option maxHeartbeats 4000000 in
theorem c_3_restretchW {l : Launch} {D : va_G} {K : Nat → ClassId} {A : Nat → Nat} {I : TI} {U : TU} {P : TP} {k n : Nat} (hk : k < 20) (hn : n ≤ 24) (h2 : ¬ k % 5 = 2) (h3 : ¬ k % 5 = 3) : MM l yX3_restretch cX3_restretch 3 none 2 D K A (I) (U) (P) [.ref (A (4 + 2 * k)), .int (nI n)] (XE none (rsJ k n n I) (rsV k n U) P) := by
  refine MM.go (own := RX3) (lv0 := [some (.ref (A (4 + 2 * k))), some (.int (nI n)), none]) rfl (by decide) rfl (Nat.le_of_ble_eq_true rfl) rfl ?_
  intro p e s m args below meth c C
  refine jx_aload_n C dX3_restretch_0 rfl ?_
  refine jx_iload_n C dX3_restretch_1 rfl ?_
  refine jx_if_ltF (tgt := 15) C dX3_restretch_2 (nI_pos (by omega)) (by decide) ?_
  refine jx_iload_n C dX3_restretch_5 rfl ?_
  refine jx_bipush (v := 24) C dX3_restretch_6 (by decide) ?_
  refine jx_ic_gtF (tgt := 15) C dX3_restretch_8 (nI_nlt (a := 24) (b := n) (by omega) (by decide)) (by decide) ?_
  refine jx_iload_n C dX3_restretch_11 rfl ?_
  refine jx_goto (tgt := 16) C dX3_restretch_12 (by decide) ?_
  refine jx_putI C fp_3_9_8 dX3_restretch_16 (by omega) (gg_laneW hk h2 h3) (Nat.le_of_ble_eq_true rfl) (by rw [gg_laneW hk h2 h3]; simp [up2]) ?_
  refine jx_iconst (v := 0) C dX3_restretch_19 (by decide) ?_
  refine jx_istore_n (lv1 := [_, _, _]) C dX3_restretch_20 (by decide) rfl ?_
  rw [rsJ_0]
  have e0 := lp_3_restretchW (U := U) (I := I) (P := P) (l := l) (e := e) (R := rmd 2) (A := A) (below := below) (Q := MQX below D K A args s (XE none (rsJ k n n I) (rsV k n U) P)) C hk h2 h3 hn ⟨by decide, by decide⟩ (jx_vret C dX3_restretch_40 ⟨rfl, rfl, rfl, rfl⟩) n 0 (by omega)
  rw [rsV_0] at e0
  exact e0
set_option maxRecDepth 100000 in
set_option maxHeartbeats 4000000 in
theorem lp_3_restretchT {p : Program} {l : Launch} {e : Env} {R : Room} {s : State} {m : MethodId} {args : Array Value} {below : List Frame} {meth : Method} {c : Code} {D : va_G} {K : Nat → ClassId} {A : Nat → Nat} {Ax : Nat → Prop} {Q : State → Prop} {P : TP} {I : TI} {U : TU} {k n : Nat} (C : CX p s m args meth c RX3 cX3_restretch 3 none D K Ax) (hk : k < 20) (h2 : k % 5 = 2) (hn : n ≤ 24) (hR : 2 ≤ R.frames ∧ 49 ≤ R.locals) (hz : GJ p l e R s m args below meth c 3 D Ax Q 75 A (gg A K (rsJ k n n I) (rsV k n U) (P)) 0 0 40 [some (.ref (A (4 + 2 * k))), some (.int (nI n)), some (.int (nI (n)))] []) : ∀ f u : Nat, u + f = n → GJ p l e R s m args below meth c 3 D Ax Q 75 A (gg A K (rsJ k n u I) (rsV k u U) (P)) 0 0 21 [some (.ref (A (4 + 2 * k))), some (.int (nI n)), some (.int (nI (u)))] [] := by
  intro f
  induction f with
  | zero =>
    intro u hu
    obtain rfl : u = n := by omega
    refine jx_iload_n C dX3_restretch_21 rfl ?_
    refine jx_aload_n C dX3_restretch_22 rfl ?_
    refine jx_get C fl_3_9_6 dX3_restretch_23 (by omega) (gg_laneT hk h2) rfl ?_
    rw [rsJ_c]
    refine jx_ic_geT (tgt := 40) C dX3_restretch_26 (by decide) (nI_le (Nat.le_refl _) (by omega)) ?_
    exact hz
  | succ f ih =>
    intro u hu
    refine jx_iload_n C dX3_restretch_21 rfl ?_
    refine jx_aload_n C dX3_restretch_22 rfl ?_
    refine jx_get C fl_3_9_6 dX3_restretch_23 (by omega) (gg_laneT hk h2) rfl ?_
    rw [rsJ_c]
    refine jx_ic_geF (tgt := 40) C dX3_restretch_26 (nI_ge (by omega) (by omega)) (by decide) ?_
    refine jx_aload_n C dX3_restretch_29 rfl ?_
    refine jx_iload_n C dX3_restretch_30 rfl ?_
    refine jx_void C (jv_reset C dX3_restretch_31 hk (by omega) hR ⟨Nat.zero_le _, Nat.zero_le _⟩ (Nat.le_of_ble_eq_true rfl)) ?_
    rw [rsJ_s, rsV_s]
    refine jx_iinc (lv1 := [_, _, _]) C dX3_restretch_34 rfl (nI_1 u) rfl ?_
    refine jx_goto (tgt := 21) C dX3_restretch_37 (by decide) ?_
    exact ih (u + 1) (by omega)
set_option maxRecDepth 100000 in
set_option maxHeartbeats 4000000 in
theorem c_3_restretchT {l : Launch} {D : va_G} {K : Nat → ClassId} {A : Nat → Nat} {I : TI} {U : TU} {P : TP} {k n : Nat} (hk : k < 20) (hn : n ≤ 24) (h2 : k % 5 = 2) : MM l yX3_restretch cX3_restretch 3 none 2 D K A (I) (U) (P) [.ref (A (4 + 2 * k)), .int (nI n)] (XE none (rsJ k n n I) (rsV k n U) P) := by
  refine MM.go (own := RX3) (lv0 := [some (.ref (A (4 + 2 * k))), some (.int (nI n)), none]) rfl (by decide) rfl (Nat.le_of_ble_eq_true rfl) rfl ?_
  intro p e s m args below meth c C
  refine jx_aload_n C dX3_restretch_0 rfl ?_
  refine jx_iload_n C dX3_restretch_1 rfl ?_
  refine jx_if_ltF (tgt := 15) C dX3_restretch_2 (nI_pos (by omega)) (by decide) ?_
  refine jx_iload_n C dX3_restretch_5 rfl ?_
  refine jx_bipush (v := 24) C dX3_restretch_6 (by decide) ?_
  refine jx_ic_gtF (tgt := 15) C dX3_restretch_8 (nI_nlt (a := 24) (b := n) (by omega) (by decide)) (by decide) ?_
  refine jx_iload_n C dX3_restretch_11 rfl ?_
  refine jx_goto (tgt := 16) C dX3_restretch_12 (by decide) ?_
  refine jx_putI C fp_3_9_6 dX3_restretch_16 (by omega) (gg_laneT hk h2) (Nat.le_of_ble_eq_true rfl) (by rw [gg_laneT hk h2]; simp [up2]) ?_
  refine jx_iconst (v := 0) C dX3_restretch_19 (by decide) ?_
  refine jx_istore_n (lv1 := [_, _, _]) C dX3_restretch_20 (by decide) rfl ?_
  rw [rsJ_0]
  have e0 := lp_3_restretchT (U := U) (I := I) (P := P) (l := l) (e := e) (R := rmd 2) (A := A) (below := below) (Q := MQX below D K A args s (XE none (rsJ k n n I) (rsV k n U) P)) C hk h2 hn ⟨by decide, by decide⟩ (jx_vret C dX3_restretch_40 ⟨rfl, rfl, rfl, rfl⟩) n 0 (by omega)
  rw [rsV_0] at e0
  exact e0
set_option maxRecDepth 100000 in
set_option maxHeartbeats 4000000 in
theorem lp_3_restretchL {p : Program} {l : Launch} {e : Env} {R : Room} {s : State} {m : MethodId} {args : Array Value} {below : List Frame} {meth : Method} {c : Code} {D : va_G} {K : Nat → ClassId} {A : Nat → Nat} {Ax : Nat → Prop} {Q : State → Prop} {P : TP} {I : TI} {U : TU} {k n : Nat} (C : CX p s m args meth c RX3 cX3_restretch 3 none D K Ax) (hk : k < 20) (h3 : k % 5 = 3) (hn : n ≤ 24) (hR : 2 ≤ R.frames ∧ 49 ≤ R.locals) (hz : GJ p l e R s m args below meth c 3 D Ax Q 75 A (gg A K (rsJ k n n I) (rsV k n U) (P)) 0 0 40 [some (.ref (A (4 + 2 * k))), some (.int (nI n)), some (.int (nI (n)))] []) : ∀ f u : Nat, u + f = n → GJ p l e R s m args below meth c 3 D Ax Q 75 A (gg A K (rsJ k n u I) (rsV k u U) (P)) 0 0 21 [some (.ref (A (4 + 2 * k))), some (.int (nI n)), some (.int (nI (u)))] [] := by
  intro f
  induction f with
  | zero =>
    intro u hu
    obtain rfl : u = n := by omega
    refine jx_iload_n C dX3_restretch_21 rfl ?_
    refine jx_aload_n C dX3_restretch_22 rfl ?_
    refine jx_get C fl_3_9_4 dX3_restretch_23 (by omega) (gg_laneL hk h3) rfl ?_
    rw [rsJ_c]
    refine jx_ic_geT (tgt := 40) C dX3_restretch_26 (by decide) (nI_le (Nat.le_refl _) (by omega)) ?_
    exact hz
  | succ f ih =>
    intro u hu
    refine jx_iload_n C dX3_restretch_21 rfl ?_
    refine jx_aload_n C dX3_restretch_22 rfl ?_
    refine jx_get C fl_3_9_4 dX3_restretch_23 (by omega) (gg_laneL hk h3) rfl ?_
    rw [rsJ_c]
    refine jx_ic_geF (tgt := 40) C dX3_restretch_26 (nI_ge (by omega) (by omega)) (by decide) ?_
    refine jx_aload_n C dX3_restretch_29 rfl ?_
    refine jx_iload_n C dX3_restretch_30 rfl ?_
    refine jx_void C (jv_reset C dX3_restretch_31 hk (by omega) hR ⟨Nat.zero_le _, Nat.zero_le _⟩ (Nat.le_of_ble_eq_true rfl)) ?_
    rw [rsJ_s, rsV_s]
    refine jx_iinc (lv1 := [_, _, _]) C dX3_restretch_34 rfl (nI_1 u) rfl ?_
    refine jx_goto (tgt := 21) C dX3_restretch_37 (by decide) ?_
    exact ih (u + 1) (by omega)
set_option maxRecDepth 100000 in
set_option maxHeartbeats 4000000 in
theorem c_3_restretchL {l : Launch} {D : va_G} {K : Nat → ClassId} {A : Nat → Nat} {I : TI} {U : TU} {P : TP} {k n : Nat} (hk : k < 20) (hn : n ≤ 24) (h3 : k % 5 = 3) : MM l yX3_restretch cX3_restretch 3 none 2 D K A (I) (U) (P) [.ref (A (4 + 2 * k)), .int (nI n)] (XE none (rsJ k n n I) (rsV k n U) P) := by
  refine MM.go (own := RX3) (lv0 := [some (.ref (A (4 + 2 * k))), some (.int (nI n)), none]) rfl (by decide) rfl (Nat.le_of_ble_eq_true rfl) rfl ?_
  intro p e s m args below meth c C
  refine jx_aload_n C dX3_restretch_0 rfl ?_
  refine jx_iload_n C dX3_restretch_1 rfl ?_
  refine jx_if_ltF (tgt := 15) C dX3_restretch_2 (nI_pos (by omega)) (by decide) ?_
  refine jx_iload_n C dX3_restretch_5 rfl ?_
  refine jx_bipush (v := 24) C dX3_restretch_6 (by decide) ?_
  refine jx_ic_gtF (tgt := 15) C dX3_restretch_8 (nI_nlt (a := 24) (b := n) (by omega) (by decide)) (by decide) ?_
  refine jx_iload_n C dX3_restretch_11 rfl ?_
  refine jx_goto (tgt := 16) C dX3_restretch_12 (by decide) ?_
  refine jx_putI C fp_3_9_4 dX3_restretch_16 (by omega) (gg_laneL hk h3) (Nat.le_of_ble_eq_true rfl) (by rw [gg_laneL hk h3]; simp [up2]) ?_
  refine jx_iconst (v := 0) C dX3_restretch_19 (by decide) ?_
  refine jx_istore_n (lv1 := [_, _, _]) C dX3_restretch_20 (by decide) rfl ?_
  rw [rsJ_0]
  have e0 := lp_3_restretchL (U := U) (I := I) (P := P) (l := l) (e := e) (R := rmd 2) (A := A) (below := below) (Q := MQX below D K A args s (XE none (rsJ k n n I) (rsV k n U) P)) C hk h3 hn ⟨by decide, by decide⟩ (jx_vret C dX3_restretch_40 ⟨rfl, rfl, rfl, rfl⟩) n 0 (by omega)
  rw [rsV_0] at e0
  exact e0
section CALLR2
variable {p : Program} {l : Launch} {e : Env} {R : Room} {s : State} {m : MethodId} {args : Array Value} {below : List Frame} {meth : Method} {c : Code} {nL : Nat} {D : va_G} {Ax : Nat → Prop} {Q : State → Prop} {cs sl pc : Nat} {lv : List (Option Value)} {st rest : List Value} {own : String} {cc : ByteArray} {ret : Option FieldType} {K : Nat → ClassId} {A : Nat → Nat} {I : TI} {U : TU} {P : TP}
theorem jv_restretch {n : Nat} {k : Nat} (C : CX p s m args meth c RX8 cc nL ret D K Ax) (hd : decode cc pc = .ok (.invokevirtual 58, 3)) (hk : k < 20) (hn : n ≤ 24) (hR : 3 ≤ R.frames ∧ 75 ≤ R.locals) (hf : cs ≤ R.cells ∧ sl ≤ R.slots) (hro : (rest.map fun v => v.category).sum ≤ 8) : JRun p l e R s m args below meth c nL D Ax K A I U P cs sl pc lv (.int (nI n) :: .ref (A (4 + 2 * k)) :: rest) rest (XE none (rsJ k n n I) (rsV k n U) P) := by
  obtain ⟨hR1, hR2⟩ := hR
  by_cases h2 : k % 5 = 2
  · skip
    exact jr_U C (c_3_restretchT hk hn h2) uw_8_58_6 (by omega) (gg_laneT hk h2) rfl rfl ⟨by omega, by omega⟩ hf hd rfl hro
  · by_cases h3 : k % 5 = 3
    · skip
      exact jr_U C (c_3_restretchL hk hn h3) uw_8_58_4 (by omega) (gg_laneL hk h3) rfl rfl ⟨by omega, by omega⟩ hf hd rfl hro
    · skip
      exact jr_U C (c_3_restretchW hk hn h2 h3) uw_8_58_8 (by omega) (gg_laneW hk h2 h3) rfl rfl ⟨by omega, by omega⟩ hf hd rfl hro
end CALLR2
theorem pl5 (a b : Nat) : nI a * 5 + nI b = nI (5 * a + b) := by
  rw [show (5 : Int32) = nI 5 from rfl, pk_mul, nI_add, Nat.mul_comm]
/-- the address of a lane, or null -/
abbrev lnV (A : Nat → Nat) (r : Option Nat) : Value := va_rf (r.map (fun k => A (4 + 2 * k)))
theorem lnV_or {A : Nat → Nat} {r : Option Nat} : lnV A r = .null ∨ ∃ a, lnV A r = .ref a := va_rf_or _
/-- the lanes that the places have are lanes -/
def okP (P : TP) : Prop := ∀ j k, j < 20 → P j = some k → k < 20 ∧ k % 5 = j % 5
abbrev heldBy (P : TP) (b k : Nat) : Prop := P (5 * 0 + b) = some k ∨ P (5 * 1 + b) = some k ∨ P (5 * 2 + b) = some k ∨ P (5 * 3 + b) = some k
theorem ln_eq {A : Nat → Nat} {P : TP} {j k : Nat} (inj : ∀ i j, i < 75 → j < 75 → A i = A j → i = j) (hP : okP P) (hj : j < 20) (hk : k < 20) : (P j).map (fun k => A (4 + 2 * k)) = some (A (4 + 2 * k)) ↔ P j = some k := by
  cases h : P j with
  | none => simp
  | some r =>
    have hr := (hP j r hj h).1
    simp only [Option.map_some, Option.some.injEq]
    constructor
    · intro q
      have := inj _ _ (by omega) (by omega) q
      omega
    · intro q
      rw [q]
theorem spare {P : TP} {a b : Nat} (ha : a < 4) (h : P (5 * a + b) = none) (h0 : heldBy P b (5 * 0 + b)) (h1 : heldBy P b (5 * 1 + b)) (h2 : heldBy P b (5 * 2 + b)) (h3 : heldBy P b (5 * 3 + b)) : False := by
  have key : ∀ (x0 x1 x2 x3 : Int), (x0 = -1 ∨ x1 = -1 ∨ x2 = -1 ∨ x3 = -1) → (x0 = 5 * 0 + b ∨ x1 = 5 * 0 + b ∨ x2 = 5 * 0 + b ∨ x3 = 5 * 0 + b) → (x0 = 5 * 1 + b ∨ x1 = 5 * 1 + b ∨ x2 = 5 * 1 + b ∨ x3 = 5 * 1 + b) → (x0 = 5 * 2 + b ∨ x1 = 5 * 2 + b ∨ x2 = 5 * 2 + b ∨ x3 = 5 * 2 + b) → (x0 = 5 * 3 + b ∨ x1 = 5 * 3 + b ∨ x2 = 5 * 3 + b ∨ x3 = 5 * 3 + b) → False := by
    intro x0 x1 x2 x3 e q0 q1 q2 q3
    rcases e with e | e | e | e <;> omega
  let f : Option Nat → Int := fun r => match r with
    | none => -1
    | some k => k
  have g : ∀ j k, P j = some k → f (P j) = (k : Int) := fun j k h => by rw [h]
  refine key (f (P (5 * 0 + b))) (f (P (5 * 1 + b))) (f (P (5 * 2 + b))) (f (P (5 * 3 + b))) ?_ ?_ ?_ ?_ ?_
  · have e : f (P (5 * a + b)) = -1 := by rw [h]
    rcases (show a = 0 ∨ a = 1 ∨ a = 2 ∨ a = 3 by omega) with rfl | rfl | rfl | rfl <;> simp only [e, true_or, or_true]
  · rcases h0 with q | q | q | q <;> have := g _ _ q <;> omega
  · rcases h1 with q | q | q | q <;> have := g _ _ q <;> omega
  · rcases h2 with q | q | q | q <;> have := g _ _ q <;> omega
  · rcases h3 with q | q | q | q <;> have := g _ _ q <;> omega
set_option maxRecDepth 100000 in
set_option maxHeartbeats 4000000 in
theorem c_8_laneAt {l : Launch} {D : va_G} {K : Nat → ClassId} {A : Nat → Nat} {I : TI} {U : TU} {P : TP} {a b : Nat} (ha : a < 4) (hb : b < 5) : MM l yX8_laneAt cX8_laneAt 3 (some (.object "HandLoom$Lane")) 2 D K A (I) (U) (P) [.ref (A 1), .int (nI a), .int (nI b)] (XE (some (lnV A (P (5 * a + b)))) I U P) := by
  refine MM.go (own := RX8) (lv0 := [some (.ref (A 1)), some (.int (nI a)), some (.int (nI b))]) rfl (by decide) rfl (Nat.le_of_ble_eq_true rfl) rfl ?_
  intro p e s m args below meth c C
  refine jx_iload_n C dX8_laneAt_0 rfl ?_
  refine jx_iload_n C dX8_laneAt_1 rfl ?_
  refine jx_one C (jr_S C (c_8_isLane) sw_8_39 rfl ⟨Nat.le_of_ble_eq_true rfl, Nat.le_of_ble_eq_true rfl⟩ ⟨Nat.le_of_ble_eq_true rfl, Nat.le_of_ble_eq_true rfl⟩ dX8_laneAt_2 rfl (Nat.le_of_ble_eq_true rfl)) ?_
  rw [bI_t ⟨inF_nI ha, inS_nI hb⟩]
  refine jx_if_eqF (tgt := 21) C dX8_laneAt_5 (by decide) (by decide) ?_
  refine jx_aload_n C dX8_laneAt_8 rfl ?_
  refine jx_get C fl_8_17_7 dX8_laneAt_9 (by decide) gg_1 rfl ?_
  refine jx_iload_n C dX8_laneAt_12 rfl ?_
  refine jx_iload_n C dX8_laneAt_13 rfl ?_
  refine jx_one C (jr_S C (c_8_place) sw_8_43 rfl ⟨Nat.le_of_ble_eq_true rfl, Nat.le_of_ble_eq_true rfl⟩ ⟨Nat.le_of_ble_eq_true rfl, Nat.le_of_ble_eq_true rfl⟩ dX8_laneAt_14 rfl (Nat.le_of_ble_eq_true rfl)) ?_
  refine jx_aald3 (5 * a + b) C dX8_laneAt_17 (by decide) gg_3 (pl5 a b) (by omega) (by decide) ?_
  refine jx_goto (tgt := 22) C dX8_laneAt_18 (by decide) ?_
  exact jx_aret C dX8_laneAt_22 lnV_or ⟨rfl, rfl, rfl, rfl⟩
set_option maxRecDepth 100000 in
set_option maxHeartbeats 4000000 in
theorem c_8_loosen {l : Launch} {D : va_G} {K : Nat → ClassId} {A : Nat → Nat} {I : TI} {U : TU} {P : TP} {a b : Nat} (ha : a < 4) (hb : b < 5) : MM l yX8_loosen cX8_loosen 3 none 2 D K A (I) (U) (P) [.ref (A 1), .int (nI a), .int (nI b)] (XE none I U (va_up P (5 * a + b) none)) := by
  refine MM.go (own := RX8) (lv0 := [some (.ref (A 1)), some (.int (nI a)), some (.int (nI b))]) rfl (by decide) rfl (Nat.le_of_ble_eq_true rfl) rfl ?_
  intro p e s m args below meth c C
  refine jx_iload_n C dX8_loosen_0 rfl ?_
  refine jx_iload_n C dX8_loosen_1 rfl ?_
  refine jx_one C (jr_S C (c_8_isLane) sw_8_39 rfl ⟨Nat.le_of_ble_eq_true rfl, Nat.le_of_ble_eq_true rfl⟩ ⟨Nat.le_of_ble_eq_true rfl, Nat.le_of_ble_eq_true rfl⟩ dX8_loosen_2 rfl (Nat.le_of_ble_eq_true rfl)) ?_
  rw [bI_t ⟨inF_nI ha, inS_nI hb⟩]
  refine jx_if_eqF (tgt := 19) C dX8_loosen_5 (by decide) (by decide) ?_
  refine jx_aload_n C dX8_loosen_8 rfl ?_
  refine jx_get C fl_8_17_7 dX8_loosen_9 (by decide) gg_1 rfl ?_
  refine jx_iload_n C dX8_loosen_12 rfl ?_
  refine jx_iload_n C dX8_loosen_13 rfl ?_
  refine jx_one C (jr_S C (c_8_place) sw_8_43 rfl ⟨Nat.le_of_ble_eq_true rfl, Nat.le_of_ble_eq_true rfl⟩ ⟨Nat.le_of_ble_eq_true rfl, Nat.le_of_ble_eq_true rfl⟩ dX8_loosen_14 rfl (Nat.le_of_ble_eq_true rfl)) ?_
  refine jx_null C dX8_loosen_17 ?_
  refine jx_lnN (5 * a + b) C dX8_loosen_18 (pl5 a b) (by omega) ?_
  exact jx_vret C dX8_loosen_19 ⟨rfl, rfl, rfl, rfl⟩
set_option maxRecDepth 100000 in
set_option maxHeartbeats 4000000 in
theorem c_8_join {l : Launch} {D : va_G} {K : Nat → ClassId} {A : Nat → Nat} {I : TI} {U : TU} {P : TP} {a b o : Nat} (ha : a < 4) (hb : b < 5) (ho : o < 4) (hP : okP P) : MM l yX8_join cX8_join 4 none 3 D K A (I) (U) (P) [.ref (A 1), .int (nI a), .int (nI b), .int (nI o)] (XE none I U (va_up P (5 * a + b) (P (5 * o + b)))) := by
  refine MM.go (own := RX8) (lv0 := [some (.ref (A 1)), some (.int (nI a)), some (.int (nI b)), some (.int (nI o))]) rfl (by decide) rfl (Nat.le_of_ble_eq_true rfl) rfl ?_
  intro p e s m args below meth c C
  refine jx_iload_n C dX8_join_0 rfl ?_
  refine jx_iload_n C dX8_join_1 rfl ?_
  refine jx_one C (jr_S C (c_8_isLane) sw_8_39 rfl ⟨Nat.le_of_ble_eq_true rfl, Nat.le_of_ble_eq_true rfl⟩ ⟨Nat.le_of_ble_eq_true rfl, Nat.le_of_ble_eq_true rfl⟩ dX8_join_2 rfl (Nat.le_of_ble_eq_true rfl)) ?_
  rw [bI_t ⟨inF_nI ha, inS_nI hb⟩]
  refine jx_if_eqF (tgt := 24) C dX8_join_5 (by decide) (by decide) ?_
  refine jx_aload_n C dX8_join_8 rfl ?_
  refine jx_get C fl_8_17_7 dX8_join_9 (by decide) gg_1 rfl ?_
  refine jx_iload_n C dX8_join_12 rfl ?_
  refine jx_iload_n C dX8_join_13 rfl ?_
  refine jx_one C (jr_S C (c_8_place) sw_8_43 rfl ⟨Nat.le_of_ble_eq_true rfl, Nat.le_of_ble_eq_true rfl⟩ ⟨Nat.le_of_ble_eq_true rfl, Nat.le_of_ble_eq_true rfl⟩ dX8_join_14 rfl (Nat.le_of_ble_eq_true rfl)) ?_
  refine jx_aload_n C dX8_join_17 rfl ?_
  refine jx_iload_n C dX8_join_18 rfl ?_
  refine jx_iload_n C dX8_join_19 rfl ?_
  refine jx_one C (jr_V C (c_8_laneAt ho hb) vw_8_47 (by decide) gg_1 rfl rfl ⟨Nat.le_of_ble_eq_true rfl, Nat.le_of_ble_eq_true rfl⟩ ⟨Nat.le_of_ble_eq_true rfl, Nat.le_of_ble_eq_true rfl⟩ dX8_join_20 rfl (Nat.le_of_ble_eq_true rfl)) ?_
  cases hx : P (5 * o + b) with
  | none =>
    refine jx_lnN (5 * a + b) C dX8_join_23 (pl5 a b) (by omega) ?_
    exact jx_vret C dX8_join_24 ⟨rfl, rfl, rfl, rfl⟩
  | some r =>
    refine jx_ln (k := r) (5 * a + b) C dX8_join_23 (hP _ _ (by omega) hx).1 (pl5 a b) (by omega) ?_
    exact jx_vret C dX8_join_24 ⟨rfl, rfl, rfl, rfl⟩
set_option maxRecDepth 100000 in
set_option maxHeartbeats 4000000 in
theorem c_8_isHeld {l : Launch} {D : va_G} {K : Nat → ClassId} {A : Nat → Nat} {I : TI} {U : TU} {P : TP} {b k : Nat} (hb : b < 5) (hk : k < 20) (hP : okP P) : MM l yX8_isHeld cX8_isHeld 4 (some .boolean) 1 D K A (I) (U) (P) [.ref (A 1), .ref (A (4 + 2 * k)), .int (nI b)] (XE (some (.int (bI (heldBy P b k)))) I U P) := by
  refine MM.go (own := RX8) (lv0 := [some (.ref (A 1)), some (.ref (A (4 + 2 * k))), some (.int (nI b)), none]) rfl (by decide) rfl (Nat.le_of_ble_eq_true rfl) rfl ?_
  intro p e s m args below meth c C
  refine jx_inj (fun inj => ?_)
  refine jx_iconst (v := 0) C dX8_isHeld_0 (by decide) ?_
  refine jx_istore_n (lv1 := [_, _, _, _]) C dX8_isHeld_1 (by decide) rfl ?_
  refine jx_iload_n C dX8_isHeld_2 rfl ?_
  refine jx_iconst (v := 4) C dX8_isHeld_3 (by decide) ?_
  refine jx_ic_geF (tgt := 29) C dX8_isHeld_4 (by decide) (by decide) ?_
  refine jx_aload_n C dX8_isHeld_7 rfl ?_
  refine jx_get C fl_8_17_7 dX8_isHeld_8 (by decide) gg_1 rfl ?_
  refine jx_iload_n C dX8_isHeld_11 rfl ?_
  refine jx_iload_n C dX8_isHeld_12 rfl ?_
  refine jx_one C (jr_S C (c_8_place) sw_8_43 rfl ⟨Nat.le_of_ble_eq_true rfl, Nat.le_of_ble_eq_true rfl⟩ ⟨Nat.le_of_ble_eq_true rfl, Nat.le_of_ble_eq_true rfl⟩ dX8_isHeld_13 rfl (Nat.le_of_ble_eq_true rfl)) ?_
  refine jx_aald3 (5 * 0 + b) C dX8_isHeld_16 (by decide) gg_3 (pl5 0 b) (by omega) (by decide) ?_
  refine jx_aload_n C dX8_isHeld_17 rfl ?_
  refine jx_acmp_ne (rx := (P (5 * 0 + b)).map (fun k => A (4 + 2 * k))) (ry := some (A (4 + 2 * k))) (tgt := 23) C dX8_isHeld_18 (by decide) (fun c18 => ?_) (fun c18 => ?_)
  · have n0 := c18
    refine jx_iinc (v := 1) (lv1 := [_, _, _, _]) C dX8_isHeld_23 rfl (by decide) rfl ?_
    refine jx_goto (tgt := 2) C dX8_isHeld_26 (by decide) ?_
    refine jx_iload_n C dX8_isHeld_2 rfl ?_
    refine jx_iconst (v := 4) C dX8_isHeld_3 (by decide) ?_
    refine jx_ic_geF (tgt := 29) C dX8_isHeld_4 (by decide) (by decide) ?_
    refine jx_aload_n C dX8_isHeld_7 rfl ?_
    refine jx_get C fl_8_17_7 dX8_isHeld_8 (by decide) gg_1 rfl ?_
    refine jx_iload_n C dX8_isHeld_11 rfl ?_
    refine jx_iload_n C dX8_isHeld_12 rfl ?_
    refine jx_one C (jr_S C (c_8_place) sw_8_43 rfl ⟨Nat.le_of_ble_eq_true rfl, Nat.le_of_ble_eq_true rfl⟩ ⟨Nat.le_of_ble_eq_true rfl, Nat.le_of_ble_eq_true rfl⟩ dX8_isHeld_13 rfl (Nat.le_of_ble_eq_true rfl)) ?_
    refine jx_aald3 (5 * 1 + b) C dX8_isHeld_16 (by decide) gg_3 (pl5 1 b) (by omega) (by decide) ?_
    refine jx_aload_n C dX8_isHeld_17 rfl ?_
    refine jx_acmp_ne (rx := (P (5 * 1 + b)).map (fun k => A (4 + 2 * k))) (ry := some (A (4 + 2 * k))) (tgt := 23) C dX8_isHeld_18 (by decide) (fun c18 => ?_) (fun c18 => ?_)
    · have n1 := c18
      refine jx_iinc (v := 2) (lv1 := [_, _, _, _]) C dX8_isHeld_23 rfl (by decide) rfl ?_
      refine jx_goto (tgt := 2) C dX8_isHeld_26 (by decide) ?_
      refine jx_iload_n C dX8_isHeld_2 rfl ?_
      refine jx_iconst (v := 4) C dX8_isHeld_3 (by decide) ?_
      refine jx_ic_geF (tgt := 29) C dX8_isHeld_4 (by decide) (by decide) ?_
      refine jx_aload_n C dX8_isHeld_7 rfl ?_
      refine jx_get C fl_8_17_7 dX8_isHeld_8 (by decide) gg_1 rfl ?_
      refine jx_iload_n C dX8_isHeld_11 rfl ?_
      refine jx_iload_n C dX8_isHeld_12 rfl ?_
      refine jx_one C (jr_S C (c_8_place) sw_8_43 rfl ⟨Nat.le_of_ble_eq_true rfl, Nat.le_of_ble_eq_true rfl⟩ ⟨Nat.le_of_ble_eq_true rfl, Nat.le_of_ble_eq_true rfl⟩ dX8_isHeld_13 rfl (Nat.le_of_ble_eq_true rfl)) ?_
      refine jx_aald3 (5 * 2 + b) C dX8_isHeld_16 (by decide) gg_3 (pl5 2 b) (by omega) (by decide) ?_
      refine jx_aload_n C dX8_isHeld_17 rfl ?_
      refine jx_acmp_ne (rx := (P (5 * 2 + b)).map (fun k => A (4 + 2 * k))) (ry := some (A (4 + 2 * k))) (tgt := 23) C dX8_isHeld_18 (by decide) (fun c18 => ?_) (fun c18 => ?_)
      · have n2 := c18
        refine jx_iinc (v := 3) (lv1 := [_, _, _, _]) C dX8_isHeld_23 rfl (by decide) rfl ?_
        refine jx_goto (tgt := 2) C dX8_isHeld_26 (by decide) ?_
        refine jx_iload_n C dX8_isHeld_2 rfl ?_
        refine jx_iconst (v := 4) C dX8_isHeld_3 (by decide) ?_
        refine jx_ic_geF (tgt := 29) C dX8_isHeld_4 (by decide) (by decide) ?_
        refine jx_aload_n C dX8_isHeld_7 rfl ?_
        refine jx_get C fl_8_17_7 dX8_isHeld_8 (by decide) gg_1 rfl ?_
        refine jx_iload_n C dX8_isHeld_11 rfl ?_
        refine jx_iload_n C dX8_isHeld_12 rfl ?_
        refine jx_one C (jr_S C (c_8_place) sw_8_43 rfl ⟨Nat.le_of_ble_eq_true rfl, Nat.le_of_ble_eq_true rfl⟩ ⟨Nat.le_of_ble_eq_true rfl, Nat.le_of_ble_eq_true rfl⟩ dX8_isHeld_13 rfl (Nat.le_of_ble_eq_true rfl)) ?_
        refine jx_aald3 (5 * 3 + b) C dX8_isHeld_16 (by decide) gg_3 (pl5 3 b) (by omega) (by decide) ?_
        refine jx_aload_n C dX8_isHeld_17 rfl ?_
        refine jx_acmp_ne (rx := (P (5 * 3 + b)).map (fun k => A (4 + 2 * k))) (ry := some (A (4 + 2 * k))) (tgt := 23) C dX8_isHeld_18 (by decide) (fun c18 => ?_) (fun c18 => ?_)
        · refine jx_iinc (v := 4) (lv1 := [_, _, _, _]) C dX8_isHeld_23 rfl (by decide) rfl ?_
          refine jx_goto (tgt := 2) C dX8_isHeld_26 (by decide) ?_
          refine jx_iload_n C dX8_isHeld_2 rfl ?_
          refine jx_iconst (v := 4) C dX8_isHeld_3 (by decide) ?_
          refine jx_ic_geT (tgt := 29) C dX8_isHeld_4 (by decide) (by decide) ?_
          refine jx_iconst (v := 0) C dX8_isHeld_29 (by decide) ?_
          exact jx_zret C dX8_isHeld_30 rfl ⟨by rw [bI_f (fun h => by rcases h with h | h | h | h <;> first | exact n0 ((ln_eq inj hP (by omega) hk).mpr h) | exact n1 ((ln_eq inj hP (by omega) hk).mpr h) | exact n2 ((ln_eq inj hP (by omega) hk).mpr h) | exact c18 ((ln_eq inj hP (by omega) hk).mpr h))], rfl, rfl, rfl⟩
        · refine jx_iconst (v := 1) C dX8_isHeld_21 (by decide) ?_
          exact jx_zret C dX8_isHeld_22 rfl ⟨by rw [bI_t (Or.inr (Or.inr (Or.inr (((ln_eq inj hP (by omega) hk).mp c18)))))], rfl, rfl, rfl⟩
      · refine jx_iconst (v := 1) C dX8_isHeld_21 (by decide) ?_
        exact jx_zret C dX8_isHeld_22 rfl ⟨by rw [bI_t (Or.inr (Or.inr (Or.inl ((ln_eq inj hP (by omega) hk).mp c18))))], rfl, rfl, rfl⟩
    · refine jx_iconst (v := 1) C dX8_isHeld_21 (by decide) ?_
      exact jx_zret C dX8_isHeld_22 rfl ⟨by rw [bI_t (Or.inr (Or.inl ((ln_eq inj hP (by omega) hk).mp c18)))], rfl, rfl, rfl⟩
  · refine jx_iconst (v := 1) C dX8_isHeld_21 (by decide) ?_
    exact jx_zret C dX8_isHeld_22 rfl ⟨by rw [bI_t (Or.inl ((ln_eq inj hP (by omega) hk).mp c18))], rfl, rfl, rfl⟩
set_option maxRecDepth 100000 in
set_option maxHeartbeats 4000000 in
theorem c_8_spareLane {l : Launch} {D : va_G} {K : Nat → ClassId} {A : Nat → Nat} {I : TI} {U : TU} {P : TP} {b : Nat} (hb : b < 5) (hP : okP P) (hs : ∃ a : Nat, a < 4 ∧ P (5 * a + b) = none) : MM l yX8_spareLane cX8_spareLane 4 (some (.object "HandLoom$Lane")) 2 D K A (I) (U) (P) [.ref (A 1), .int (nI b)] (XV (fun w I1 U1 P1 => ∃ u : Nat, u < 4 ∧ ¬ heldBy P b (5 * u + b) ∧ w = .ref (A (4 + 2 * (5 * u + b))) ∧ I1 = I ∧ U1 = U ∧ P1 = P)) := by
  refine MM.go (own := RX8) (lv0 := [some (.ref (A 1)), some (.int (nI b)), none, none]) rfl (by decide) rfl (Nat.le_of_ble_eq_true rfl) rfl ?_
  intro p e s m args below meth c C
  refine jx_iconst (v := 0) C dX8_spareLane_0 (by decide) ?_
  refine jx_istore_n (lv1 := [_, _, _, _]) C dX8_spareLane_1 (by decide) rfl ?_
  refine jx_iload_n C dX8_spareLane_2 rfl ?_
  refine jx_iconst (v := 4) C dX8_spareLane_3 (by decide) ?_
  refine jx_ic_geF (tgt := 35) C dX8_spareLane_4 (by decide) (by decide) ?_
  refine jx_aload_n C dX8_spareLane_7 rfl ?_
  refine jx_get C fl_8_11_7 dX8_spareLane_8 (by decide) gg_1 rfl ?_
  refine jx_iload_n C dX8_spareLane_11 rfl ?_
  refine jx_iload_n C dX8_spareLane_12 rfl ?_
  refine jx_one C (jr_S C (c_8_place) sw_8_43 rfl ⟨Nat.le_of_ble_eq_true rfl, Nat.le_of_ble_eq_true rfl⟩ ⟨Nat.le_of_ble_eq_true rfl, Nat.le_of_ble_eq_true rfl⟩ dX8_spareLane_13 rfl (Nat.le_of_ble_eq_true rfl)) ?_
  refine jx_aald3 (5 * 0 + b) C dX8_spareLane_16 (by decide) gg_2 (pl5 0 b) (by omega) (by decide) ?_
  refine jx_astore_n (lv1 := [_, _, _, _]) C dX8_spareLane_17 (by decide) rfl ?_
  refine jx_aload_n C dX8_spareLane_18 rfl ?_
  refine jx_aload_n C dX8_spareLane_19 rfl ?_
  refine jx_iload_n C dX8_spareLane_20 rfl ?_
  by_cases h0 : heldBy P b (5 * 0 + b)
  · skip
    refine jx_one C (jr_V C (c_8_isHeld (k := 5 * 0 + b) hb (by omega) hP) vw_8_61 (by decide) gg_1 rfl rfl ⟨Nat.le_of_ble_eq_true rfl, Nat.le_of_ble_eq_true rfl⟩ ⟨Nat.le_of_ble_eq_true rfl, Nat.le_of_ble_eq_true rfl⟩ dX8_spareLane_21 rfl (Nat.le_of_ble_eq_true rfl)) ?_
    rw [bI_t h0]
    refine jx_if_neT (tgt := 29) C dX8_spareLane_24 (by decide) (by decide) ?_
    refine jx_iinc (v := 1) (lv1 := [_, _, _, _]) C dX8_spareLane_29 rfl (by decide) rfl ?_
    refine jx_goto (tgt := 2) C dX8_spareLane_32 (by decide) ?_
    refine jx_iload_n C dX8_spareLane_2 rfl ?_
    refine jx_iconst (v := 4) C dX8_spareLane_3 (by decide) ?_
    refine jx_ic_geF (tgt := 35) C dX8_spareLane_4 (by decide) (by decide) ?_
    refine jx_aload_n C dX8_spareLane_7 rfl ?_
    refine jx_get C fl_8_11_7 dX8_spareLane_8 (by decide) gg_1 rfl ?_
    refine jx_iload_n C dX8_spareLane_11 rfl ?_
    refine jx_iload_n C dX8_spareLane_12 rfl ?_
    refine jx_one C (jr_S C (c_8_place) sw_8_43 rfl ⟨Nat.le_of_ble_eq_true rfl, Nat.le_of_ble_eq_true rfl⟩ ⟨Nat.le_of_ble_eq_true rfl, Nat.le_of_ble_eq_true rfl⟩ dX8_spareLane_13 rfl (Nat.le_of_ble_eq_true rfl)) ?_
    refine jx_aald3 (5 * 1 + b) C dX8_spareLane_16 (by decide) gg_2 (pl5 1 b) (by omega) (by decide) ?_
    refine jx_astore_n (lv1 := [_, _, _, _]) C dX8_spareLane_17 (by decide) rfl ?_
    refine jx_aload_n C dX8_spareLane_18 rfl ?_
    refine jx_aload_n C dX8_spareLane_19 rfl ?_
    refine jx_iload_n C dX8_spareLane_20 rfl ?_
    by_cases h1 : heldBy P b (5 * 1 + b)
    · skip
      refine jx_one C (jr_V C (c_8_isHeld (k := 5 * 1 + b) hb (by omega) hP) vw_8_61 (by decide) gg_1 rfl rfl ⟨Nat.le_of_ble_eq_true rfl, Nat.le_of_ble_eq_true rfl⟩ ⟨Nat.le_of_ble_eq_true rfl, Nat.le_of_ble_eq_true rfl⟩ dX8_spareLane_21 rfl (Nat.le_of_ble_eq_true rfl)) ?_
      rw [bI_t h1]
      refine jx_if_neT (tgt := 29) C dX8_spareLane_24 (by decide) (by decide) ?_
      refine jx_iinc (v := 2) (lv1 := [_, _, _, _]) C dX8_spareLane_29 rfl (by decide) rfl ?_
      refine jx_goto (tgt := 2) C dX8_spareLane_32 (by decide) ?_
      refine jx_iload_n C dX8_spareLane_2 rfl ?_
      refine jx_iconst (v := 4) C dX8_spareLane_3 (by decide) ?_
      refine jx_ic_geF (tgt := 35) C dX8_spareLane_4 (by decide) (by decide) ?_
      refine jx_aload_n C dX8_spareLane_7 rfl ?_
      refine jx_get C fl_8_11_7 dX8_spareLane_8 (by decide) gg_1 rfl ?_
      refine jx_iload_n C dX8_spareLane_11 rfl ?_
      refine jx_iload_n C dX8_spareLane_12 rfl ?_
      refine jx_one C (jr_S C (c_8_place) sw_8_43 rfl ⟨Nat.le_of_ble_eq_true rfl, Nat.le_of_ble_eq_true rfl⟩ ⟨Nat.le_of_ble_eq_true rfl, Nat.le_of_ble_eq_true rfl⟩ dX8_spareLane_13 rfl (Nat.le_of_ble_eq_true rfl)) ?_
      refine jx_aald3 (5 * 2 + b) C dX8_spareLane_16 (by decide) gg_2 (pl5 2 b) (by omega) (by decide) ?_
      refine jx_astore_n (lv1 := [_, _, _, _]) C dX8_spareLane_17 (by decide) rfl ?_
      refine jx_aload_n C dX8_spareLane_18 rfl ?_
      refine jx_aload_n C dX8_spareLane_19 rfl ?_
      refine jx_iload_n C dX8_spareLane_20 rfl ?_
      by_cases h2 : heldBy P b (5 * 2 + b)
      · skip
        refine jx_one C (jr_V C (c_8_isHeld (k := 5 * 2 + b) hb (by omega) hP) vw_8_61 (by decide) gg_1 rfl rfl ⟨Nat.le_of_ble_eq_true rfl, Nat.le_of_ble_eq_true rfl⟩ ⟨Nat.le_of_ble_eq_true rfl, Nat.le_of_ble_eq_true rfl⟩ dX8_spareLane_21 rfl (Nat.le_of_ble_eq_true rfl)) ?_
        rw [bI_t h2]
        refine jx_if_neT (tgt := 29) C dX8_spareLane_24 (by decide) (by decide) ?_
        refine jx_iinc (v := 3) (lv1 := [_, _, _, _]) C dX8_spareLane_29 rfl (by decide) rfl ?_
        refine jx_goto (tgt := 2) C dX8_spareLane_32 (by decide) ?_
        refine jx_iload_n C dX8_spareLane_2 rfl ?_
        refine jx_iconst (v := 4) C dX8_spareLane_3 (by decide) ?_
        refine jx_ic_geF (tgt := 35) C dX8_spareLane_4 (by decide) (by decide) ?_
        refine jx_aload_n C dX8_spareLane_7 rfl ?_
        refine jx_get C fl_8_11_7 dX8_spareLane_8 (by decide) gg_1 rfl ?_
        refine jx_iload_n C dX8_spareLane_11 rfl ?_
        refine jx_iload_n C dX8_spareLane_12 rfl ?_
        refine jx_one C (jr_S C (c_8_place) sw_8_43 rfl ⟨Nat.le_of_ble_eq_true rfl, Nat.le_of_ble_eq_true rfl⟩ ⟨Nat.le_of_ble_eq_true rfl, Nat.le_of_ble_eq_true rfl⟩ dX8_spareLane_13 rfl (Nat.le_of_ble_eq_true rfl)) ?_
        refine jx_aald3 (5 * 3 + b) C dX8_spareLane_16 (by decide) gg_2 (pl5 3 b) (by omega) (by decide) ?_
        refine jx_astore_n (lv1 := [_, _, _, _]) C dX8_spareLane_17 (by decide) rfl ?_
        refine jx_aload_n C dX8_spareLane_18 rfl ?_
        refine jx_aload_n C dX8_spareLane_19 rfl ?_
        refine jx_iload_n C dX8_spareLane_20 rfl ?_
        by_cases h3 : heldBy P b (5 * 3 + b)
        · skip
          refine jx_one C (jr_V C (c_8_isHeld (k := 5 * 3 + b) hb (by omega) hP) vw_8_61 (by decide) gg_1 rfl rfl ⟨Nat.le_of_ble_eq_true rfl, Nat.le_of_ble_eq_true rfl⟩ ⟨Nat.le_of_ble_eq_true rfl, Nat.le_of_ble_eq_true rfl⟩ dX8_spareLane_21 rfl (Nat.le_of_ble_eq_true rfl)) ?_
          rw [bI_t h3]
          refine jx_if_neT (tgt := 29) C dX8_spareLane_24 (by decide) (by decide) ?_
          refine jx_iinc (v := 4) (lv1 := [_, _, _, _]) C dX8_spareLane_29 rfl (by decide) rfl ?_
          refine jx_goto (tgt := 2) C dX8_spareLane_32 (by decide) ?_
          refine jx_iload_n C dX8_spareLane_2 rfl ?_
          refine jx_iconst (v := 4) C dX8_spareLane_3 (by decide) ?_
          refine jx_ic_geT (tgt := 35) C dX8_spareLane_4 (by decide) (by decide) ?_
          exact absurd hs (fun q => spare q.choose_spec.1 q.choose_spec.2 h0 h1 h2 h3)
        · skip
          refine jx_one C (jr_V C (c_8_isHeld (k := 5 * 3 + b) hb (by omega) hP) vw_8_61 (by decide) gg_1 rfl rfl ⟨Nat.le_of_ble_eq_true rfl, Nat.le_of_ble_eq_true rfl⟩ ⟨Nat.le_of_ble_eq_true rfl, Nat.le_of_ble_eq_true rfl⟩ dX8_spareLane_21 rfl (Nat.le_of_ble_eq_true rfl)) ?_
          rw [bI_f h3]
          refine jx_if_neF (tgt := 29) C dX8_spareLane_24 (by decide) (by decide) ?_
          refine jx_aload_n C dX8_spareLane_27 rfl ?_
          exact jx_aret C dX8_spareLane_28 (Or.inr ⟨_, rfl⟩) ⟨_, rfl, 3, by decide, h3, rfl, rfl, rfl, rfl⟩
      · skip
        refine jx_one C (jr_V C (c_8_isHeld (k := 5 * 2 + b) hb (by omega) hP) vw_8_61 (by decide) gg_1 rfl rfl ⟨Nat.le_of_ble_eq_true rfl, Nat.le_of_ble_eq_true rfl⟩ ⟨Nat.le_of_ble_eq_true rfl, Nat.le_of_ble_eq_true rfl⟩ dX8_spareLane_21 rfl (Nat.le_of_ble_eq_true rfl)) ?_
        rw [bI_f h2]
        refine jx_if_neF (tgt := 29) C dX8_spareLane_24 (by decide) (by decide) ?_
        refine jx_aload_n C dX8_spareLane_27 rfl ?_
        exact jx_aret C dX8_spareLane_28 (Or.inr ⟨_, rfl⟩) ⟨_, rfl, 2, by decide, h2, rfl, rfl, rfl, rfl⟩
    · skip
      refine jx_one C (jr_V C (c_8_isHeld (k := 5 * 1 + b) hb (by omega) hP) vw_8_61 (by decide) gg_1 rfl rfl ⟨Nat.le_of_ble_eq_true rfl, Nat.le_of_ble_eq_true rfl⟩ ⟨Nat.le_of_ble_eq_true rfl, Nat.le_of_ble_eq_true rfl⟩ dX8_spareLane_21 rfl (Nat.le_of_ble_eq_true rfl)) ?_
      rw [bI_f h1]
      refine jx_if_neF (tgt := 29) C dX8_spareLane_24 (by decide) (by decide) ?_
      refine jx_aload_n C dX8_spareLane_27 rfl ?_
      exact jx_aret C dX8_spareLane_28 (Or.inr ⟨_, rfl⟩) ⟨_, rfl, 1, by decide, h1, rfl, rfl, rfl, rfl⟩
  · skip
    refine jx_one C (jr_V C (c_8_isHeld (k := 5 * 0 + b) hb (by omega) hP) vw_8_61 (by decide) gg_1 rfl rfl ⟨Nat.le_of_ble_eq_true rfl, Nat.le_of_ble_eq_true rfl⟩ ⟨Nat.le_of_ble_eq_true rfl, Nat.le_of_ble_eq_true rfl⟩ dX8_spareLane_21 rfl (Nat.le_of_ble_eq_true rfl)) ?_
    rw [bI_f h0]
    refine jx_if_neF (tgt := 29) C dX8_spareLane_24 (by decide) (by decide) ?_
    refine jx_aload_n C dX8_spareLane_27 rfl ?_
    exact jx_aret C dX8_spareLane_28 (Or.inr ⟨_, rfl⟩) ⟨_, rfl, 0, by decide, h0, rfl, rfl, rfl, rfl⟩
theorem okP_none {P : TP} {j : Nat} (h : okP P) : okP (va_up P j none) := by
  intro i k hi hk
  by_cases hij : i = j
  · subst hij; rw [va_up_self] at hk; cases hk
  · rw [va_up_ne _ _ hij] at hk; exact h i k hi hk
theorem va_up_up {α : Type} (f : Nat → α) (k : Nat) (v w : α) : va_up (va_up f k v) k w = va_up f k w := by
  funext j
  by_cases h : j = k <;> simp [va_up, h]
set_option maxRecDepth 100000 in
set_option maxHeartbeats 4000000 in
theorem c_8_stretch {l : Launch} {D : va_G} {K : Nat → ClassId} {A : Nat → Nat} {I : TI} {U : TU} {P : TP} {a b n : Nat} (ha : a < 4) (hb : b < 5) (hn : n ≤ 24) (hP : okP P) : MM l yX8_stretch cX8_stretch 5 none 3 D K A (I) (U) (P) [.ref (A 1), .int (nI a), .int (nI b), .int (nI n)] (XN (fun I1 U1 P1 => ∃ u : Nat, u < 4 ∧ ¬ heldBy (va_up P (5 * a + b) none) b (5 * u + b) ∧ I1 = rsJ (5 * u + b) n n I ∧ U1 = rsV (5 * u + b) n U ∧ P1 = va_up P (5 * a + b) (some (5 * u + b)))) := by
  refine MM.go (own := RX8) (lv0 := [some (.ref (A 1)), some (.int (nI a)), some (.int (nI b)), some (.int (nI n)), none]) rfl (by decide) rfl (Nat.le_of_ble_eq_true rfl) rfl ?_
  intro p e s m args below meth c C
  refine jx_iload_n C dX8_stretch_0 rfl ?_
  refine jx_iload_n C dX8_stretch_1 rfl ?_
  refine jx_one C (jr_S C (c_8_isLane) sw_8_39 rfl ⟨Nat.le_of_ble_eq_true rfl, Nat.le_of_ble_eq_true rfl⟩ ⟨Nat.le_of_ble_eq_true rfl, Nat.le_of_ble_eq_true rfl⟩ dX8_stretch_2 rfl (Nat.le_of_ble_eq_true rfl)) ?_
  rw [bI_t ⟨inF_nI ha, inS_nI hb⟩]
  refine jx_if_neT (tgt := 9) C dX8_stretch_5 (by decide) (by decide) ?_
  refine jx_aload_n C dX8_stretch_9 rfl ?_
  refine jx_iload_n C dX8_stretch_10 rfl ?_
  refine jx_iload_n C dX8_stretch_11 rfl ?_
  refine jx_void C (jr_V C (c_8_loosen ha hb) vw_8_51 (by decide) gg_1 rfl rfl ⟨Nat.le_of_ble_eq_true rfl, Nat.le_of_ble_eq_true rfl⟩ ⟨Nat.le_of_ble_eq_true rfl, Nat.le_of_ble_eq_true rfl⟩ dX8_stretch_12 rfl (Nat.le_of_ble_eq_true rfl)) ?_
  refine jx_aload_n C dX8_stretch_15 rfl ?_
  refine jx_iload_n C dX8_stretch_16 rfl ?_
  refine jx_oneV C (jr_V C (c_8_spareLane hb (okP_none hP) ⟨a, ha, va_up_self _ _ _⟩) vw_8_55 (by decide) gg_1 rfl rfl ⟨Nat.le_of_ble_eq_true rfl, Nat.le_of_ble_eq_true rfl⟩ ⟨Nat.le_of_ble_eq_true rfl, Nat.le_of_ble_eq_true rfl⟩ dX8_stretch_17 rfl (Nat.le_of_ble_eq_true rfl)) (fun w I1 U1 P1 hq => ?_)
  obtain ⟨u, hu, hnh, rfl, rfl, rfl, rfl⟩ := hq
  refine jx_astore (lv1 := [_, _, _, _, _]) C dX8_stretch_20 (by decide) rfl ?_
  refine jx_aload C dX8_stretch_22 rfl ?_
  refine jx_ifnull C dX8_stretch_24 ?_
  refine jx_aload C dX8_stretch_27 rfl ?_
  refine jx_iload_n C dX8_stretch_29 rfl ?_
  refine jx_void C (jv_restretch (k := 5 * u + b) C dX8_stretch_30 (by omega) hn ⟨by decide, by decide⟩ ⟨Nat.zero_le _, Nat.zero_le _⟩ (Nat.le_of_ble_eq_true rfl)) ?_
  refine jx_aload_n C dX8_stretch_33 rfl ?_
  refine jx_get C fl_8_17_7 dX8_stretch_34 (by decide) gg_1 rfl ?_
  refine jx_iload_n C dX8_stretch_37 rfl ?_
  refine jx_iload_n C dX8_stretch_38 rfl ?_
  refine jx_one C (jr_S C (c_8_place) sw_8_43 rfl ⟨Nat.le_of_ble_eq_true rfl, Nat.le_of_ble_eq_true rfl⟩ ⟨Nat.le_of_ble_eq_true rfl, Nat.le_of_ble_eq_true rfl⟩ dX8_stretch_39 rfl (Nat.le_of_ble_eq_true rfl)) ?_
  refine jx_aload C dX8_stretch_42 rfl ?_
  refine jx_ln (5 * a + b) C dX8_stretch_44 (show 5 * u + b < 20 by omega) (pl5 a b) (by omega) ?_
  exact jx_vret C dX8_stretch_45 ⟨rfl, u, hu, hnh, rfl, rfl, va_up_up _ _ _ _⟩
end
section
/-! HandLoom's own inner methods -/
/-- is a fault one that ends a run: pa: the keeper's mask -/
abbrev endsBy (pa f : Int32) : Prop := ¬ f = 0 ∧ (pa >>> (f &&& 31) &&& 1) = 0
theorem okE_I {I : TI} {U : TU} {k n a b : Nat} {v : Int32} (h : okE I U k n) (ha : ¬ a = 5 + 2 * k) : okE (up2 I a b v) U k n := by
  unfold okE at *
  rw [up2_ne (by omega)]
  exact h
set_option maxRecDepth 100000 in
set_option maxHeartbeats 4000000 in
theorem c_10_isEndedBy {l : Launch} {D : va_G} {K : Nat → ClassId} {A : Nat → Nat} {I : TI} {U : TU} {P : TP} {f : Int32} : MM l yX10_isEndedBy cX10_isEndedBy 2 (some .boolean) 0 D K A (I) (U) (P) [.ref (A 0), .int f] (XE (some (.int (bI (endsBy (I 0 5) f)))) I U P) := by
  refine MM.go (own := RX10) (lv0 := [some (.ref (A 0)), some (.int f)]) rfl (by decide) rfl (Nat.le_of_ble_eq_true rfl) rfl ?_
  intro p e s m args below meth c C
  refine jx_iload_n C dX10_isEndedBy_0 rfl ?_
  refine jx_if_eq (tgt := 19) C dX10_isEndedBy_1 (by decide) (fun c1 => ?_) (fun c1 => ?_)
  · refine jx_iconst (v := 0) C dX10_isEndedBy_19 (by decide) ?_
    exact jx_zret C dX10_isEndedBy_20 rfl ⟨by simp [bI, endsBy, c1], rfl, rfl, rfl⟩
  · refine jx_aload_n C dX10_isEndedBy_4 rfl ?_
    refine jx_get C fl_10_44_9 dX10_isEndedBy_5 (by decide) gg_0 rfl ?_
    refine jx_iload_n C dX10_isEndedBy_8 rfl ?_
    refine jx_ishr C dX10_isEndedBy_9 ?_
    refine jx_iconst (v := 1) C dX10_isEndedBy_10 (by decide) ?_
    refine jx_iand C dX10_isEndedBy_11 ?_
    refine jx_if_ne (tgt := 19) C dX10_isEndedBy_12 (by decide) (fun c12 => ?_) (fun c12 => ?_)
    · refine jx_iconst (v := 0) C dX10_isEndedBy_19 (by decide) ?_
      exact jx_zret C dX10_isEndedBy_20 rfl ⟨by simp [bI, endsBy, c1, c12], rfl, rfl, rfl⟩
    · refine jx_iconst (v := 1) C dX10_isEndedBy_15 (by decide) ?_
      refine jx_goto (tgt := 20) C dX10_isEndedBy_16 (by decide) ?_
      exact jx_zret C dX10_isEndedBy_20 rfl ⟨by simp [bI, endsBy, c1, c12], rfl, rfl, rfl⟩
set_option maxRecDepth 100000 in
set_option maxHeartbeats 4000000 in
theorem c_10_faultAtEndN {l : Launch} {D : va_G} {K : Nat → ClassId} {A : Nat → Nat} {I : TI} {U : TU} {P : TP}  : MM l yX10_faultAtEnd cX10_faultAtEnd 1 (some .int) 0 D K A (I) (U) (P) [.null] (XE (some (.int 1)) I U P) := by
  refine MM.go (own := RX10) (lv0 := [some (.null)]) rfl (by decide) rfl (Nat.le_of_ble_eq_true rfl) rfl ?_
  intro p e s m args below meth c C
  refine jx_aload_nN C dX10_faultAtEnd_0 rfl ?_
  refine jx_ifnonnullN C dX10_faultAtEnd_1 ?_
  refine jx_iconst (v := 1) C dX10_faultAtEnd_4 (by decide) ?_
  refine jx_goto (tgt := 9) C dX10_faultAtEnd_5 (by decide) ?_
  exact jx_iret C dX10_faultAtEnd_9 ⟨rfl, rfl, rfl, rfl⟩
set_option maxRecDepth 100000 in
set_option maxHeartbeats 4000000 in
theorem c_10_faultAtEnd {l : Launch} {D : va_G} {K : Nat → ClassId} {A : Nat → Nat} {I : TI} {U : TU} {P : TP} {x : Nat} : MM l yX10_faultAtEnd cX10_faultAtEnd 1 (some .int) 0 D K A (I) (U) (P) [.ref x] (XE (some (.int 2)) I U P) := by
  refine MM.go (own := RX10) (lv0 := [some (.ref x)]) rfl (by decide) rfl (Nat.le_of_ble_eq_true rfl) rfl ?_
  intro p e s m args below meth c C
  refine jx_aload_n C dX10_faultAtEnd_0 rfl ?_
  refine jx_ifnonnull (tgt := 8) C dX10_faultAtEnd_1 (by decide) ?_
  refine jx_iconst (v := 2) C dX10_faultAtEnd_8 (by decide) ?_
  exact jx_iret C dX10_faultAtEnd_9 ⟨rfl, rfl, rfl, rfl⟩
set_option maxRecDepth 100000 in
set_option maxHeartbeats 4000000 in
theorem c_10_change0 {l : Launch} {D : va_G} {K : Nat → ClassId} {A : Nat → Nat} {I : TI} {U : TU} {P : TP} {k n : Nat} {v : Int32} (hk : k < 20) (hn : n < 24) : MM l yX10_change cX10_change 5 (some .int) 2 D K A (I) (U) (P) [.ref (A 0), .int 0, .ref (A (4 + 2 * k)), .int (nI n), .int v] (XE (some (.int 0)) I U P) := by
  refine MM.go (own := RX10) (lv0 := [some (.ref (A 0)), some (.int 0), some (.ref (A (4 + 2 * k))), some (.int (nI n)), some (.int v)]) rfl (by decide) rfl (Nat.le_of_ble_eq_true rfl) rfl ?_
  intro p e s m args below meth c C
  refine jx_iload_n C dX10_change_0 rfl ?_
  refine jx_tableOut (tgt := 90) C dX10_change_1 (by decide) (by decide) ?_
  refine jx_iconst (v := 0) C dX10_change_90 (by decide) ?_
  exact jx_iret C dX10_change_91 ⟨rfl, rfl, rfl, rfl⟩
set_option maxRecDepth 100000 in
set_option maxHeartbeats 4000000 in
theorem c_10_change1 {l : Launch} {D : va_G} {K : Nat → ClassId} {A : Nat → Nat} {I : TI} {U : TU} {P : TP} {k n : Nat} {v : Int32} (hk : k < 20) (hn : n < 24) : MM l yX10_change cX10_change 5 (some .int) 2 D K A (I) (U) (P) [.ref (A 0), .int 1, .ref (A (4 + 2 * k)), .int (nI n), .int v] (XE (some (.int 0)) (laI k n (cutTo (k % 5) v) I) (laU k n (fHo (f8 v)) U) P) := by
  refine MM.go (own := RX10) (lv0 := [some (.ref (A 0)), some (.int 1), some (.ref (A (4 + 2 * k))), some (.int (nI n)), some (.int v)]) rfl (by decide) rfl (Nat.le_of_ble_eq_true rfl) rfl ?_
  intro p e s m args below meth c C
  refine jx_iload_n C dX10_change_0 rfl ?_
  refine jx_tableIn (tgt := 32) C dX10_change_1 (by decide) (by decide) (off := 31) rfl (by decide) ?_
  refine jx_aload_n C dX10_change_32 rfl ?_
  refine jx_iload_n C dX10_change_33 rfl ?_
  refine jx_iload C dX10_change_34 rfl ?_
  refine jx_void C (jv_lay C dX10_change_36 hk hn ⟨by decide, by decide⟩ ⟨Nat.zero_le _, Nat.zero_le _⟩ (Nat.le_of_ble_eq_true rfl)) ?_
  refine jx_iconst (v := 0) C dX10_change_39 (by decide) ?_
  exact jx_iret C dX10_change_40 ⟨rfl, rfl, rfl, rfl⟩
set_option maxRecDepth 100000 in
set_option maxHeartbeats 4000000 in
theorem c_10_change2e {l : Launch} {D : va_G} {K : Nat → ClassId} {A : Nat → Nat} {I : TI} {U : TU} {P : TP} {k n : Nat} {v : Int32} (hk : k < 20) (hn : n < 24) (h0 : I 44 2 = 0) : MM l yX10_change cX10_change 5 (some .int) 2 D K A (I) (U) (P) [.ref (A 0), .int 2, .ref (A (4 + 2 * k)), .int (nI n), .int v] (XE (some (.int 4)) I U P) := by
  refine MM.go (own := RX10) (lv0 := [some (.ref (A 0)), some (.int 2), some (.ref (A (4 + 2 * k))), some (.int (nI n)), some (.int v)]) rfl (by decide) rfl (Nat.le_of_ble_eq_true rfl) rfl ?_
  intro p e s m args below meth c C
  refine jx_iload_n C dX10_change_0 rfl ?_
  refine jx_tableIn (tgt := 41) C dX10_change_1 (by decide) (by decide) (off := 40) rfl (by decide) ?_
  refine jx_aload_n C dX10_change_41 rfl ?_
  refine jx_get C fl_10_19_9 dX10_change_42 (by decide) gg_0 rfl ?_
  refine jx_one C (jr_V C (c_6_isEmpty) vw_10_186 (by decide) gg_44 rfl rfl ⟨Nat.le_of_ble_eq_true rfl, Nat.le_of_ble_eq_true rfl⟩ ⟨Nat.le_of_ble_eq_true rfl, Nat.le_of_ble_eq_true rfl⟩ dX10_change_45 rfl (Nat.le_of_ble_eq_true rfl)) ?_
  rw [bI_t h0]
  refine jx_if_eqF (tgt := 53) C dX10_change_48 (by decide) (by decide) ?_
  refine jx_iconst (v := 4) C dX10_change_51 (by decide) ?_
  exact jx_iret C dX10_change_52 ⟨rfl, rfl, rfl, rfl⟩
set_option maxRecDepth 100000 in
set_option maxHeartbeats 4000000 in
theorem c_10_change2 {l : Launch} {D : va_G} {K : Nat → ClassId} {A : Nat → Nat} {I : TI} {U : TU} {P : TP} {k n : Nat} {v : Int32} (hk : k < 20) (hn : n < 24) (ok : okE I U k n) {fi co : Nat} (hfi : I 44 1 = nI fi) (hco : I 44 2 = nI (co + 1)) (h1 : fi < 16) (h2 : co < 16) : MM l yX10_change cX10_change 5 (some .int) 2 D K A (I) (U) (P) [.ref (A 0), .int 2, .ref (A (4 + 2 * k)), .int (nI n), .int v] (XE (some (.int 0)) (laI k n (vPull (k % 5) (I (5 + 2 * k) n) (I 45 fi)) (up2 (up2 I 44 1 (nI ((fi + 1) % 16))) 44 2 (nI co))) (laU k n (fHo (FP.fadd (U (5 + 2 * k) n) (f8 (I 45 fi)))) U) P) := by
  refine MM.go (own := RX10) (lv0 := [some (.ref (A 0)), some (.int 2), some (.ref (A (4 + 2 * k))), some (.int (nI n)), some (.int v)]) rfl (by decide) rfl (Nat.le_of_ble_eq_true rfl) rfl ?_
  intro p e s m args below meth c C
  refine jx_iload_n C dX10_change_0 rfl ?_
  refine jx_tableIn (tgt := 41) C dX10_change_1 (by decide) (by decide) (off := 40) rfl (by decide) ?_
  refine jx_aload_n C dX10_change_41 rfl ?_
  refine jx_get C fl_10_19_9 dX10_change_42 (by decide) gg_0 rfl ?_
  refine jx_one C (jr_V C (c_6_isEmpty) vw_10_186 (by decide) gg_44 rfl rfl ⟨Nat.le_of_ble_eq_true rfl, Nat.le_of_ble_eq_true rfl⟩ ⟨Nat.le_of_ble_eq_true rfl, Nat.le_of_ble_eq_true rfl⟩ dX10_change_45 rfl (Nat.le_of_ble_eq_true rfl)) ?_
  rw [bI_f (show ¬ I 44 2 = 0 by rw [hco]; exact nI_ne0 (by omega) (by omega))]
  refine jx_if_eqT (tgt := 53) C dX10_change_48 (by decide) (by decide) ?_
  refine jx_aload_n C dX10_change_53 rfl ?_
  refine jx_iload_n C dX10_change_54 rfl ?_
  refine jx_aload_n C dX10_change_55 rfl ?_
  refine jx_get C fl_10_19_9 dX10_change_56 (by decide) gg_0 rfl ?_
  refine jx_one C (jr_V C (c_6_draw hfi hco h1 h2) vw_10_189 (by decide) gg_44 rfl rfl ⟨Nat.le_of_ble_eq_true rfl, Nat.le_of_ble_eq_true rfl⟩ ⟨Nat.le_of_ble_eq_true rfl, Nat.le_of_ble_eq_true rfl⟩ dX10_change_59 rfl (Nat.le_of_ble_eq_true rfl)) ?_
  refine jx_void C (jv_pull C dX10_change_62 hk hn (okE_I (okE_I ok (by omega)) (by omega)) ⟨by decide, by decide⟩ ⟨Nat.zero_le _, Nat.zero_le _⟩ (Nat.le_of_ble_eq_true rfl)) ?_
  rw [up2_ne (by omega), up2_ne (by omega)]
  refine jx_iconst (v := 0) C dX10_change_65 (by decide) ?_
  exact jx_iret C dX10_change_66 ⟨rfl, rfl, rfl, rfl⟩
set_option maxRecDepth 100000 in
set_option maxHeartbeats 4000000 in
theorem c_10_change3 {l : Launch} {D : va_G} {K : Nat → ClassId} {A : Nat → Nat} {I : TI} {U : TU} {P : TP} {k n : Nat} {v : Int32} (hk : k < 20) (hn : n < 24) (ok : okE I U k n) : MM l yX10_change cX10_change 5 (some .int) 2 D K A (I) (U) (P) [.ref (A 0), .int 3, .ref (A (4 + 2 * k)), .int (nI n), .int v] (XE (some (.int 0)) (laI k n (vPull (k % 5) (I (5 + 2 * k) n) 1) I) (laU k n (fHo (FP.fadd (U (5 + 2 * k) n) (f8 8))) U) P) := by
  refine MM.go (own := RX10) (lv0 := [some (.ref (A 0)), some (.int 3), some (.ref (A (4 + 2 * k))), some (.int (nI n)), some (.int v)]) rfl (by decide) rfl (Nat.le_of_ble_eq_true rfl) rfl ?_
  intro p e s m args below meth c C
  refine jx_iload_n C dX10_change_0 rfl ?_
  refine jx_tableIn (tgt := 67) C dX10_change_1 (by decide) (by decide) (off := 66) rfl (by decide) ?_
  refine jx_aload_n C dX10_change_67 rfl ?_
  refine jx_iload_n C dX10_change_68 rfl ?_
  refine jx_void C (jv_turn C dX10_change_69 hk hn ok ⟨by decide, by decide⟩ ⟨Nat.zero_le _, Nat.zero_le _⟩ (Nat.le_of_ble_eq_true rfl)) ?_
  refine jx_iconst (v := 0) C dX10_change_72 (by decide) ?_
  exact jx_iret C dX10_change_73 ⟨rfl, rfl, rfl, rfl⟩
set_option maxRecDepth 100000 in
set_option maxHeartbeats 4000000 in
theorem c_10_change4 {l : Launch} {D : va_G} {K : Nat → ClassId} {A : Nat → Nat} {I : TI} {U : TU} {P : TP} {k n : Nat} {v : Int32} (hk : k < 20) (hn : n < 24) (ok : okE I U k n) (hv : ¬ v = 0 ∨ k % 5 = 3) : MM l yX10_change cX10_change 5 (some .int) 2 D K A (I) (U) (P) [.ref (A 0), .int 4, .ref (A (4 + 2 * k)), .int (nI n), .int v] (XE (some (.int 0)) (laI k n (vPart (k % 5) (I (5 + 2 * k) n) v) I) (laU k n (fHo (FP.fdiv (U (5 + 2 * k) n) (FP.i2f v))) U) P) := by
  refine MM.go (own := RX10) (lv0 := [some (.ref (A 0)), some (.int 4), some (.ref (A (4 + 2 * k))), some (.int (nI n)), some (.int v)]) rfl (by decide) rfl (Nat.le_of_ble_eq_true rfl) rfl ?_
  intro p e s m args below meth c C
  refine jx_iload_n C dX10_change_0 rfl ?_
  refine jx_tableIn (tgt := 74) C dX10_change_1 (by decide) (by decide) (off := 73) rfl (by decide) ?_
  refine jx_aload_n C dX10_change_74 rfl ?_
  refine jx_iload_n C dX10_change_75 rfl ?_
  refine jx_iload C dX10_change_76 rfl ?_
  refine jx_one C (jv_part C dX10_change_78 hk hn ok hv ⟨by decide, by decide⟩ ⟨Nat.zero_le _, Nat.zero_le _⟩ (Nat.le_of_ble_eq_true rfl)) ?_
  refine jx_if_eqF (tgt := 88) C dX10_change_81 (by decide) (by decide) ?_
  refine jx_iconst (v := 0) C dX10_change_84 (by decide) ?_
  refine jx_goto (tgt := 89) C dX10_change_85 (by decide) ?_
  exact jx_iret C dX10_change_89 ⟨rfl, rfl, rfl, rfl⟩
set_option maxRecDepth 100000 in
set_option maxHeartbeats 4000000 in
theorem c_10_change4z {l : Launch} {D : va_G} {K : Nat → ClassId} {A : Nat → Nat} {I : TI} {U : TU} {P : TP} {k n : Nat} (hk : k < 20) (h3 : ¬ k % 5 = 3) : MM l yX10_change cX10_change 5 (some .int) 2 D K A (I) (U) (P) [.ref (A 0), .int 4, .ref (A (4 + 2 * k)), .int (nI n), .int 0] (XE (some (.int 5)) I U P) := by
  refine MM.go (own := RX10) (lv0 := [some (.ref (A 0)), some (.int 4), some (.ref (A (4 + 2 * k))), some (.int (nI n)), some (.int 0)]) rfl (by decide) rfl (Nat.le_of_ble_eq_true rfl) rfl ?_
  intro p e s m args below meth c C
  refine jx_iload_n C dX10_change_0 rfl ?_
  refine jx_tableIn (tgt := 74) C dX10_change_1 (by decide) (by decide) (off := 73) rfl (by decide) ?_
  refine jx_aload_n C dX10_change_74 rfl ?_
  refine jx_iload_n C dX10_change_75 rfl ?_
  refine jx_iload C dX10_change_76 rfl ?_
  refine jx_one C (jv_part0 C dX10_change_78 hk h3 ⟨by decide, by decide⟩ ⟨Nat.zero_le _, Nat.zero_le _⟩ (Nat.le_of_ble_eq_true rfl)) ?_
  refine jx_if_eqT (tgt := 88) C dX10_change_81 (by decide) (by decide) ?_
  refine jx_iconst (v := 5) C dX10_change_88 (by decide) ?_
  exact jx_iret C dX10_change_89 ⟨rfl, rfl, rfl, rfl⟩
end
section
/-! one act at an end: work() -/
def bg (I : TI) : TI := up2 I 63 1 0
def tel (I : TI) (f : Nat) : TI := up2 (up2 I 63 1 (nI f)) 64 f (I 64 f + 1)
def fiN (I : TI) : Nat := (I 44 1).toNatClampNeg
def coN (I : TI) : Nat := (I 44 2).toNatClampNeg
def dqI (I : TI) : TI := up2 (up2 I 44 1 (nI ((fiN I + 1) % 16))) 44 2 (nI (coN I - 1))
def dqV (I : TI) : Int32 := I 45 (fiN I)
def okS (I : TI) : Prop := ∃ fi co : Nat, I 44 1 = nI fi ∧ I 44 2 = nI co ∧ fi < 16 ∧ co ≤ 16
theorem okE_la {I : TI} {U : TU} {k n : Nat} {x : Int32} {y : UInt32} (hx : k % 5 = 3 → x = 0 ∨ x = 1) (hy : k % 5 = 2 → hd32 y) : okE (laI k n x I) (laU k n y U) k n := by
  unfold okE laI laU
  constructor
  · intro h
    rw [if_neg (by omega), up2_same]
    exact hx h
  · intro h
    rw [if_pos h, up2_same]
    exact hy h
theorem cut3 {so : Nat} (h : so = 3) (v : Int32) : cutTo so v = 0 ∨ cutTo so v = 1 := by
  subst h
  exact bit1 v
theorem pull3 {so : Nat} (h : so = 3) {x v : Int32} (hx : x = 0 ∨ x = 1) : vPull so x v = 0 ∨ vPull so x v = 1 := by
  rw [vPull, if_pos h]
  rcases hx with rfl | rfl <;> rcases bit1 v with h | h <;> rw [h] <;> decide
theorem part3 {so : Nat} (h : so = 3) {x v : Int32} (hx : x = 0 ∨ x = 1) : vPart so x v = 0 ∨ vPart so x v = 1 := by
  rw [vPart, if_pos h]
  exact bit1 _
theorem okLay {I : TI} {U : TU} {k n : Nat} {v : Int32} : okE (laI k n (cutTo (k % 5) v) I) (laU k n (fHo (f8 v)) U) k n := okE_la (fun h => cut3 h v) (fun _ => hd_ho (f8_nan v))
theorem notnan {r : UInt32} (h : vf_n32 r) : FP.Core.fIsNaN r = false := by
  unfold vf_n32 at h
  rw [UInt32.le_iff_toNat_le, UInt32.toNat_and] at h
  have e : (2147483647 : UInt32).toNat = 2 ^ 31 - 1 := rfl
  have e2 : (2139095040 : UInt32).toNat = 2139095040 := rfl
  have h : r.toNat &&& (2147483647 : UInt32).toNat ≤ (2139095040 : UInt32).toNat := h
  rw [e, e2, Nat.and_two_pow_sub_one_eq_mod] at h
  cases hh : FP.Core.fIsNaN r with
  | false => rfl
  | true =>
    have := (FP.Core.isNaN_bits32 r).mp hh
    omega
theorem okPull {I I' : TI} {U : TU} {k n : Nat} {v w : Int32} (ok : okE I U k n) : okE (laI k n (vPull (k % 5) (I (5 + 2 * k) n) v) I') (laU k n (fHo (FP.fadd (U (5 + 2 * k) n) (f8 w))) U) k n := okE_la (fun h => pull3 h (ok.1 h)) (fun h => hd_ho (notnan (nn_add (ok.2 h) (f8_nan w))))
theorem okPart {I I' : TI} {U : TU} {k n : Nat} {v : Int32} (ok : okE I U k n) (hv : ¬ v = 0 ∨ k % 5 = 3) : okE (laI k n (vPart (k % 5) (I (5 + 2 * k) n) v) I') (laU k n (fHo (FP.fdiv (U (5 + 2 * k) n) (FP.i2f v))) U) k n := okE_la (fun h => part3 h (ok.1 h)) (fun h => hd_ho (notnan (nn_div (ok.2 h) (hv.resolve_right (by omega)))))
set_option maxRecDepth 100000 in
set_option maxHeartbeats 4000000 in
theorem c_10_work_1eN {l : Launch} {D : va_G} {K : Nat → ClassId} {A : Nat → Nat} {I : TI} {U : TU} {P : TP} {x v : Int32} (h0 : I 44 2 = 0) : MM l yX10_work cX10_work 7 (some .int) 3 D K A (I) (U) (P) [.ref (A 0), .int 1, .null, .int x, .int v] (XE (some (.int 0)) (tel (up2 I 63 1 0) 4) U P) := by
  refine MM.go (own := RX10) (lv0 := [some (.ref (A 0)), some (.int 1), some (.null), some (.int x), some (.int v), none, none]) rfl (by decide) rfl (Nat.le_of_ble_eq_true rfl) rfl ?_
  intro p e s m args below meth c C
  refine jx_aload_n C dX10_work_0 rfl ?_
  refine jx_get C fl_10_40_9 dX10_work_1 (by decide) gg_0 rfl ?_
  refine jx_void C (jr_V C (c_4_begin) vw_10_59 (by decide) gg_63 rfl rfl ⟨Nat.le_of_ble_eq_true rfl, Nat.le_of_ble_eq_true rfl⟩ ⟨Nat.le_of_ble_eq_true rfl, Nat.le_of_ble_eq_true rfl⟩ dX10_work_4 rfl (Nat.le_of_ble_eq_true rfl)) ?_
  refine jx_iload C dX10_work_7 rfl ?_
  refine jx_istore (lv1 := [_, _, _, _, _, _, _]) C dX10_work_9 (by decide) rfl ?_
  refine jx_iload_n C dX10_work_11 rfl ?_
  refine jx_iconst (v := 1) C dX10_work_12 (by decide) ?_
  refine jx_ic_neF (tgt := 44) C dX10_work_13 (by decide) (by decide) ?_
  refine jx_aload_n C dX10_work_16 rfl ?_
  refine jx_get C fl_10_19_9 dX10_work_17 (by decide) gg_0 rfl ?_
  refine jx_one C (jr_V C (c_6_isEmpty) vw_10_186 (by decide) gg_44 rfl rfl ⟨Nat.le_of_ble_eq_true rfl, Nat.le_of_ble_eq_true rfl⟩ ⟨Nat.le_of_ble_eq_true rfl, Nat.le_of_ble_eq_true rfl⟩ dX10_work_20 rfl (Nat.le_of_ble_eq_true rfl)) ?_
  rw [up2_ne (by omega), bI_t h0]
  refine jx_if_eqF (tgt := 35) C dX10_work_23 (by decide) (by decide) ?_
  refine jx_aload_n C dX10_work_26 rfl ?_
  refine jx_get C fl_10_40_9 dX10_work_27 (by decide) gg_0 rfl ?_
  refine jx_iconst (v := 4) C dX10_work_30 (by decide) ?_
  refine jx_one C (jr_V C (c_4_tell (f := 4) (by decide) (by decide)) vw_10_62 (by decide) gg_63 rfl rfl ⟨Nat.le_of_ble_eq_true rfl, Nat.le_of_ble_eq_true rfl⟩ ⟨Nat.le_of_ble_eq_true rfl, Nat.le_of_ble_eq_true rfl⟩ dX10_work_31 rfl (Nat.le_of_ble_eq_true rfl)) ?_
  exact jx_iret C dX10_work_34 ⟨rfl, rfl, rfl, rfl⟩
set_option maxRecDepth 100000 in
set_option maxHeartbeats 4000000 in
theorem c_10_work_1eR {l : Launch} {D : va_G} {K : Nat → ClassId} {A : Nat → Nat} {I : TI} {U : TU} {P : TP} {x v : Int32} {y : Nat} (h0 : I 44 2 = 0) : MM l yX10_work cX10_work 7 (some .int) 3 D K A (I) (U) (P) [.ref (A 0), .int 1, .ref y, .int x, .int v] (XE (some (.int 0)) (tel (up2 I 63 1 0) 4) U P) := by
  refine MM.go (own := RX10) (lv0 := [some (.ref (A 0)), some (.int 1), some (.ref y), some (.int x), some (.int v), none, none]) rfl (by decide) rfl (Nat.le_of_ble_eq_true rfl) rfl ?_
  intro p e s m args below meth c C
  refine jx_aload_n C dX10_work_0 rfl ?_
  refine jx_get C fl_10_40_9 dX10_work_1 (by decide) gg_0 rfl ?_
  refine jx_void C (jr_V C (c_4_begin) vw_10_59 (by decide) gg_63 rfl rfl ⟨Nat.le_of_ble_eq_true rfl, Nat.le_of_ble_eq_true rfl⟩ ⟨Nat.le_of_ble_eq_true rfl, Nat.le_of_ble_eq_true rfl⟩ dX10_work_4 rfl (Nat.le_of_ble_eq_true rfl)) ?_
  refine jx_iload C dX10_work_7 rfl ?_
  refine jx_istore (lv1 := [_, _, _, _, _, _, _]) C dX10_work_9 (by decide) rfl ?_
  refine jx_iload_n C dX10_work_11 rfl ?_
  refine jx_iconst (v := 1) C dX10_work_12 (by decide) ?_
  refine jx_ic_neF (tgt := 44) C dX10_work_13 (by decide) (by decide) ?_
  refine jx_aload_n C dX10_work_16 rfl ?_
  refine jx_get C fl_10_19_9 dX10_work_17 (by decide) gg_0 rfl ?_
  refine jx_one C (jr_V C (c_6_isEmpty) vw_10_186 (by decide) gg_44 rfl rfl ⟨Nat.le_of_ble_eq_true rfl, Nat.le_of_ble_eq_true rfl⟩ ⟨Nat.le_of_ble_eq_true rfl, Nat.le_of_ble_eq_true rfl⟩ dX10_work_20 rfl (Nat.le_of_ble_eq_true rfl)) ?_
  rw [up2_ne (by omega), bI_t h0]
  refine jx_if_eqF (tgt := 35) C dX10_work_23 (by decide) (by decide) ?_
  refine jx_aload_n C dX10_work_26 rfl ?_
  refine jx_get C fl_10_40_9 dX10_work_27 (by decide) gg_0 rfl ?_
  refine jx_iconst (v := 4) C dX10_work_30 (by decide) ?_
  refine jx_one C (jr_V C (c_4_tell (f := 4) (by decide) (by decide)) vw_10_62 (by decide) gg_63 rfl rfl ⟨Nat.le_of_ble_eq_true rfl, Nat.le_of_ble_eq_true rfl⟩ ⟨Nat.le_of_ble_eq_true rfl, Nat.le_of_ble_eq_true rfl⟩ dX10_work_31 rfl (Nat.le_of_ble_eq_true rfl)) ?_
  exact jx_iret C dX10_work_34 ⟨rfl, rfl, rfl, rfl⟩
set_option maxRecDepth 100000 in
set_option maxHeartbeats 4000000 in
theorem c_10_work_1N {l : Launch} {D : va_G} {K : Nat → ClassId} {A : Nat → Nat} {I : TI} {U : TU} {P : TP} {x v : Int32} {fi co : Nat} (hfi : I 44 1 = nI fi) (hco : I 44 2 = nI (co + 1)) (h1 : fi < 16) (h2 : co < 16) : MM l yX10_work cX10_work 7 (some .int) 3 D K A (I) (U) (P) [.ref (A 0), .int 1, .null, .int x, .int v] (XE (some (.int 0)) (tel (up2 (up2 (up2 I 63 1 0) 44 1 (nI ((fi + 1) % 16))) 44 2 (nI co)) 1) U P) := by
  refine MM.go (own := RX10) (lv0 := [some (.ref (A 0)), some (.int 1), some (.null), some (.int x), some (.int v), none, none]) rfl (by decide) rfl (Nat.le_of_ble_eq_true rfl) rfl ?_
  intro p e s m args below meth c C
  refine jx_aload_n C dX10_work_0 rfl ?_
  refine jx_get C fl_10_40_9 dX10_work_1 (by decide) gg_0 rfl ?_
  refine jx_void C (jr_V C (c_4_begin) vw_10_59 (by decide) gg_63 rfl rfl ⟨Nat.le_of_ble_eq_true rfl, Nat.le_of_ble_eq_true rfl⟩ ⟨Nat.le_of_ble_eq_true rfl, Nat.le_of_ble_eq_true rfl⟩ dX10_work_4 rfl (Nat.le_of_ble_eq_true rfl)) ?_
  refine jx_iload C dX10_work_7 rfl ?_
  refine jx_istore (lv1 := [_, _, _, _, _, _, _]) C dX10_work_9 (by decide) rfl ?_
  refine jx_iload_n C dX10_work_11 rfl ?_
  refine jx_iconst (v := 1) C dX10_work_12 (by decide) ?_
  refine jx_ic_neF (tgt := 44) C dX10_work_13 (by decide) (by decide) ?_
  refine jx_aload_n C dX10_work_16 rfl ?_
  refine jx_get C fl_10_19_9 dX10_work_17 (by decide) gg_0 rfl ?_
  refine jx_one C (jr_V C (c_6_isEmpty) vw_10_186 (by decide) gg_44 rfl rfl ⟨Nat.le_of_ble_eq_true rfl, Nat.le_of_ble_eq_true rfl⟩ ⟨Nat.le_of_ble_eq_true rfl, Nat.le_of_ble_eq_true rfl⟩ dX10_work_20 rfl (Nat.le_of_ble_eq_true rfl)) ?_
  rw [up2_ne (by omega), bI_f (show ¬ I 44 2 = 0 by rw [hco]; exact nI_ne0 (by omega) (by omega))]
  refine jx_if_eqT (tgt := 35) C dX10_work_23 (by decide) (by decide) ?_
  refine jx_aload_n C dX10_work_35 rfl ?_
  refine jx_get C fl_10_19_9 dX10_work_36 (by decide) gg_0 rfl ?_
  refine jx_one C (jr_V C (c_6_draw (by rw [up2_ne (by omega)]; exact hfi) (by rw [up2_ne (by omega)]; exact hco) h1 h2) vw_10_189 (by decide) gg_44 rfl rfl ⟨Nat.le_of_ble_eq_true rfl, Nat.le_of_ble_eq_true rfl⟩ ⟨Nat.le_of_ble_eq_true rfl, Nat.le_of_ble_eq_true rfl⟩ dX10_work_39 rfl (Nat.le_of_ble_eq_true rfl)) ?_
  rw [up2_ne (by omega)]
  refine jx_istore (lv1 := [_, _, _, _, _, _, _]) C dX10_work_42 (by decide) rfl ?_
  refine jx_aload_nN C dX10_work_44 rfl ?_
  refine jx_ifnonnullN C dX10_work_45 ?_
  refine jx_aload_n C dX10_work_48 rfl ?_
  refine jx_get C fl_10_40_9 dX10_work_49 (by decide) gg_0 rfl ?_
  refine jx_iconst (v := 1) C dX10_work_52 (by decide) ?_
  refine jx_one C (jr_V C (c_4_tell (f := 1) (by decide) (by decide)) vw_10_62 (by decide) gg_63 rfl rfl ⟨Nat.le_of_ble_eq_true rfl, Nat.le_of_ble_eq_true rfl⟩ ⟨Nat.le_of_ble_eq_true rfl, Nat.le_of_ble_eq_true rfl⟩ dX10_work_53 rfl (Nat.le_of_ble_eq_true rfl)) ?_
  exact jx_iret C dX10_work_56 ⟨rfl, rfl, rfl, rfl⟩
set_option maxRecDepth 100000 in
set_option maxHeartbeats 4000000 in
theorem c_10_work_1o {l : Launch} {D : va_G} {K : Nat → ClassId} {A : Nat → Nat} {I : TI} {U : TU} {P : TP} {x v : Int32} {k : Nat} (hk : k < 20) (hin : ¬ inR (I (4 + 2 * k) 0) x) {fi co : Nat} (hfi : I 44 1 = nI fi) (hco : I 44 2 = nI (co + 1)) (h1 : fi < 16) (h2 : co < 16) : MM l yX10_work cX10_work 7 (some .int) 3 D K A (I) (U) (P) [.ref (A 0), .int 1, .ref (A (4 + 2 * k)), .int x, .int v] (XE (some (.int 0)) (tel (up2 (up2 (up2 I 63 1 0) 44 1 (nI ((fi + 1) % 16))) 44 2 (nI co)) 2) U P) := by
  refine MM.go (own := RX10) (lv0 := [some (.ref (A 0)), some (.int 1), some (.ref (A (4 + 2 * k))), some (.int x), some (.int v), none, none]) rfl (by decide) rfl (Nat.le_of_ble_eq_true rfl) rfl ?_
  intro p e s m args below meth c C
  refine jx_aload_n C dX10_work_0 rfl ?_
  refine jx_get C fl_10_40_9 dX10_work_1 (by decide) gg_0 rfl ?_
  refine jx_void C (jr_V C (c_4_begin) vw_10_59 (by decide) gg_63 rfl rfl ⟨Nat.le_of_ble_eq_true rfl, Nat.le_of_ble_eq_true rfl⟩ ⟨Nat.le_of_ble_eq_true rfl, Nat.le_of_ble_eq_true rfl⟩ dX10_work_4 rfl (Nat.le_of_ble_eq_true rfl)) ?_
  refine jx_iload C dX10_work_7 rfl ?_
  refine jx_istore (lv1 := [_, _, _, _, _, _, _]) C dX10_work_9 (by decide) rfl ?_
  refine jx_iload_n C dX10_work_11 rfl ?_
  refine jx_iconst (v := 1) C dX10_work_12 (by decide) ?_
  refine jx_ic_neF (tgt := 44) C dX10_work_13 (by decide) (by decide) ?_
  refine jx_aload_n C dX10_work_16 rfl ?_
  refine jx_get C fl_10_19_9 dX10_work_17 (by decide) gg_0 rfl ?_
  refine jx_one C (jr_V C (c_6_isEmpty) vw_10_186 (by decide) gg_44 rfl rfl ⟨Nat.le_of_ble_eq_true rfl, Nat.le_of_ble_eq_true rfl⟩ ⟨Nat.le_of_ble_eq_true rfl, Nat.le_of_ble_eq_true rfl⟩ dX10_work_20 rfl (Nat.le_of_ble_eq_true rfl)) ?_
  rw [up2_ne (by omega), bI_f (show ¬ I 44 2 = 0 by rw [hco]; exact nI_ne0 (by omega) (by omega))]
  refine jx_if_eqT (tgt := 35) C dX10_work_23 (by decide) (by decide) ?_
  refine jx_aload_n C dX10_work_35 rfl ?_
  refine jx_get C fl_10_19_9 dX10_work_36 (by decide) gg_0 rfl ?_
  refine jx_one C (jr_V C (c_6_draw (by rw [up2_ne (by omega)]; exact hfi) (by rw [up2_ne (by omega)]; exact hco) h1 h2) vw_10_189 (by decide) gg_44 rfl rfl ⟨Nat.le_of_ble_eq_true rfl, Nat.le_of_ble_eq_true rfl⟩ ⟨Nat.le_of_ble_eq_true rfl, Nat.le_of_ble_eq_true rfl⟩ dX10_work_39 rfl (Nat.le_of_ble_eq_true rfl)) ?_
  rw [up2_ne (by omega)]
  refine jx_istore (lv1 := [_, _, _, _, _, _, _]) C dX10_work_42 (by decide) rfl ?_
  refine jx_aload_n C dX10_work_44 rfl ?_
  refine jx_ifnonnull (tgt := 57) C dX10_work_45 (by decide) ?_
  refine jx_aload_n C dX10_work_57 rfl ?_
  refine jx_iload_n C dX10_work_58 rfl ?_
  refine jx_one C (jv_has C dX10_work_59 hk ⟨by decide, by decide⟩ ⟨Nat.zero_le _, Nat.zero_le _⟩ (Nat.le_of_ble_eq_true rfl)) ?_
  rw [up2_ne (by omega), up2_ne (by omega), up2_ne (by omega), bI_f hin]
  refine jx_if_neF (tgt := 74) C dX10_work_62 (by decide) (by decide) ?_
  refine jx_aload_n C dX10_work_65 rfl ?_
  refine jx_get C fl_10_40_9 dX10_work_66 (by decide) gg_0 rfl ?_
  refine jx_iconst (v := 2) C dX10_work_69 (by decide) ?_
  refine jx_one C (jr_V C (c_4_tell (f := 2) (by decide) (by decide)) vw_10_62 (by decide) gg_63 rfl rfl ⟨Nat.le_of_ble_eq_true rfl, Nat.le_of_ble_eq_true rfl⟩ ⟨Nat.le_of_ble_eq_true rfl, Nat.le_of_ble_eq_true rfl⟩ dX10_work_70 rfl (Nat.le_of_ble_eq_true rfl)) ?_
  exact jx_iret C dX10_work_73 ⟨rfl, rfl, rfl, rfl⟩
set_option maxRecDepth 100000 in
set_option maxHeartbeats 4000000 in
theorem c_10_work_1 {l : Launch} {D : va_G} {K : Nat → ClassId} {A : Nat → Nat} {I : TI} {U : TU} {P : TP} {k n : Nat} {v : Int32} (hk : k < 20) (hn : n < 24) (hin : inR (I (4 + 2 * k) 0) (nI n)) {fi co : Nat} (hfi : I 44 1 = nI fi) (hco : I 44 2 = nI (co + 1)) (h1 : fi < 16) (h2 : co < 16) : MM l yX10_work cX10_work 7 (some .int) 3 D K A (I) (U) (P) [.ref (A 0), .int 1, .ref (A (4 + 2 * k)), .int (nI n), .int v] (XE (some (.int (tl (laI k n (cutTo (k % 5) (I 45 fi)) (up2 (up2 (up2 I 63 1 0) 44 1 (nI ((fi + 1) % 16))) 44 2 (nI co))) (laU k n (fHo (f8 (I 45 fi))) U) k n))) (laI k n (cutTo (k % 5) (I 45 fi)) (up2 (up2 (up2 I 63 1 0) 44 1 (nI ((fi + 1) % 16))) 44 2 (nI co))) (laU k n (fHo (f8 (I 45 fi))) U) P) := by
  refine MM.go (own := RX10) (lv0 := [some (.ref (A 0)), some (.int 1), some (.ref (A (4 + 2 * k))), some (.int (nI n)), some (.int v), none, none]) rfl (by decide) rfl (Nat.le_of_ble_eq_true rfl) rfl ?_
  intro p e s m args below meth c C
  refine jx_aload_n C dX10_work_0 rfl ?_
  refine jx_get C fl_10_40_9 dX10_work_1 (by decide) gg_0 rfl ?_
  refine jx_void C (jr_V C (c_4_begin) vw_10_59 (by decide) gg_63 rfl rfl ⟨Nat.le_of_ble_eq_true rfl, Nat.le_of_ble_eq_true rfl⟩ ⟨Nat.le_of_ble_eq_true rfl, Nat.le_of_ble_eq_true rfl⟩ dX10_work_4 rfl (Nat.le_of_ble_eq_true rfl)) ?_
  refine jx_iload C dX10_work_7 rfl ?_
  refine jx_istore (lv1 := [_, _, _, _, _, _, _]) C dX10_work_9 (by decide) rfl ?_
  refine jx_iload_n C dX10_work_11 rfl ?_
  refine jx_iconst (v := 1) C dX10_work_12 (by decide) ?_
  refine jx_ic_neF (tgt := 44) C dX10_work_13 (by decide) (by decide) ?_
  refine jx_aload_n C dX10_work_16 rfl ?_
  refine jx_get C fl_10_19_9 dX10_work_17 (by decide) gg_0 rfl ?_
  refine jx_one C (jr_V C (c_6_isEmpty) vw_10_186 (by decide) gg_44 rfl rfl ⟨Nat.le_of_ble_eq_true rfl, Nat.le_of_ble_eq_true rfl⟩ ⟨Nat.le_of_ble_eq_true rfl, Nat.le_of_ble_eq_true rfl⟩ dX10_work_20 rfl (Nat.le_of_ble_eq_true rfl)) ?_
  rw [up2_ne (by omega), bI_f (show ¬ I 44 2 = 0 by rw [hco]; exact nI_ne0 (by omega) (by omega))]
  refine jx_if_eqT (tgt := 35) C dX10_work_23 (by decide) (by decide) ?_
  refine jx_aload_n C dX10_work_35 rfl ?_
  refine jx_get C fl_10_19_9 dX10_work_36 (by decide) gg_0 rfl ?_
  refine jx_one C (jr_V C (c_6_draw (by rw [up2_ne (by omega)]; exact hfi) (by rw [up2_ne (by omega)]; exact hco) h1 h2) vw_10_189 (by decide) gg_44 rfl rfl ⟨Nat.le_of_ble_eq_true rfl, Nat.le_of_ble_eq_true rfl⟩ ⟨Nat.le_of_ble_eq_true rfl, Nat.le_of_ble_eq_true rfl⟩ dX10_work_39 rfl (Nat.le_of_ble_eq_true rfl)) ?_
  rw [up2_ne (by omega)]
  refine jx_istore (lv1 := [_, _, _, _, _, _, _]) C dX10_work_42 (by decide) rfl ?_
  refine jx_aload_n C dX10_work_44 rfl ?_
  refine jx_ifnonnull (tgt := 57) C dX10_work_45 (by decide) ?_
  refine jx_aload_n C dX10_work_57 rfl ?_
  refine jx_iload_n C dX10_work_58 rfl ?_
  refine jx_one C (jv_has C dX10_work_59 hk ⟨by decide, by decide⟩ ⟨Nat.zero_le _, Nat.zero_le _⟩ (Nat.le_of_ble_eq_true rfl)) ?_
  rw [up2_ne (by omega), up2_ne (by omega), up2_ne (by omega), bI_t hin]
  refine jx_if_neT (tgt := 74) C dX10_work_62 (by decide) (by decide) ?_
  refine jx_aload_n C dX10_work_74 rfl ?_
  refine jx_iload_n C dX10_work_75 rfl ?_
  refine jx_aload_n C dX10_work_76 rfl ?_
  refine jx_iload_n C dX10_work_77 rfl ?_
  refine jx_iload C dX10_work_78 rfl ?_
  refine jx_one C (jr_V C (c_10_change1 hk hn) vw_10_192 (by decide) gg_0 rfl rfl ⟨Nat.le_of_ble_eq_true rfl, Nat.le_of_ble_eq_true rfl⟩ ⟨Nat.le_of_ble_eq_true rfl, Nat.le_of_ble_eq_true rfl⟩ dX10_work_80 rfl (Nat.le_of_ble_eq_true rfl)) ?_
  refine jx_istore (lv1 := [_, _, _, _, _, _, _]) C dX10_work_83 (by decide) rfl ?_
  refine jx_iload C dX10_work_85 rfl ?_
  refine jx_if_neF (tgt := 98) C dX10_work_87 (by decide) (by decide) ?_
  refine jx_aload_n C dX10_work_90 rfl ?_
  refine jx_iload_n C dX10_work_91 rfl ?_
  refine jx_one C (jv_tells C dX10_work_92 hk hn okLay ⟨by decide, by decide⟩ ⟨Nat.zero_le _, Nat.zero_le _⟩ (Nat.le_of_ble_eq_true rfl)) ?_
  refine jx_goto (tgt := 107) C dX10_work_95 (by decide) ?_
  exact jx_iret C dX10_work_107 ⟨rfl, rfl, rfl, rfl⟩
set_option maxRecDepth 100000 in
set_option maxHeartbeats 4000000 in
theorem c_10_work_gN {l : Launch} {D : va_G} {K : Nat → ClassId} {A : Nat → Nat} {I : TI} {U : TU} {P : TP} {kd : Nat} (hkd : ¬ nI kd = 1) {x v : Int32} : MM l yX10_work cX10_work 7 (some .int) 3 D K A (I) (U) (P) [.ref (A 0), .int (nI kd), .null, .int x, .int v] (XE (some (.int 0)) (tel (up2 I 63 1 0) 1) U P) := by
  refine MM.go (own := RX10) (lv0 := [some (.ref (A 0)), some (.int (nI kd)), some (.null), some (.int x), some (.int v), none, none]) rfl (by decide) rfl (Nat.le_of_ble_eq_true rfl) rfl ?_
  intro p e s m args below meth c C
  refine jx_aload_n C dX10_work_0 rfl ?_
  refine jx_get C fl_10_40_9 dX10_work_1 (by decide) gg_0 rfl ?_
  refine jx_void C (jr_V C (c_4_begin) vw_10_59 (by decide) gg_63 rfl rfl ⟨Nat.le_of_ble_eq_true rfl, Nat.le_of_ble_eq_true rfl⟩ ⟨Nat.le_of_ble_eq_true rfl, Nat.le_of_ble_eq_true rfl⟩ dX10_work_4 rfl (Nat.le_of_ble_eq_true rfl)) ?_
  refine jx_iload C dX10_work_7 rfl ?_
  refine jx_istore (lv1 := [_, _, _, _, _, _, _]) C dX10_work_9 (by decide) rfl ?_
  refine jx_iload_n C dX10_work_11 rfl ?_
  refine jx_iconst (v := 1) C dX10_work_12 (by decide) ?_
  refine jx_ic_neT (tgt := 44) C dX10_work_13 (by decide) hkd ?_
  refine jx_aload_nN C dX10_work_44 rfl ?_
  refine jx_ifnonnullN C dX10_work_45 ?_
  refine jx_aload_n C dX10_work_48 rfl ?_
  refine jx_get C fl_10_40_9 dX10_work_49 (by decide) gg_0 rfl ?_
  refine jx_iconst (v := 1) C dX10_work_52 (by decide) ?_
  refine jx_one C (jr_V C (c_4_tell (f := 1) (by decide) (by decide)) vw_10_62 (by decide) gg_63 rfl rfl ⟨Nat.le_of_ble_eq_true rfl, Nat.le_of_ble_eq_true rfl⟩ ⟨Nat.le_of_ble_eq_true rfl, Nat.le_of_ble_eq_true rfl⟩ dX10_work_53 rfl (Nat.le_of_ble_eq_true rfl)) ?_
  exact jx_iret C dX10_work_56 ⟨rfl, rfl, rfl, rfl⟩
set_option maxRecDepth 100000 in
set_option maxHeartbeats 4000000 in
theorem c_10_work_go {l : Launch} {D : va_G} {K : Nat → ClassId} {A : Nat → Nat} {I : TI} {U : TU} {P : TP} {kd : Nat} (hkd : ¬ nI kd = 1) {x v : Int32} {k : Nat} (hk : k < 20) (hin : ¬ inR (I (4 + 2 * k) 0) x) : MM l yX10_work cX10_work 7 (some .int) 3 D K A (I) (U) (P) [.ref (A 0), .int (nI kd), .ref (A (4 + 2 * k)), .int x, .int v] (XE (some (.int 0)) (tel (up2 I 63 1 0) 2) U P) := by
  refine MM.go (own := RX10) (lv0 := [some (.ref (A 0)), some (.int (nI kd)), some (.ref (A (4 + 2 * k))), some (.int x), some (.int v), none, none]) rfl (by decide) rfl (Nat.le_of_ble_eq_true rfl) rfl ?_
  intro p e s m args below meth c C
  refine jx_aload_n C dX10_work_0 rfl ?_
  refine jx_get C fl_10_40_9 dX10_work_1 (by decide) gg_0 rfl ?_
  refine jx_void C (jr_V C (c_4_begin) vw_10_59 (by decide) gg_63 rfl rfl ⟨Nat.le_of_ble_eq_true rfl, Nat.le_of_ble_eq_true rfl⟩ ⟨Nat.le_of_ble_eq_true rfl, Nat.le_of_ble_eq_true rfl⟩ dX10_work_4 rfl (Nat.le_of_ble_eq_true rfl)) ?_
  refine jx_iload C dX10_work_7 rfl ?_
  refine jx_istore (lv1 := [_, _, _, _, _, _, _]) C dX10_work_9 (by decide) rfl ?_
  refine jx_iload_n C dX10_work_11 rfl ?_
  refine jx_iconst (v := 1) C dX10_work_12 (by decide) ?_
  refine jx_ic_neT (tgt := 44) C dX10_work_13 (by decide) hkd ?_
  refine jx_aload_n C dX10_work_44 rfl ?_
  refine jx_ifnonnull (tgt := 57) C dX10_work_45 (by decide) ?_
  refine jx_aload_n C dX10_work_57 rfl ?_
  refine jx_iload_n C dX10_work_58 rfl ?_
  refine jx_one C (jv_has C dX10_work_59 hk ⟨by decide, by decide⟩ ⟨Nat.zero_le _, Nat.zero_le _⟩ (Nat.le_of_ble_eq_true rfl)) ?_
  rw [up2_ne (by omega), bI_f hin]
  refine jx_if_neF (tgt := 74) C dX10_work_62 (by decide) (by decide) ?_
  refine jx_aload_n C dX10_work_65 rfl ?_
  refine jx_get C fl_10_40_9 dX10_work_66 (by decide) gg_0 rfl ?_
  refine jx_iconst (v := 2) C dX10_work_69 (by decide) ?_
  refine jx_one C (jr_V C (c_4_tell (f := 2) (by decide) (by decide)) vw_10_62 (by decide) gg_63 rfl rfl ⟨Nat.le_of_ble_eq_true rfl, Nat.le_of_ble_eq_true rfl⟩ ⟨Nat.le_of_ble_eq_true rfl, Nat.le_of_ble_eq_true rfl⟩ dX10_work_70 rfl (Nat.le_of_ble_eq_true rfl)) ?_
  exact jx_iret C dX10_work_73 ⟨rfl, rfl, rfl, rfl⟩
set_option maxRecDepth 100000 in
set_option maxHeartbeats 4000000 in
theorem c_10_work_0 {l : Launch} {D : va_G} {K : Nat → ClassId} {A : Nat → Nat} {I : TI} {U : TU} {P : TP} {k n : Nat} {v : Int32} (hk : k < 20) (hn : n < 24) (hin : inR (I (4 + 2 * k) 0) (nI n)) (ok : okE I U k n) : MM l yX10_work cX10_work 7 (some .int) 3 D K A (I) (U) (P) [.ref (A 0), .int 0, .ref (A (4 + 2 * k)), .int (nI n), .int v] (XE (some (.int (tl (up2 I 63 1 0) U k n))) (up2 I 63 1 0) U P) := by
  refine MM.go (own := RX10) (lv0 := [some (.ref (A 0)), some (.int 0), some (.ref (A (4 + 2 * k))), some (.int (nI n)), some (.int v), none, none]) rfl (by decide) rfl (Nat.le_of_ble_eq_true rfl) rfl ?_
  intro p e s m args below meth c C
  refine jx_aload_n C dX10_work_0 rfl ?_
  refine jx_get C fl_10_40_9 dX10_work_1 (by decide) gg_0 rfl ?_
  refine jx_void C (jr_V C (c_4_begin) vw_10_59 (by decide) gg_63 rfl rfl ⟨Nat.le_of_ble_eq_true rfl, Nat.le_of_ble_eq_true rfl⟩ ⟨Nat.le_of_ble_eq_true rfl, Nat.le_of_ble_eq_true rfl⟩ dX10_work_4 rfl (Nat.le_of_ble_eq_true rfl)) ?_
  refine jx_iload C dX10_work_7 rfl ?_
  refine jx_istore (lv1 := [_, _, _, _, _, _, _]) C dX10_work_9 (by decide) rfl ?_
  refine jx_iload_n C dX10_work_11 rfl ?_
  refine jx_iconst (v := 1) C dX10_work_12 (by decide) ?_
  refine jx_ic_neT (tgt := 44) C dX10_work_13 (by decide) (by decide) ?_
  refine jx_aload_n C dX10_work_44 rfl ?_
  refine jx_ifnonnull (tgt := 57) C dX10_work_45 (by decide) ?_
  refine jx_aload_n C dX10_work_57 rfl ?_
  refine jx_iload_n C dX10_work_58 rfl ?_
  refine jx_one C (jv_has C dX10_work_59 hk ⟨by decide, by decide⟩ ⟨Nat.zero_le _, Nat.zero_le _⟩ (Nat.le_of_ble_eq_true rfl)) ?_
  rw [up2_ne (by omega), bI_t hin]
  refine jx_if_neT (tgt := 74) C dX10_work_62 (by decide) (by decide) ?_
  refine jx_aload_n C dX10_work_74 rfl ?_
  refine jx_iload_n C dX10_work_75 rfl ?_
  refine jx_aload_n C dX10_work_76 rfl ?_
  refine jx_iload_n C dX10_work_77 rfl ?_
  refine jx_iload C dX10_work_78 rfl ?_
  refine jx_one C (jr_V C (c_10_change0 hk hn) vw_10_192 (by decide) gg_0 rfl rfl ⟨Nat.le_of_ble_eq_true rfl, Nat.le_of_ble_eq_true rfl⟩ ⟨Nat.le_of_ble_eq_true rfl, Nat.le_of_ble_eq_true rfl⟩ dX10_work_80 rfl (Nat.le_of_ble_eq_true rfl)) ?_
  refine jx_istore (lv1 := [_, _, _, _, _, _, _]) C dX10_work_83 (by decide) rfl ?_
  refine jx_iload C dX10_work_85 rfl ?_
  refine jx_if_neF (tgt := 98) C dX10_work_87 (by decide) (by decide) ?_
  refine jx_aload_n C dX10_work_90 rfl ?_
  refine jx_iload_n C dX10_work_91 rfl ?_
  refine jx_one C (jv_tells C dX10_work_92 hk hn (okE_I ok (by omega)) ⟨by decide, by decide⟩ ⟨Nat.zero_le _, Nat.zero_le _⟩ (Nat.le_of_ble_eq_true rfl)) ?_
  refine jx_goto (tgt := 107) C dX10_work_95 (by decide) ?_
  exact jx_iret C dX10_work_107 ⟨rfl, rfl, rfl, rfl⟩
set_option maxRecDepth 100000 in
set_option maxHeartbeats 4000000 in
theorem c_10_work_2e {l : Launch} {D : va_G} {K : Nat → ClassId} {A : Nat → Nat} {I : TI} {U : TU} {P : TP} {k n : Nat} {v : Int32} (hk : k < 20) (hn : n < 24) (hin : inR (I (4 + 2 * k) 0) (nI n)) (h0 : I 44 2 = 0) : MM l yX10_work cX10_work 7 (some .int) 3 D K A (I) (U) (P) [.ref (A 0), .int 2, .ref (A (4 + 2 * k)), .int (nI n), .int v] (XE (some (.int 0)) (tel (up2 I 63 1 0) 4) U P) := by
  refine MM.go (own := RX10) (lv0 := [some (.ref (A 0)), some (.int 2), some (.ref (A (4 + 2 * k))), some (.int (nI n)), some (.int v), none, none]) rfl (by decide) rfl (Nat.le_of_ble_eq_true rfl) rfl ?_
  intro p e s m args below meth c C
  refine jx_aload_n C dX10_work_0 rfl ?_
  refine jx_get C fl_10_40_9 dX10_work_1 (by decide) gg_0 rfl ?_
  refine jx_void C (jr_V C (c_4_begin) vw_10_59 (by decide) gg_63 rfl rfl ⟨Nat.le_of_ble_eq_true rfl, Nat.le_of_ble_eq_true rfl⟩ ⟨Nat.le_of_ble_eq_true rfl, Nat.le_of_ble_eq_true rfl⟩ dX10_work_4 rfl (Nat.le_of_ble_eq_true rfl)) ?_
  refine jx_iload C dX10_work_7 rfl ?_
  refine jx_istore (lv1 := [_, _, _, _, _, _, _]) C dX10_work_9 (by decide) rfl ?_
  refine jx_iload_n C dX10_work_11 rfl ?_
  refine jx_iconst (v := 1) C dX10_work_12 (by decide) ?_
  refine jx_ic_neT (tgt := 44) C dX10_work_13 (by decide) (by decide) ?_
  refine jx_aload_n C dX10_work_44 rfl ?_
  refine jx_ifnonnull (tgt := 57) C dX10_work_45 (by decide) ?_
  refine jx_aload_n C dX10_work_57 rfl ?_
  refine jx_iload_n C dX10_work_58 rfl ?_
  refine jx_one C (jv_has C dX10_work_59 hk ⟨by decide, by decide⟩ ⟨Nat.zero_le _, Nat.zero_le _⟩ (Nat.le_of_ble_eq_true rfl)) ?_
  rw [up2_ne (by omega), bI_t hin]
  refine jx_if_neT (tgt := 74) C dX10_work_62 (by decide) (by decide) ?_
  refine jx_aload_n C dX10_work_74 rfl ?_
  refine jx_iload_n C dX10_work_75 rfl ?_
  refine jx_aload_n C dX10_work_76 rfl ?_
  refine jx_iload_n C dX10_work_77 rfl ?_
  refine jx_iload C dX10_work_78 rfl ?_
  refine jx_one C (jr_V C (c_10_change2e hk hn (by rw [up2_ne (by omega)]; exact h0)) vw_10_192 (by decide) gg_0 rfl rfl ⟨Nat.le_of_ble_eq_true rfl, Nat.le_of_ble_eq_true rfl⟩ ⟨Nat.le_of_ble_eq_true rfl, Nat.le_of_ble_eq_true rfl⟩ dX10_work_80 rfl (Nat.le_of_ble_eq_true rfl)) ?_
  refine jx_istore (lv1 := [_, _, _, _, _, _, _]) C dX10_work_83 (by decide) rfl ?_
  refine jx_iload C dX10_work_85 rfl ?_
  refine jx_if_neT (tgt := 98) C dX10_work_87 (by decide) (by decide) ?_
  refine jx_aload_n C dX10_work_98 rfl ?_
  refine jx_get C fl_10_40_9 dX10_work_99 (by decide) gg_0 rfl ?_
  refine jx_iload C dX10_work_102 rfl ?_
  refine jx_one C (jr_V C (c_4_tell (f := 4) (by decide) (by decide)) vw_10_62 (by decide) gg_63 rfl rfl ⟨Nat.le_of_ble_eq_true rfl, Nat.le_of_ble_eq_true rfl⟩ ⟨Nat.le_of_ble_eq_true rfl, Nat.le_of_ble_eq_true rfl⟩ dX10_work_104 rfl (Nat.le_of_ble_eq_true rfl)) ?_
  exact jx_iret C dX10_work_107 ⟨rfl, rfl, rfl, rfl⟩
set_option maxRecDepth 100000 in
set_option maxHeartbeats 4000000 in
theorem c_10_work_2 {l : Launch} {D : va_G} {K : Nat → ClassId} {A : Nat → Nat} {I : TI} {U : TU} {P : TP} {k n : Nat} {v : Int32} (hk : k < 20) (hn : n < 24) (hin : inR (I (4 + 2 * k) 0) (nI n)) (ok : okE I U k n) {fi co : Nat} (hfi : I 44 1 = nI fi) (hco : I 44 2 = nI (co + 1)) (h1 : fi < 16) (h2 : co < 16) : MM l yX10_work cX10_work 7 (some .int) 3 D K A (I) (U) (P) [.ref (A 0), .int 2, .ref (A (4 + 2 * k)), .int (nI n), .int v] (XE (some (.int (tl (laI k n (vPull (k % 5) (I (5 + 2 * k) n) (I 45 fi)) (up2 (up2 (up2 I 63 1 0) 44 1 (nI ((fi + 1) % 16))) 44 2 (nI co))) (laU k n (fHo (FP.fadd (U (5 + 2 * k) n) (f8 (I 45 fi)))) U) k n))) (laI k n (vPull (k % 5) (I (5 + 2 * k) n) (I 45 fi)) (up2 (up2 (up2 I 63 1 0) 44 1 (nI ((fi + 1) % 16))) 44 2 (nI co))) (laU k n (fHo (FP.fadd (U (5 + 2 * k) n) (f8 (I 45 fi)))) U) P) := by
  refine MM.go (own := RX10) (lv0 := [some (.ref (A 0)), some (.int 2), some (.ref (A (4 + 2 * k))), some (.int (nI n)), some (.int v), none, none]) rfl (by decide) rfl (Nat.le_of_ble_eq_true rfl) rfl ?_
  intro p e s m args below meth c C
  refine jx_aload_n C dX10_work_0 rfl ?_
  refine jx_get C fl_10_40_9 dX10_work_1 (by decide) gg_0 rfl ?_
  refine jx_void C (jr_V C (c_4_begin) vw_10_59 (by decide) gg_63 rfl rfl ⟨Nat.le_of_ble_eq_true rfl, Nat.le_of_ble_eq_true rfl⟩ ⟨Nat.le_of_ble_eq_true rfl, Nat.le_of_ble_eq_true rfl⟩ dX10_work_4 rfl (Nat.le_of_ble_eq_true rfl)) ?_
  refine jx_iload C dX10_work_7 rfl ?_
  refine jx_istore (lv1 := [_, _, _, _, _, _, _]) C dX10_work_9 (by decide) rfl ?_
  refine jx_iload_n C dX10_work_11 rfl ?_
  refine jx_iconst (v := 1) C dX10_work_12 (by decide) ?_
  refine jx_ic_neT (tgt := 44) C dX10_work_13 (by decide) (by decide) ?_
  refine jx_aload_n C dX10_work_44 rfl ?_
  refine jx_ifnonnull (tgt := 57) C dX10_work_45 (by decide) ?_
  refine jx_aload_n C dX10_work_57 rfl ?_
  refine jx_iload_n C dX10_work_58 rfl ?_
  refine jx_one C (jv_has C dX10_work_59 hk ⟨by decide, by decide⟩ ⟨Nat.zero_le _, Nat.zero_le _⟩ (Nat.le_of_ble_eq_true rfl)) ?_
  rw [up2_ne (by omega), bI_t hin]
  refine jx_if_neT (tgt := 74) C dX10_work_62 (by decide) (by decide) ?_
  refine jx_aload_n C dX10_work_74 rfl ?_
  refine jx_iload_n C dX10_work_75 rfl ?_
  refine jx_aload_n C dX10_work_76 rfl ?_
  refine jx_iload_n C dX10_work_77 rfl ?_
  refine jx_iload C dX10_work_78 rfl ?_
  refine jx_one C (jr_V C (c_10_change2 hk hn (okE_I ok (by omega)) (by rw [up2_ne (by omega)]; exact hfi) (by rw [up2_ne (by omega)]; exact hco) h1 h2) vw_10_192 (by decide) gg_0 rfl rfl ⟨Nat.le_of_ble_eq_true rfl, Nat.le_of_ble_eq_true rfl⟩ ⟨Nat.le_of_ble_eq_true rfl, Nat.le_of_ble_eq_true rfl⟩ dX10_work_80 rfl (Nat.le_of_ble_eq_true rfl)) ?_
  simp only [up2_ne (show ¬ (5 + 2 * k = 63 ∧ n = 1) by omega), up2_ne (show ¬ (45 = 63 ∧ fi = 1) by omega)]
  refine jx_istore (lv1 := [_, _, _, _, _, _, _]) C dX10_work_83 (by decide) rfl ?_
  refine jx_iload C dX10_work_85 rfl ?_
  refine jx_if_neF (tgt := 98) C dX10_work_87 (by decide) (by decide) ?_
  refine jx_aload_n C dX10_work_90 rfl ?_
  refine jx_iload_n C dX10_work_91 rfl ?_
  refine jx_one C (jv_tells C dX10_work_92 hk hn (okPull ok) ⟨by decide, by decide⟩ ⟨Nat.zero_le _, Nat.zero_le _⟩ (Nat.le_of_ble_eq_true rfl)) ?_
  refine jx_goto (tgt := 107) C dX10_work_95 (by decide) ?_
  exact jx_iret C dX10_work_107 ⟨rfl, rfl, rfl, rfl⟩
set_option maxRecDepth 100000 in
set_option maxHeartbeats 4000000 in
theorem c_10_work_3 {l : Launch} {D : va_G} {K : Nat → ClassId} {A : Nat → Nat} {I : TI} {U : TU} {P : TP} {k n : Nat} {v : Int32} (hk : k < 20) (hn : n < 24) (hin : inR (I (4 + 2 * k) 0) (nI n)) (ok : okE I U k n) : MM l yX10_work cX10_work 7 (some .int) 3 D K A (I) (U) (P) [.ref (A 0), .int 3, .ref (A (4 + 2 * k)), .int (nI n), .int v] (XE (some (.int (tl (laI k n (vPull (k % 5) (I (5 + 2 * k) n) 1) (up2 I 63 1 0)) (laU k n (fHo (FP.fadd (U (5 + 2 * k) n) (f8 8))) U) k n))) (laI k n (vPull (k % 5) (I (5 + 2 * k) n) 1) (up2 I 63 1 0)) (laU k n (fHo (FP.fadd (U (5 + 2 * k) n) (f8 8))) U) P) := by
  refine MM.go (own := RX10) (lv0 := [some (.ref (A 0)), some (.int 3), some (.ref (A (4 + 2 * k))), some (.int (nI n)), some (.int v), none, none]) rfl (by decide) rfl (Nat.le_of_ble_eq_true rfl) rfl ?_
  intro p e s m args below meth c C
  refine jx_aload_n C dX10_work_0 rfl ?_
  refine jx_get C fl_10_40_9 dX10_work_1 (by decide) gg_0 rfl ?_
  refine jx_void C (jr_V C (c_4_begin) vw_10_59 (by decide) gg_63 rfl rfl ⟨Nat.le_of_ble_eq_true rfl, Nat.le_of_ble_eq_true rfl⟩ ⟨Nat.le_of_ble_eq_true rfl, Nat.le_of_ble_eq_true rfl⟩ dX10_work_4 rfl (Nat.le_of_ble_eq_true rfl)) ?_
  refine jx_iload C dX10_work_7 rfl ?_
  refine jx_istore (lv1 := [_, _, _, _, _, _, _]) C dX10_work_9 (by decide) rfl ?_
  refine jx_iload_n C dX10_work_11 rfl ?_
  refine jx_iconst (v := 1) C dX10_work_12 (by decide) ?_
  refine jx_ic_neT (tgt := 44) C dX10_work_13 (by decide) (by decide) ?_
  refine jx_aload_n C dX10_work_44 rfl ?_
  refine jx_ifnonnull (tgt := 57) C dX10_work_45 (by decide) ?_
  refine jx_aload_n C dX10_work_57 rfl ?_
  refine jx_iload_n C dX10_work_58 rfl ?_
  refine jx_one C (jv_has C dX10_work_59 hk ⟨by decide, by decide⟩ ⟨Nat.zero_le _, Nat.zero_le _⟩ (Nat.le_of_ble_eq_true rfl)) ?_
  rw [up2_ne (by omega), bI_t hin]
  refine jx_if_neT (tgt := 74) C dX10_work_62 (by decide) (by decide) ?_
  refine jx_aload_n C dX10_work_74 rfl ?_
  refine jx_iload_n C dX10_work_75 rfl ?_
  refine jx_aload_n C dX10_work_76 rfl ?_
  refine jx_iload_n C dX10_work_77 rfl ?_
  refine jx_iload C dX10_work_78 rfl ?_
  refine jx_one C (jr_V C (c_10_change3 hk hn (okE_I ok (by omega))) vw_10_192 (by decide) gg_0 rfl rfl ⟨Nat.le_of_ble_eq_true rfl, Nat.le_of_ble_eq_true rfl⟩ ⟨Nat.le_of_ble_eq_true rfl, Nat.le_of_ble_eq_true rfl⟩ dX10_work_80 rfl (Nat.le_of_ble_eq_true rfl)) ?_
  simp only [up2_ne (show ¬ (5 + 2 * k = 63 ∧ n = 1) by omega)]
  refine jx_istore (lv1 := [_, _, _, _, _, _, _]) C dX10_work_83 (by decide) rfl ?_
  refine jx_iload C dX10_work_85 rfl ?_
  refine jx_if_neF (tgt := 98) C dX10_work_87 (by decide) (by decide) ?_
  refine jx_aload_n C dX10_work_90 rfl ?_
  refine jx_iload_n C dX10_work_91 rfl ?_
  refine jx_one C (jv_tells C dX10_work_92 hk hn (okPull ok) ⟨by decide, by decide⟩ ⟨Nat.zero_le _, Nat.zero_le _⟩ (Nat.le_of_ble_eq_true rfl)) ?_
  refine jx_goto (tgt := 107) C dX10_work_95 (by decide) ?_
  exact jx_iret C dX10_work_107 ⟨rfl, rfl, rfl, rfl⟩
set_option maxRecDepth 100000 in
set_option maxHeartbeats 4000000 in
theorem c_10_work_4z {l : Launch} {D : va_G} {K : Nat → ClassId} {A : Nat → Nat} {I : TI} {U : TU} {P : TP} {k n : Nat} (hk : k < 20) (h3 : ¬ k % 5 = 3) (hin : inR (I (4 + 2 * k) 0) (nI n)) : MM l yX10_work cX10_work 7 (some .int) 3 D K A (I) (U) (P) [.ref (A 0), .int 4, .ref (A (4 + 2 * k)), .int (nI n), .int 0] (XE (some (.int 0)) (tel (up2 I 63 1 0) 5) U P) := by
  refine MM.go (own := RX10) (lv0 := [some (.ref (A 0)), some (.int 4), some (.ref (A (4 + 2 * k))), some (.int (nI n)), some (.int 0), none, none]) rfl (by decide) rfl (Nat.le_of_ble_eq_true rfl) rfl ?_
  intro p e s m args below meth c C
  refine jx_aload_n C dX10_work_0 rfl ?_
  refine jx_get C fl_10_40_9 dX10_work_1 (by decide) gg_0 rfl ?_
  refine jx_void C (jr_V C (c_4_begin) vw_10_59 (by decide) gg_63 rfl rfl ⟨Nat.le_of_ble_eq_true rfl, Nat.le_of_ble_eq_true rfl⟩ ⟨Nat.le_of_ble_eq_true rfl, Nat.le_of_ble_eq_true rfl⟩ dX10_work_4 rfl (Nat.le_of_ble_eq_true rfl)) ?_
  refine jx_iload C dX10_work_7 rfl ?_
  refine jx_istore (lv1 := [_, _, _, _, _, _, _]) C dX10_work_9 (by decide) rfl ?_
  refine jx_iload_n C dX10_work_11 rfl ?_
  refine jx_iconst (v := 1) C dX10_work_12 (by decide) ?_
  refine jx_ic_neT (tgt := 44) C dX10_work_13 (by decide) (by decide) ?_
  refine jx_aload_n C dX10_work_44 rfl ?_
  refine jx_ifnonnull (tgt := 57) C dX10_work_45 (by decide) ?_
  refine jx_aload_n C dX10_work_57 rfl ?_
  refine jx_iload_n C dX10_work_58 rfl ?_
  refine jx_one C (jv_has C dX10_work_59 hk ⟨by decide, by decide⟩ ⟨Nat.zero_le _, Nat.zero_le _⟩ (Nat.le_of_ble_eq_true rfl)) ?_
  rw [up2_ne (by omega), bI_t hin]
  refine jx_if_neT (tgt := 74) C dX10_work_62 (by decide) (by decide) ?_
  refine jx_aload_n C dX10_work_74 rfl ?_
  refine jx_iload_n C dX10_work_75 rfl ?_
  refine jx_aload_n C dX10_work_76 rfl ?_
  refine jx_iload_n C dX10_work_77 rfl ?_
  refine jx_iload C dX10_work_78 rfl ?_
  refine jx_one C (jr_V C (c_10_change4z (n := n) hk h3) vw_10_192 (by decide) gg_0 rfl rfl ⟨Nat.le_of_ble_eq_true rfl, Nat.le_of_ble_eq_true rfl⟩ ⟨Nat.le_of_ble_eq_true rfl, Nat.le_of_ble_eq_true rfl⟩ dX10_work_80 rfl (Nat.le_of_ble_eq_true rfl)) ?_
  refine jx_istore (lv1 := [_, _, _, _, _, _, _]) C dX10_work_83 (by decide) rfl ?_
  refine jx_iload C dX10_work_85 rfl ?_
  refine jx_if_neT (tgt := 98) C dX10_work_87 (by decide) (by decide) ?_
  refine jx_aload_n C dX10_work_98 rfl ?_
  refine jx_get C fl_10_40_9 dX10_work_99 (by decide) gg_0 rfl ?_
  refine jx_iload C dX10_work_102 rfl ?_
  refine jx_one C (jr_V C (c_4_tell (f := 5) (by decide) (by decide)) vw_10_62 (by decide) gg_63 rfl rfl ⟨Nat.le_of_ble_eq_true rfl, Nat.le_of_ble_eq_true rfl⟩ ⟨Nat.le_of_ble_eq_true rfl, Nat.le_of_ble_eq_true rfl⟩ dX10_work_104 rfl (Nat.le_of_ble_eq_true rfl)) ?_
  exact jx_iret C dX10_work_107 ⟨rfl, rfl, rfl, rfl⟩
set_option maxRecDepth 100000 in
set_option maxHeartbeats 4000000 in
theorem c_10_work_4 {l : Launch} {D : va_G} {K : Nat → ClassId} {A : Nat → Nat} {I : TI} {U : TU} {P : TP} {k n : Nat} {v : Int32} (hk : k < 20) (hn : n < 24) (hin : inR (I (4 + 2 * k) 0) (nI n)) (ok : okE I U k n) (hv : ¬ v = 0 ∨ k % 5 = 3) : MM l yX10_work cX10_work 7 (some .int) 3 D K A (I) (U) (P) [.ref (A 0), .int 4, .ref (A (4 + 2 * k)), .int (nI n), .int v] (XE (some (.int (tl (laI k n (vPart (k % 5) (I (5 + 2 * k) n) v) (up2 I 63 1 0)) (laU k n (fHo (FP.fdiv (U (5 + 2 * k) n) (FP.i2f v))) U) k n))) (laI k n (vPart (k % 5) (I (5 + 2 * k) n) v) (up2 I 63 1 0)) (laU k n (fHo (FP.fdiv (U (5 + 2 * k) n) (FP.i2f v))) U) P) := by
  refine MM.go (own := RX10) (lv0 := [some (.ref (A 0)), some (.int 4), some (.ref (A (4 + 2 * k))), some (.int (nI n)), some (.int v), none, none]) rfl (by decide) rfl (Nat.le_of_ble_eq_true rfl) rfl ?_
  intro p e s m args below meth c C
  refine jx_aload_n C dX10_work_0 rfl ?_
  refine jx_get C fl_10_40_9 dX10_work_1 (by decide) gg_0 rfl ?_
  refine jx_void C (jr_V C (c_4_begin) vw_10_59 (by decide) gg_63 rfl rfl ⟨Nat.le_of_ble_eq_true rfl, Nat.le_of_ble_eq_true rfl⟩ ⟨Nat.le_of_ble_eq_true rfl, Nat.le_of_ble_eq_true rfl⟩ dX10_work_4 rfl (Nat.le_of_ble_eq_true rfl)) ?_
  refine jx_iload C dX10_work_7 rfl ?_
  refine jx_istore (lv1 := [_, _, _, _, _, _, _]) C dX10_work_9 (by decide) rfl ?_
  refine jx_iload_n C dX10_work_11 rfl ?_
  refine jx_iconst (v := 1) C dX10_work_12 (by decide) ?_
  refine jx_ic_neT (tgt := 44) C dX10_work_13 (by decide) (by decide) ?_
  refine jx_aload_n C dX10_work_44 rfl ?_
  refine jx_ifnonnull (tgt := 57) C dX10_work_45 (by decide) ?_
  refine jx_aload_n C dX10_work_57 rfl ?_
  refine jx_iload_n C dX10_work_58 rfl ?_
  refine jx_one C (jv_has C dX10_work_59 hk ⟨by decide, by decide⟩ ⟨Nat.zero_le _, Nat.zero_le _⟩ (Nat.le_of_ble_eq_true rfl)) ?_
  rw [up2_ne (by omega), bI_t hin]
  refine jx_if_neT (tgt := 74) C dX10_work_62 (by decide) (by decide) ?_
  refine jx_aload_n C dX10_work_74 rfl ?_
  refine jx_iload_n C dX10_work_75 rfl ?_
  refine jx_aload_n C dX10_work_76 rfl ?_
  refine jx_iload_n C dX10_work_77 rfl ?_
  refine jx_iload C dX10_work_78 rfl ?_
  refine jx_one C (jr_V C (c_10_change4 hk hn (okE_I ok (by omega)) hv) vw_10_192 (by decide) gg_0 rfl rfl ⟨Nat.le_of_ble_eq_true rfl, Nat.le_of_ble_eq_true rfl⟩ ⟨Nat.le_of_ble_eq_true rfl, Nat.le_of_ble_eq_true rfl⟩ dX10_work_80 rfl (Nat.le_of_ble_eq_true rfl)) ?_
  simp only [up2_ne (show ¬ (5 + 2 * k = 63 ∧ n = 1) by omega)]
  refine jx_istore (lv1 := [_, _, _, _, _, _, _]) C dX10_work_83 (by decide) rfl ?_
  refine jx_iload C dX10_work_85 rfl ?_
  refine jx_if_neF (tgt := 98) C dX10_work_87 (by decide) (by decide) ?_
  refine jx_aload_n C dX10_work_90 rfl ?_
  refine jx_iload_n C dX10_work_91 rfl ?_
  refine jx_one C (jv_tells C dX10_work_92 hk hn (okPart ok hv) ⟨by decide, by decide⟩ ⟨Nat.zero_le _, Nat.zero_le _⟩ (Nat.le_of_ble_eq_true rfl)) ?_
  refine jx_goto (tgt := 107) C dX10_work_95 (by decide) ?_
  exact jx_iret C dX10_work_107 ⟨rfl, rfl, rfl, rfl⟩
end
section
/-! work() as a function -/
def fT (k n : Nat) (I : TI) (U : TU) : Int32 × TI × TU := (tl I U k n, I, U)
def wkD (kd : Nat) (I : TI) : TI := if kd = 1 then dqI (bg I) else bg I
def wkE (kd k n : Nat) (v : Int32) (I : TI) (U : TU) : Int32 × TI × TU :=
  if kd = 1 then fT k n (laI k n (cutTo (k % 5) (dqV (bg I))) (dqI (bg I))) (laU k n (fHo (f8 (dqV (bg I)))) U)
  else if kd = 2 then (if I 44 2 = 0 then (0, tel (bg I) 4, U) else fT k n (laI k n (vPull (k % 5) (I (5 + 2 * k) n) (dqV (bg I))) (dqI (bg I))) (laU k n (fHo (FP.fadd (U (5 + 2 * k) n) (f8 (dqV (bg I))))) U))
  else if kd = 3 then fT k n (laI k n (vPull (k % 5) (I (5 + 2 * k) n) 1) (bg I)) (laU k n (fHo (FP.fadd (U (5 + 2 * k) n) (f8 8))) U)
  else if kd = 4 then (if v = 0 ∧ ¬ k % 5 = 3 then (0, tel (bg I) 5, U) else fT k n (laI k n (vPart (k % 5) (I (5 + 2 * k) n) v) (bg I)) (laU k n (fHo (FP.fdiv (U (5 + 2 * k) n) (FP.i2f v))) U))
  else fT k n (bg I) U
/-- an act of kind kd at the lane r's end i: answer, ints, floats -/
def wk (kd : Nat) (r : Option Nat) (i v : Int32) (I : TI) (U : TU) : Int32 × TI × TU :=
  if kd = 1 ∧ I 44 2 = 0 then (0, tel (bg I) 4, U) else
  match r with
  | none => (0, tel (wkD kd I) 1, U)
  | some k => if inR (I (4 + 2 * k) 0) i then wkE kd k i.toNatClampNeg v I U else (0, tel (wkD kd I) 2, U)
def okL (I : TI) (U : TU) (k : Nat) : Prop := k < 20 ∧ ∃ c : Nat, c ≤ 24 ∧ I (4 + 2 * k) 0 = nI c ∧ ∀ n, n < 24 → okE I U k n
theorem dqI_eq {I : TI} {fi co : Nat} (hfi : I 44 1 = nI fi) (hco : I 44 2 = nI (co + 1)) (h1 : fi < 16) (h2 : co < 16) : dqI (bg I) = up2 (up2 (up2 I 63 1 0) 44 1 (nI ((fi + 1) % 16))) 44 2 (nI co) := by
  have e1 : fiN (bg I) = fi := by
    unfold fiN bg
    rw [up2_ne (by omega), hfi, nI_clamp (by omega)]
  have e2 : coN (bg I) = co + 1 := by
    unfold coN bg
    rw [up2_ne (by omega), hco, nI_clamp (by omega)]
  unfold dqI
  rw [e1, e2]
  rfl
theorem dqV_eq {I : TI} {fi : Nat} (hfi : I 44 1 = nI fi) (h1 : fi < 16) : dqV (bg I) = I 45 fi := by
  have e1 : fiN (bg I) = fi := by
    unfold fiN bg
    rw [up2_ne (by omega), hfi, nI_clamp (by omega)]
  unfold dqV
  rw [e1]
  unfold bg
  rw [up2_ne (by omega)]
set_option maxRecDepth 100000 in
set_option maxHeartbeats 4000000 in
theorem c_10_work {l : Launch} {D : va_G} {K : Nat → ClassId} {A : Nat → Nat} {I : TI} {U : TU} {P : TP} {kd : Nat} {r : Option Nat} {x v : Int32} (hkd : kd < 5) (hs : okS I) (hl : ∀ k, r = some k → okL I U k) : MM l yX10_work cX10_work 7 (some .int) 3 D K A I U P [.ref (A 0), .int (nI kd), lnV A r, .int x, .int v] (XE (some (.int (wk kd r x v I U).1)) (wk kd r x v I U).2.1 (wk kd r x v I U).2.2 P) := by
  obtain ⟨fi, co, hfi, hco, h1, h2⟩ := hs
  by_cases k1 : kd = 1
  · subst k1
    by_cases h0 : I 44 2 = 0
    · rw [show wk 1 r x v I U = (0, tel (bg I) 4, U) by simp [wk, h0]]
      cases r with
      | none => exact c_10_work_1eN h0
      | some k => exact c_10_work_1eR h0
    · obtain ⟨co, rfl⟩ : ∃ c' : Nat, co = c' + 1 := by
        refine ⟨co - 1, ?_⟩
        have : co ≠ 0 := fun q => h0 (by rw [hco, q]; rfl)
        omega
      cases r with
      | none =>
        rw [show wk 1 none x v I U = (0, tel (dqI (bg I)) 1, U) by simp [wk, h0, wkD], dqI_eq hfi hco h1 (by omega)]
        exact c_10_work_1N hfi hco h1 (by omega)
      | some k =>
        obtain ⟨hk, c, hc, hck, ok⟩ := hl k rfl
        by_cases hin : inR (I (4 + 2 * k) 0) x
        · obtain ⟨n, hn, rfl⟩ := inR_of (by omega) (hck ▸ hin)
          rw [show wk 1 (some k) (nI n) v I U = wkE 1 k n v I U by simp only [wk, h0, and_false, if_false, if_pos hin, nI_clamp (show n < 2 ^ 31 by omega)]]
          rw [show wkE 1 k n v I U = fT k n (laI k n (cutTo (k % 5) (dqV (bg I))) (dqI (bg I))) (laU k n (fHo (f8 (dqV (bg I)))) U) from rfl, dqI_eq hfi hco h1 (by omega), dqV_eq hfi h1]
          exact c_10_work_1 hk (by omega) hin hfi hco h1 (by omega)
        · rw [show wk 1 (some k) x v I U = (0, tel (dqI (bg I)) 2, U) by simp only [wk, h0, and_false, if_false, if_neg hin, wkD]; rfl, dqI_eq hfi hco h1 (by omega)]
          exact c_10_work_1o hk hin hfi hco h1 (by omega)
  · have hne : ¬ nI kd = 1 := by
      rw [show (1 : Int32) = nI 1 from rfl, nI_eq (by omega) (by decide)]
      exact k1
    have hwD : wkD kd I = bg I := by rw [wkD, if_neg k1]
    cases r with
    | none =>
      rw [show wk kd none x v I U = (0, tel (bg I) 1, U) by simp only [wk, k1, false_and, if_false, hwD]]
      exact c_10_work_gN hne
    | some k =>
      obtain ⟨hk, c, hc, hck, ok⟩ := hl k rfl
      by_cases hin : inR (I (4 + 2 * k) 0) x
      · obtain ⟨n, hn, rfl⟩ := inR_of (by omega) (hck ▸ hin)
        have hok := ok n (by omega)
        rw [show wk kd (some k) (nI n) v I U = wkE kd k n v I U by simp only [wk, k1, false_and, if_false, if_pos hin, nI_clamp (show n < 2 ^ 31 by omega)]]
        rcases (show kd = 0 ∨ kd = 2 ∨ kd = 3 ∨ kd = 4 by omega) with rfl | rfl | rfl | rfl
        · exact c_10_work_0 hk (by omega) hin hok
        · by_cases h0 : I 44 2 = 0
          · rw [show wkE 2 k n v I U = (0, tel (bg I) 4, U) by simp [wkE, h0]]
            exact c_10_work_2e hk (by omega) hin h0
          · obtain ⟨co, rfl⟩ : ∃ c' : Nat, co = c' + 1 := by
              refine ⟨co - 1, ?_⟩
              have : co ≠ 0 := fun q => h0 (by rw [hco, q]; rfl)
              omega
            rw [show wkE 2 k n v I U = fT k n (laI k n (vPull (k % 5) (I (5 + 2 * k) n) (dqV (bg I))) (dqI (bg I))) (laU k n (fHo (FP.fadd (U (5 + 2 * k) n) (f8 (dqV (bg I))))) U) by simp [wkE, h0], dqI_eq hfi hco h1 (by omega), dqV_eq hfi h1]
            exact c_10_work_2 hk (by omega) hin hok hfi hco h1 (by omega)
        · exact c_10_work_3 hk (by omega) hin hok
        · by_cases hv : v = 0 ∧ ¬ k % 5 = 3
          · rw [show wkE 4 k n v I U = (0, tel (bg I) 5, U) by simp [wkE, hv]]
            obtain ⟨rfl, h3⟩ := hv
            exact c_10_work_4z hk h3 hin
          · rw [show wkE 4 k n v I U = fT k n (laI k n (vPart (k % 5) (I (5 + 2 * k) n) v) (bg I)) (laU k n (fHo (FP.fdiv (U (5 + 2 * k) n) (FP.i2f v))) U) by simp only [wkE, if_neg hv]; rfl]
            exact c_10_work_4 hk (by omega) hin hok (by
              by_cases q : v = 0
              · exact Or.inr (Classical.not_not.mp (fun h => hv ⟨q, h⟩))
              · exact Or.inl q)
      · rw [show wk kd (some k) x v I U = (0, tel (bg I) 2, U) by simp only [wk, k1, false_and, if_false, if_neg hin, hwD]]
        exact c_10_work_go hne hk hin
end
section
/-! weaveCell() -/
theorem laU_ne {k n : Nat} {y : UInt32} {U : TU} (h : ¬ k % 5 = 2) : laU k n y U = U := if_neg h
theorem laI_o {k n a b : Nat} {x : Int32} {I : TI} (h : ¬ a = 5 + 2 * k) : laI k n x I a b = I a b := by
  unfold laI
  split
  · rfl
  · exact up2_ne (by omega)
theorem tl_I {I : TI} {U : TU} {k n : Nat} (h : ¬ k % 5 = 2) : tl I U k n = I (5 + 2 * k) n := if_neg h
def lfI (r : Option Nat) (i : Int32) (I : TI) : Nat := match r with
  | none => 1
  | some k => if inR (I (4 + 2 * k) 0) i then 0 else 2
def lnI (r : Option Nat) (u : Nat) (I : TI) : Int32 := match r with
  | none => 0
  | some k => I (5 + 2 * k) u
/-- the fault at which the cell u of a frame's weaving ends, or 0 -/
def wcF (P : TP) (a u : Nat) (I : TI) : Nat :=
  if ¬ lfI (P (5 * a + 3)) (nI u) I = 0 then lfI (P (5 * a + 3)) (nI u) I
  else if lnI (P (5 * a + 3)) u I = 1 ∧ ¬ lfI (P (5 * a + 0)) (nI u) I = 0 then lfI (P (5 * a + 0)) (nI u) I
  else lfI (P (5 * a + 1)) (nI u) I
/-- the ints behind a woven cell: r is the pick's row -/
def wcI (P : TP) (a u r : Nat) (weft : Int32) (I : TI) : TI := match P (5 * a + 1) with
  | none => I
  | some k => up2 (laI k u (vPull (k % 5) (I (5 + 2 * k) u) (-1)) I) 47 (24 * r + u) (if lnI (P (5 * a + 3)) u I = 1 then lnI (P (5 * a + 0)) u I else weft)
set_option maxRecDepth 100000 in
set_option maxHeartbeats 4000000 in
theorem c_10_wc_A1 {l : Launch} {D : va_G} {K : Nat → ClassId} {A : Nat → Nat} {I : TI} {U : TU} {P : TP} {a u : Nat} {x weft : Int32} (ha : a < 4) (h3 : P (5 * a + 3) = none) : MM l yX10_weaveCell cX10_weaveCell 8 (some .int) 4 D K A (I) (U) (P) [.ref (A 0), .int (nI a), .int x, .int (nI u), .int weft] (XE (some (.int 1)) I U P) := by
  refine MM.go (own := RX10) (lv0 := [some (.ref (A 0)), some (.int (nI a)), some (.int x), some (.int (nI u)), some (.int weft), none, none, none]) rfl (by decide) rfl (Nat.le_of_ble_eq_true rfl) rfl ?_
  intro p e s m args below meth c C
  refine jx_aload_n C dX10_weaveCell_0 rfl ?_
  refine jx_get C fl_10_10_9 dX10_weaveCell_1 (by decide) gg_0 rfl ?_
  refine jx_iload_n C dX10_weaveCell_4 rfl ?_
  refine jx_iconst (v := 3) C dX10_weaveCell_5 (by decide) ?_
  refine jx_one C (jr_V C (c_8_laneAt (b := 3) ha (by decide)) vw_10_70 (by decide) gg_1 rfl rfl ⟨Nat.le_of_ble_eq_true rfl, Nat.le_of_ble_eq_true rfl⟩ ⟨Nat.le_of_ble_eq_true rfl, Nat.le_of_ble_eq_true rfl⟩ dX10_weaveCell_6 rfl (Nat.le_of_ble_eq_true rfl)) ?_
  rw [h3]
  refine jx_astoreN (lv1 := [_, _, _, _, _, _, _, _]) C dX10_weaveCell_9 (by decide) rfl ?_
  refine jx_aloadN C dX10_weaveCell_11 rfl ?_
  refine jx_ifnullN (tgt := 25) C dX10_weaveCell_13 (by decide) ?_
  refine jx_aloadN C dX10_weaveCell_25 rfl ?_
  refine jx_one C (jr_S C (c_10_faultAtEndN) sw_10_207 rfl ⟨Nat.le_of_ble_eq_true rfl, Nat.le_of_ble_eq_true rfl⟩ ⟨Nat.le_of_ble_eq_true rfl, Nat.le_of_ble_eq_true rfl⟩ dX10_weaveCell_27 rfl (Nat.le_of_ble_eq_true rfl)) ?_
  exact jx_iret C dX10_weaveCell_30 ⟨rfl, rfl, rfl, rfl⟩
set_option maxRecDepth 100000 in
set_option maxHeartbeats 4000000 in
theorem c_10_wc_A2 {l : Launch} {D : va_G} {K : Nat → ClassId} {A : Nat → Nat} {I : TI} {U : TU} {P : TP} {a u : Nat} {x weft : Int32} (ha : a < 4) {k3 : Nat} (h3 : P (5 * a + 3) = some k3) (hk3 : k3 < 20) (g3 : ¬ inR (I (4 + 2 * k3) 0) (nI u)) : MM l yX10_weaveCell cX10_weaveCell 8 (some .int) 4 D K A (I) (U) (P) [.ref (A 0), .int (nI a), .int x, .int (nI u), .int weft] (XE (some (.int 2)) I U P) := by
  refine MM.go (own := RX10) (lv0 := [some (.ref (A 0)), some (.int (nI a)), some (.int x), some (.int (nI u)), some (.int weft), none, none, none]) rfl (by decide) rfl (Nat.le_of_ble_eq_true rfl) rfl ?_
  intro p e s m args below meth c C
  refine jx_aload_n C dX10_weaveCell_0 rfl ?_
  refine jx_get C fl_10_10_9 dX10_weaveCell_1 (by decide) gg_0 rfl ?_
  refine jx_iload_n C dX10_weaveCell_4 rfl ?_
  refine jx_iconst (v := 3) C dX10_weaveCell_5 (by decide) ?_
  refine jx_one C (jr_V C (c_8_laneAt (b := 3) ha (by decide)) vw_10_70 (by decide) gg_1 rfl rfl ⟨Nat.le_of_ble_eq_true rfl, Nat.le_of_ble_eq_true rfl⟩ ⟨Nat.le_of_ble_eq_true rfl, Nat.le_of_ble_eq_true rfl⟩ dX10_weaveCell_6 rfl (Nat.le_of_ble_eq_true rfl)) ?_
  rw [h3]
  refine jx_astore (lv1 := [_, _, _, _, _, _, _, _]) C dX10_weaveCell_9 (by decide) rfl ?_
  refine jx_aload C dX10_weaveCell_11 rfl ?_
  refine jx_ifnull C dX10_weaveCell_13 ?_
  refine jx_aload C dX10_weaveCell_16 rfl ?_
  refine jx_iload_n C dX10_weaveCell_18 rfl ?_
  refine jx_one C (jv_has C dX10_weaveCell_19 hk3 ⟨by decide, by decide⟩ ⟨Nat.zero_le _, Nat.zero_le _⟩ (Nat.le_of_ble_eq_true rfl)) ?_
  rw [bI_f g3]
  refine jx_if_neF (tgt := 31) C dX10_weaveCell_22 (by decide) (by decide) ?_
  refine jx_aload C dX10_weaveCell_25 rfl ?_
  refine jx_one C (jr_S C (c_10_faultAtEnd) sw_10_207 rfl ⟨Nat.le_of_ble_eq_true rfl, Nat.le_of_ble_eq_true rfl⟩ ⟨Nat.le_of_ble_eq_true rfl, Nat.le_of_ble_eq_true rfl⟩ dX10_weaveCell_27 rfl (Nat.le_of_ble_eq_true rfl)) ?_
  exact jx_iret C dX10_weaveCell_30 ⟨rfl, rfl, rfl, rfl⟩
set_option maxRecDepth 100000 in
set_option maxHeartbeats 4000000 in
theorem c_10_wc_B1 {l : Launch} {D : va_G} {K : Nat → ClassId} {A : Nat → Nat} {I : TI} {U : TU} {P : TP} {a u : Nat} {x weft : Int32} (ha : a < 4) {k3 : Nat} (h3 : P (5 * a + 3) = some k3) (hk3 : k3 < 20) (s3 : k3 % 5 = 3) (hu : u < 24) (ok3 : okE I U k3 u) (g3 : inR (I (4 + 2 * k3) 0) (nI u)) (hx : I (5 + 2 * k3) u = 1) (h0 : P (5 * a + 0) = none) : MM l yX10_weaveCell cX10_weaveCell 8 (some .int) 4 D K A (I) (U) (P) [.ref (A 0), .int (nI a), .int x, .int (nI u), .int weft] (XE (some (.int 1)) I U P) := by
  refine MM.go (own := RX10) (lv0 := [some (.ref (A 0)), some (.int (nI a)), some (.int x), some (.int (nI u)), some (.int weft), none, none, none]) rfl (by decide) rfl (Nat.le_of_ble_eq_true rfl) rfl ?_
  intro p e s m args below meth c C
  refine jx_aload_n C dX10_weaveCell_0 rfl ?_
  refine jx_get C fl_10_10_9 dX10_weaveCell_1 (by decide) gg_0 rfl ?_
  refine jx_iload_n C dX10_weaveCell_4 rfl ?_
  refine jx_iconst (v := 3) C dX10_weaveCell_5 (by decide) ?_
  refine jx_one C (jr_V C (c_8_laneAt (b := 3) ha (by decide)) vw_10_70 (by decide) gg_1 rfl rfl ⟨Nat.le_of_ble_eq_true rfl, Nat.le_of_ble_eq_true rfl⟩ ⟨Nat.le_of_ble_eq_true rfl, Nat.le_of_ble_eq_true rfl⟩ dX10_weaveCell_6 rfl (Nat.le_of_ble_eq_true rfl)) ?_
  rw [h3]
  refine jx_astore (lv1 := [_, _, _, _, _, _, _, _]) C dX10_weaveCell_9 (by decide) rfl ?_
  refine jx_aload C dX10_weaveCell_11 rfl ?_
  refine jx_ifnull C dX10_weaveCell_13 ?_
  refine jx_aload C dX10_weaveCell_16 rfl ?_
  refine jx_iload_n C dX10_weaveCell_18 rfl ?_
  refine jx_one C (jv_has C dX10_weaveCell_19 hk3 ⟨by decide, by decide⟩ ⟨Nat.zero_le _, Nat.zero_le _⟩ (Nat.le_of_ble_eq_true rfl)) ?_
  rw [bI_t g3]
  refine jx_if_neT (tgt := 31) C dX10_weaveCell_22 (by decide) (by decide) ?_
  refine jx_iload C dX10_weaveCell_31 rfl ?_
  refine jx_istore (lv1 := [_, _, _, _, _, _, _, _]) C dX10_weaveCell_33 (by decide) rfl ?_
  refine jx_aload C dX10_weaveCell_35 rfl ?_
  refine jx_iload_n C dX10_weaveCell_37 rfl ?_
  refine jx_one C (jv_tells C dX10_weaveCell_38 hk3 hu ok3 ⟨by decide, by decide⟩ ⟨Nat.zero_le _, Nat.zero_le _⟩ (Nat.le_of_ble_eq_true rfl)) ?_
  rw [tl_I (by omega)]
  refine jx_iconst (v := 1) C dX10_weaveCell_41 (by decide) ?_
  refine jx_ic_neF (tgt := 84) C dX10_weaveCell_42 hx (by decide) ?_
  refine jx_aload_n C dX10_weaveCell_45 rfl ?_
  refine jx_get C fl_10_10_9 dX10_weaveCell_46 (by decide) gg_0 rfl ?_
  refine jx_iload_n C dX10_weaveCell_49 rfl ?_
  refine jx_iconst (v := 0) C dX10_weaveCell_50 (by decide) ?_
  refine jx_one C (jr_V C (c_8_laneAt (b := 0) ha (by decide)) vw_10_70 (by decide) gg_1 rfl rfl ⟨Nat.le_of_ble_eq_true rfl, Nat.le_of_ble_eq_true rfl⟩ ⟨Nat.le_of_ble_eq_true rfl, Nat.le_of_ble_eq_true rfl⟩ dX10_weaveCell_51 rfl (Nat.le_of_ble_eq_true rfl)) ?_
  rw [h0]
  refine jx_astoreN (lv1 := [_, _, _, _, _, _, _, _]) C dX10_weaveCell_54 (by decide) rfl ?_
  refine jx_aloadN C dX10_weaveCell_56 rfl ?_
  refine jx_ifnullN (tgt := 70) C dX10_weaveCell_58 (by decide) ?_
  refine jx_aloadN C dX10_weaveCell_70 rfl ?_
  refine jx_one C (jr_S C (c_10_faultAtEndN) sw_10_207 rfl ⟨Nat.le_of_ble_eq_true rfl, Nat.le_of_ble_eq_true rfl⟩ ⟨Nat.le_of_ble_eq_true rfl, Nat.le_of_ble_eq_true rfl⟩ dX10_weaveCell_72 rfl (Nat.le_of_ble_eq_true rfl)) ?_
  exact jx_iret C dX10_weaveCell_75 ⟨rfl, rfl, rfl, rfl⟩
set_option maxRecDepth 100000 in
set_option maxHeartbeats 4000000 in
theorem c_10_wc_B2 {l : Launch} {D : va_G} {K : Nat → ClassId} {A : Nat → Nat} {I : TI} {U : TU} {P : TP} {a u : Nat} {x weft : Int32} (ha : a < 4) {k3 : Nat} (h3 : P (5 * a + 3) = some k3) (hk3 : k3 < 20) (s3 : k3 % 5 = 3) (hu : u < 24) (ok3 : okE I U k3 u) (g3 : inR (I (4 + 2 * k3) 0) (nI u)) (hx : I (5 + 2 * k3) u = 1) {k0 : Nat} (h0 : P (5 * a + 0) = some k0) (hk0 : k0 < 20) (g0 : ¬ inR (I (4 + 2 * k0) 0) (nI u)) : MM l yX10_weaveCell cX10_weaveCell 8 (some .int) 4 D K A (I) (U) (P) [.ref (A 0), .int (nI a), .int x, .int (nI u), .int weft] (XE (some (.int 2)) I U P) := by
  refine MM.go (own := RX10) (lv0 := [some (.ref (A 0)), some (.int (nI a)), some (.int x), some (.int (nI u)), some (.int weft), none, none, none]) rfl (by decide) rfl (Nat.le_of_ble_eq_true rfl) rfl ?_
  intro p e s m args below meth c C
  refine jx_aload_n C dX10_weaveCell_0 rfl ?_
  refine jx_get C fl_10_10_9 dX10_weaveCell_1 (by decide) gg_0 rfl ?_
  refine jx_iload_n C dX10_weaveCell_4 rfl ?_
  refine jx_iconst (v := 3) C dX10_weaveCell_5 (by decide) ?_
  refine jx_one C (jr_V C (c_8_laneAt (b := 3) ha (by decide)) vw_10_70 (by decide) gg_1 rfl rfl ⟨Nat.le_of_ble_eq_true rfl, Nat.le_of_ble_eq_true rfl⟩ ⟨Nat.le_of_ble_eq_true rfl, Nat.le_of_ble_eq_true rfl⟩ dX10_weaveCell_6 rfl (Nat.le_of_ble_eq_true rfl)) ?_
  rw [h3]
  refine jx_astore (lv1 := [_, _, _, _, _, _, _, _]) C dX10_weaveCell_9 (by decide) rfl ?_
  refine jx_aload C dX10_weaveCell_11 rfl ?_
  refine jx_ifnull C dX10_weaveCell_13 ?_
  refine jx_aload C dX10_weaveCell_16 rfl ?_
  refine jx_iload_n C dX10_weaveCell_18 rfl ?_
  refine jx_one C (jv_has C dX10_weaveCell_19 hk3 ⟨by decide, by decide⟩ ⟨Nat.zero_le _, Nat.zero_le _⟩ (Nat.le_of_ble_eq_true rfl)) ?_
  rw [bI_t g3]
  refine jx_if_neT (tgt := 31) C dX10_weaveCell_22 (by decide) (by decide) ?_
  refine jx_iload C dX10_weaveCell_31 rfl ?_
  refine jx_istore (lv1 := [_, _, _, _, _, _, _, _]) C dX10_weaveCell_33 (by decide) rfl ?_
  refine jx_aload C dX10_weaveCell_35 rfl ?_
  refine jx_iload_n C dX10_weaveCell_37 rfl ?_
  refine jx_one C (jv_tells C dX10_weaveCell_38 hk3 hu ok3 ⟨by decide, by decide⟩ ⟨Nat.zero_le _, Nat.zero_le _⟩ (Nat.le_of_ble_eq_true rfl)) ?_
  rw [tl_I (by omega)]
  refine jx_iconst (v := 1) C dX10_weaveCell_41 (by decide) ?_
  refine jx_ic_neF (tgt := 84) C dX10_weaveCell_42 hx (by decide) ?_
  refine jx_aload_n C dX10_weaveCell_45 rfl ?_
  refine jx_get C fl_10_10_9 dX10_weaveCell_46 (by decide) gg_0 rfl ?_
  refine jx_iload_n C dX10_weaveCell_49 rfl ?_
  refine jx_iconst (v := 0) C dX10_weaveCell_50 (by decide) ?_
  refine jx_one C (jr_V C (c_8_laneAt (b := 0) ha (by decide)) vw_10_70 (by decide) gg_1 rfl rfl ⟨Nat.le_of_ble_eq_true rfl, Nat.le_of_ble_eq_true rfl⟩ ⟨Nat.le_of_ble_eq_true rfl, Nat.le_of_ble_eq_true rfl⟩ dX10_weaveCell_51 rfl (Nat.le_of_ble_eq_true rfl)) ?_
  rw [h0]
  refine jx_astore (lv1 := [_, _, _, _, _, _, _, _]) C dX10_weaveCell_54 (by decide) rfl ?_
  refine jx_aload C dX10_weaveCell_56 rfl ?_
  refine jx_ifnull C dX10_weaveCell_58 ?_
  refine jx_aload C dX10_weaveCell_61 rfl ?_
  refine jx_iload_n C dX10_weaveCell_63 rfl ?_
  refine jx_one C (jv_has C dX10_weaveCell_64 hk0 ⟨by decide, by decide⟩ ⟨Nat.zero_le _, Nat.zero_le _⟩ (Nat.le_of_ble_eq_true rfl)) ?_
  rw [bI_f g0]
  refine jx_if_neF (tgt := 76) C dX10_weaveCell_67 (by decide) (by decide) ?_
  refine jx_aload C dX10_weaveCell_70 rfl ?_
  refine jx_one C (jr_S C (c_10_faultAtEnd) sw_10_207 rfl ⟨Nat.le_of_ble_eq_true rfl, Nat.le_of_ble_eq_true rfl⟩ ⟨Nat.le_of_ble_eq_true rfl, Nat.le_of_ble_eq_true rfl⟩ dX10_weaveCell_72 rfl (Nat.le_of_ble_eq_true rfl)) ?_
  exact jx_iret C dX10_weaveCell_75 ⟨rfl, rfl, rfl, rfl⟩
set_option maxRecDepth 100000 in
set_option maxHeartbeats 4000000 in
theorem c_10_wc_C1u {l : Launch} {D : va_G} {K : Nat → ClassId} {A : Nat → Nat} {I : TI} {U : TU} {P : TP} {a u : Nat} {x weft : Int32} (ha : a < 4) {k3 : Nat} (h3 : P (5 * a + 3) = some k3) (hk3 : k3 < 20) (s3 : k3 % 5 = 3) (hu : u < 24) (ok3 : okE I U k3 u) (g3 : inR (I (4 + 2 * k3) 0) (nI u)) (hx : I (5 + 2 * k3) u = 1) {k0 : Nat} (h0 : P (5 * a + 0) = some k0) (hk0 : k0 < 20) (s0 : k0 % 5 = 0) (ok0 : okE I U k0 u) (g0 : inR (I (4 + 2 * k0) 0) (nI u)) (h1 : P (5 * a + 1) = none) : MM l yX10_weaveCell cX10_weaveCell 8 (some .int) 4 D K A (I) (U) (P) [.ref (A 0), .int (nI a), .int x, .int (nI u), .int weft] (XE (some (.int 1)) I U P) := by
  refine MM.go (own := RX10) (lv0 := [some (.ref (A 0)), some (.int (nI a)), some (.int x), some (.int (nI u)), some (.int weft), none, none, none]) rfl (by decide) rfl (Nat.le_of_ble_eq_true rfl) rfl ?_
  intro p e s m args below meth c C
  refine jx_aload_n C dX10_weaveCell_0 rfl ?_
  refine jx_get C fl_10_10_9 dX10_weaveCell_1 (by decide) gg_0 rfl ?_
  refine jx_iload_n C dX10_weaveCell_4 rfl ?_
  refine jx_iconst (v := 3) C dX10_weaveCell_5 (by decide) ?_
  refine jx_one C (jr_V C (c_8_laneAt (b := 3) ha (by decide)) vw_10_70 (by decide) gg_1 rfl rfl ⟨Nat.le_of_ble_eq_true rfl, Nat.le_of_ble_eq_true rfl⟩ ⟨Nat.le_of_ble_eq_true rfl, Nat.le_of_ble_eq_true rfl⟩ dX10_weaveCell_6 rfl (Nat.le_of_ble_eq_true rfl)) ?_
  rw [h3]
  refine jx_astore (lv1 := [_, _, _, _, _, _, _, _]) C dX10_weaveCell_9 (by decide) rfl ?_
  refine jx_aload C dX10_weaveCell_11 rfl ?_
  refine jx_ifnull C dX10_weaveCell_13 ?_
  refine jx_aload C dX10_weaveCell_16 rfl ?_
  refine jx_iload_n C dX10_weaveCell_18 rfl ?_
  refine jx_one C (jv_has C dX10_weaveCell_19 hk3 ⟨by decide, by decide⟩ ⟨Nat.zero_le _, Nat.zero_le _⟩ (Nat.le_of_ble_eq_true rfl)) ?_
  rw [bI_t g3]
  refine jx_if_neT (tgt := 31) C dX10_weaveCell_22 (by decide) (by decide) ?_
  refine jx_iload C dX10_weaveCell_31 rfl ?_
  refine jx_istore (lv1 := [_, _, _, _, _, _, _, _]) C dX10_weaveCell_33 (by decide) rfl ?_
  refine jx_aload C dX10_weaveCell_35 rfl ?_
  refine jx_iload_n C dX10_weaveCell_37 rfl ?_
  refine jx_one C (jv_tells C dX10_weaveCell_38 hk3 hu ok3 ⟨by decide, by decide⟩ ⟨Nat.zero_le _, Nat.zero_le _⟩ (Nat.le_of_ble_eq_true rfl)) ?_
  rw [tl_I (by omega)]
  refine jx_iconst (v := 1) C dX10_weaveCell_41 (by decide) ?_
  refine jx_ic_neF (tgt := 84) C dX10_weaveCell_42 hx (by decide) ?_
  refine jx_aload_n C dX10_weaveCell_45 rfl ?_
  refine jx_get C fl_10_10_9 dX10_weaveCell_46 (by decide) gg_0 rfl ?_
  refine jx_iload_n C dX10_weaveCell_49 rfl ?_
  refine jx_iconst (v := 0) C dX10_weaveCell_50 (by decide) ?_
  refine jx_one C (jr_V C (c_8_laneAt (b := 0) ha (by decide)) vw_10_70 (by decide) gg_1 rfl rfl ⟨Nat.le_of_ble_eq_true rfl, Nat.le_of_ble_eq_true rfl⟩ ⟨Nat.le_of_ble_eq_true rfl, Nat.le_of_ble_eq_true rfl⟩ dX10_weaveCell_51 rfl (Nat.le_of_ble_eq_true rfl)) ?_
  rw [h0]
  refine jx_astore (lv1 := [_, _, _, _, _, _, _, _]) C dX10_weaveCell_54 (by decide) rfl ?_
  refine jx_aload C dX10_weaveCell_56 rfl ?_
  refine jx_ifnull C dX10_weaveCell_58 ?_
  refine jx_aload C dX10_weaveCell_61 rfl ?_
  refine jx_iload_n C dX10_weaveCell_63 rfl ?_
  refine jx_one C (jv_has C dX10_weaveCell_64 hk0 ⟨by decide, by decide⟩ ⟨Nat.zero_le _, Nat.zero_le _⟩ (Nat.le_of_ble_eq_true rfl)) ?_
  rw [bI_t g0]
  refine jx_if_neT (tgt := 76) C dX10_weaveCell_67 (by decide) (by decide) ?_
  refine jx_aload C dX10_weaveCell_76 rfl ?_
  refine jx_iload_n C dX10_weaveCell_78 rfl ?_
  refine jx_one C (jv_tells C dX10_weaveCell_79 hk0 hu ok0 ⟨by decide, by decide⟩ ⟨Nat.zero_le _, Nat.zero_le _⟩ (Nat.le_of_ble_eq_true rfl)) ?_
  rw [tl_I (by omega)]
  refine jx_istore (lv1 := [_, _, _, _, _, _, _, _]) C dX10_weaveCell_82 (by decide) rfl ?_
  refine jx_aload_n C dX10_weaveCell_84 rfl ?_
  refine jx_get C fl_10_10_9 dX10_weaveCell_85 (by decide) gg_0 rfl ?_
  refine jx_iload_n C dX10_weaveCell_88 rfl ?_
  refine jx_iconst (v := 1) C dX10_weaveCell_89 (by decide) ?_
  refine jx_one C (jr_V C (c_8_laneAt (b := 1) ha (by decide)) vw_10_70 (by decide) gg_1 rfl rfl ⟨Nat.le_of_ble_eq_true rfl, Nat.le_of_ble_eq_true rfl⟩ ⟨Nat.le_of_ble_eq_true rfl, Nat.le_of_ble_eq_true rfl⟩ dX10_weaveCell_90 rfl (Nat.le_of_ble_eq_true rfl)) ?_
  rw [h1]
  refine jx_astoreN (lv1 := [_, _, _, _, _, _, _, _]) C dX10_weaveCell_93 (by decide) rfl ?_
  refine jx_aloadN C dX10_weaveCell_95 rfl ?_
  refine jx_ifnullN (tgt := 109) C dX10_weaveCell_97 (by decide) ?_
  refine jx_aloadN C dX10_weaveCell_109 rfl ?_
  refine jx_one C (jr_S C (c_10_faultAtEndN) sw_10_207 rfl ⟨Nat.le_of_ble_eq_true rfl, Nat.le_of_ble_eq_true rfl⟩ ⟨Nat.le_of_ble_eq_true rfl, Nat.le_of_ble_eq_true rfl⟩ dX10_weaveCell_111 rfl (Nat.le_of_ble_eq_true rfl)) ?_
  exact jx_iret C dX10_weaveCell_114 ⟨rfl, rfl, rfl, rfl⟩
set_option maxRecDepth 100000 in
set_option maxHeartbeats 4000000 in
theorem c_10_wc_C2u {l : Launch} {D : va_G} {K : Nat → ClassId} {A : Nat → Nat} {I : TI} {U : TU} {P : TP} {a u : Nat} {x weft : Int32} (ha : a < 4) {k3 : Nat} (h3 : P (5 * a + 3) = some k3) (hk3 : k3 < 20) (s3 : k3 % 5 = 3) (hu : u < 24) (ok3 : okE I U k3 u) (g3 : inR (I (4 + 2 * k3) 0) (nI u)) (hx : I (5 + 2 * k3) u = 1) {k0 : Nat} (h0 : P (5 * a + 0) = some k0) (hk0 : k0 < 20) (s0 : k0 % 5 = 0) (ok0 : okE I U k0 u) (g0 : inR (I (4 + 2 * k0) 0) (nI u)) {k1 : Nat} (h1 : P (5 * a + 1) = some k1) (hk1 : k1 < 20) (g1 : ¬ inR (I (4 + 2 * k1) 0) (nI u)) : MM l yX10_weaveCell cX10_weaveCell 8 (some .int) 4 D K A (I) (U) (P) [.ref (A 0), .int (nI a), .int x, .int (nI u), .int weft] (XE (some (.int 2)) I U P) := by
  refine MM.go (own := RX10) (lv0 := [some (.ref (A 0)), some (.int (nI a)), some (.int x), some (.int (nI u)), some (.int weft), none, none, none]) rfl (by decide) rfl (Nat.le_of_ble_eq_true rfl) rfl ?_
  intro p e s m args below meth c C
  refine jx_aload_n C dX10_weaveCell_0 rfl ?_
  refine jx_get C fl_10_10_9 dX10_weaveCell_1 (by decide) gg_0 rfl ?_
  refine jx_iload_n C dX10_weaveCell_4 rfl ?_
  refine jx_iconst (v := 3) C dX10_weaveCell_5 (by decide) ?_
  refine jx_one C (jr_V C (c_8_laneAt (b := 3) ha (by decide)) vw_10_70 (by decide) gg_1 rfl rfl ⟨Nat.le_of_ble_eq_true rfl, Nat.le_of_ble_eq_true rfl⟩ ⟨Nat.le_of_ble_eq_true rfl, Nat.le_of_ble_eq_true rfl⟩ dX10_weaveCell_6 rfl (Nat.le_of_ble_eq_true rfl)) ?_
  rw [h3]
  refine jx_astore (lv1 := [_, _, _, _, _, _, _, _]) C dX10_weaveCell_9 (by decide) rfl ?_
  refine jx_aload C dX10_weaveCell_11 rfl ?_
  refine jx_ifnull C dX10_weaveCell_13 ?_
  refine jx_aload C dX10_weaveCell_16 rfl ?_
  refine jx_iload_n C dX10_weaveCell_18 rfl ?_
  refine jx_one C (jv_has C dX10_weaveCell_19 hk3 ⟨by decide, by decide⟩ ⟨Nat.zero_le _, Nat.zero_le _⟩ (Nat.le_of_ble_eq_true rfl)) ?_
  rw [bI_t g3]
  refine jx_if_neT (tgt := 31) C dX10_weaveCell_22 (by decide) (by decide) ?_
  refine jx_iload C dX10_weaveCell_31 rfl ?_
  refine jx_istore (lv1 := [_, _, _, _, _, _, _, _]) C dX10_weaveCell_33 (by decide) rfl ?_
  refine jx_aload C dX10_weaveCell_35 rfl ?_
  refine jx_iload_n C dX10_weaveCell_37 rfl ?_
  refine jx_one C (jv_tells C dX10_weaveCell_38 hk3 hu ok3 ⟨by decide, by decide⟩ ⟨Nat.zero_le _, Nat.zero_le _⟩ (Nat.le_of_ble_eq_true rfl)) ?_
  rw [tl_I (by omega)]
  refine jx_iconst (v := 1) C dX10_weaveCell_41 (by decide) ?_
  refine jx_ic_neF (tgt := 84) C dX10_weaveCell_42 hx (by decide) ?_
  refine jx_aload_n C dX10_weaveCell_45 rfl ?_
  refine jx_get C fl_10_10_9 dX10_weaveCell_46 (by decide) gg_0 rfl ?_
  refine jx_iload_n C dX10_weaveCell_49 rfl ?_
  refine jx_iconst (v := 0) C dX10_weaveCell_50 (by decide) ?_
  refine jx_one C (jr_V C (c_8_laneAt (b := 0) ha (by decide)) vw_10_70 (by decide) gg_1 rfl rfl ⟨Nat.le_of_ble_eq_true rfl, Nat.le_of_ble_eq_true rfl⟩ ⟨Nat.le_of_ble_eq_true rfl, Nat.le_of_ble_eq_true rfl⟩ dX10_weaveCell_51 rfl (Nat.le_of_ble_eq_true rfl)) ?_
  rw [h0]
  refine jx_astore (lv1 := [_, _, _, _, _, _, _, _]) C dX10_weaveCell_54 (by decide) rfl ?_
  refine jx_aload C dX10_weaveCell_56 rfl ?_
  refine jx_ifnull C dX10_weaveCell_58 ?_
  refine jx_aload C dX10_weaveCell_61 rfl ?_
  refine jx_iload_n C dX10_weaveCell_63 rfl ?_
  refine jx_one C (jv_has C dX10_weaveCell_64 hk0 ⟨by decide, by decide⟩ ⟨Nat.zero_le _, Nat.zero_le _⟩ (Nat.le_of_ble_eq_true rfl)) ?_
  rw [bI_t g0]
  refine jx_if_neT (tgt := 76) C dX10_weaveCell_67 (by decide) (by decide) ?_
  refine jx_aload C dX10_weaveCell_76 rfl ?_
  refine jx_iload_n C dX10_weaveCell_78 rfl ?_
  refine jx_one C (jv_tells C dX10_weaveCell_79 hk0 hu ok0 ⟨by decide, by decide⟩ ⟨Nat.zero_le _, Nat.zero_le _⟩ (Nat.le_of_ble_eq_true rfl)) ?_
  rw [tl_I (by omega)]
  refine jx_istore (lv1 := [_, _, _, _, _, _, _, _]) C dX10_weaveCell_82 (by decide) rfl ?_
  refine jx_aload_n C dX10_weaveCell_84 rfl ?_
  refine jx_get C fl_10_10_9 dX10_weaveCell_85 (by decide) gg_0 rfl ?_
  refine jx_iload_n C dX10_weaveCell_88 rfl ?_
  refine jx_iconst (v := 1) C dX10_weaveCell_89 (by decide) ?_
  refine jx_one C (jr_V C (c_8_laneAt (b := 1) ha (by decide)) vw_10_70 (by decide) gg_1 rfl rfl ⟨Nat.le_of_ble_eq_true rfl, Nat.le_of_ble_eq_true rfl⟩ ⟨Nat.le_of_ble_eq_true rfl, Nat.le_of_ble_eq_true rfl⟩ dX10_weaveCell_90 rfl (Nat.le_of_ble_eq_true rfl)) ?_
  rw [h1]
  refine jx_astore (lv1 := [_, _, _, _, _, _, _, _]) C dX10_weaveCell_93 (by decide) rfl ?_
  refine jx_aload C dX10_weaveCell_95 rfl ?_
  refine jx_ifnull C dX10_weaveCell_97 ?_
  refine jx_aload C dX10_weaveCell_100 rfl ?_
  refine jx_iload_n C dX10_weaveCell_102 rfl ?_
  refine jx_one C (jv_has C dX10_weaveCell_103 hk1 ⟨by decide, by decide⟩ ⟨Nat.zero_le _, Nat.zero_le _⟩ (Nat.le_of_ble_eq_true rfl)) ?_
  rw [bI_f g1]
  refine jx_if_neF (tgt := 115) C dX10_weaveCell_106 (by decide) (by decide) ?_
  refine jx_aload C dX10_weaveCell_109 rfl ?_
  refine jx_one C (jr_S C (c_10_faultAtEnd) sw_10_207 rfl ⟨Nat.le_of_ble_eq_true rfl, Nat.le_of_ble_eq_true rfl⟩ ⟨Nat.le_of_ble_eq_true rfl, Nat.le_of_ble_eq_true rfl⟩ dX10_weaveCell_111 rfl (Nat.le_of_ble_eq_true rfl)) ?_
  exact jx_iret C dX10_weaveCell_114 ⟨rfl, rfl, rfl, rfl⟩
set_option maxRecDepth 100000 in
set_option maxHeartbeats 4000000 in
theorem c_10_wc_Su {l : Launch} {D : va_G} {K : Nat → ClassId} {A : Nat → Nat} {I : TI} {U : TU} {P : TP} {a u : Nat} {x weft : Int32} (ha : a < 4) {k3 : Nat} (h3 : P (5 * a + 3) = some k3) (hk3 : k3 < 20) (s3 : k3 % 5 = 3) (hu : u < 24) (ok3 : okE I U k3 u) (g3 : inR (I (4 + 2 * k3) 0) (nI u)) (hx : I (5 + 2 * k3) u = 1) {k0 : Nat} (h0 : P (5 * a + 0) = some k0) (hk0 : k0 < 20) (s0 : k0 % 5 = 0) (ok0 : okE I U k0 u) (g0 : inR (I (4 + 2 * k0) 0) (nI u)) {k1 : Nat} (h1 : P (5 * a + 1) = some k1) (hk1 : k1 < 20) (s1 : k1 % 5 = 1) (ok1 : okE I U k1 u) (g1 : inR (I (4 + 2 * k1) 0) (nI u)) {j n r w : Nat} (hn : I 46 3 = nI n) (h24 : n ≤ 24) (hj : j < n) (hr : I 48 j = nI r) (hr24 : r < 24) (hw : I 46 4 = nI w) (hw24 : w ≤ 24) (huw : u < w) : MM l yX10_weaveCell cX10_weaveCell 8 (some .int) 4 D K A (I) (U) (P) [.ref (A 0), .int (nI a), .int (nI j), .int (nI u), .int weft] (XE (some (.int 0)) (up2 (laI k1 u (vPull (k1 % 5) (I (5 + 2 * k1) u) (-1)) I) 47 (24 * r + u) (I (5 + 2 * k0) u)) U P) := by
  refine MM.go (own := RX10) (lv0 := [some (.ref (A 0)), some (.int (nI a)), some (.int (nI j)), some (.int (nI u)), some (.int weft), none, none, none]) rfl (by decide) rfl (Nat.le_of_ble_eq_true rfl) rfl ?_
  intro p e s m args below meth c C
  refine jx_aload_n C dX10_weaveCell_0 rfl ?_
  refine jx_get C fl_10_10_9 dX10_weaveCell_1 (by decide) gg_0 rfl ?_
  refine jx_iload_n C dX10_weaveCell_4 rfl ?_
  refine jx_iconst (v := 3) C dX10_weaveCell_5 (by decide) ?_
  refine jx_one C (jr_V C (c_8_laneAt (b := 3) ha (by decide)) vw_10_70 (by decide) gg_1 rfl rfl ⟨Nat.le_of_ble_eq_true rfl, Nat.le_of_ble_eq_true rfl⟩ ⟨Nat.le_of_ble_eq_true rfl, Nat.le_of_ble_eq_true rfl⟩ dX10_weaveCell_6 rfl (Nat.le_of_ble_eq_true rfl)) ?_
  rw [h3]
  refine jx_astore (lv1 := [_, _, _, _, _, _, _, _]) C dX10_weaveCell_9 (by decide) rfl ?_
  refine jx_aload C dX10_weaveCell_11 rfl ?_
  refine jx_ifnull C dX10_weaveCell_13 ?_
  refine jx_aload C dX10_weaveCell_16 rfl ?_
  refine jx_iload_n C dX10_weaveCell_18 rfl ?_
  refine jx_one C (jv_has C dX10_weaveCell_19 hk3 ⟨by decide, by decide⟩ ⟨Nat.zero_le _, Nat.zero_le _⟩ (Nat.le_of_ble_eq_true rfl)) ?_
  rw [bI_t g3]
  refine jx_if_neT (tgt := 31) C dX10_weaveCell_22 (by decide) (by decide) ?_
  refine jx_iload C dX10_weaveCell_31 rfl ?_
  refine jx_istore (lv1 := [_, _, _, _, _, _, _, _]) C dX10_weaveCell_33 (by decide) rfl ?_
  refine jx_aload C dX10_weaveCell_35 rfl ?_
  refine jx_iload_n C dX10_weaveCell_37 rfl ?_
  refine jx_one C (jv_tells C dX10_weaveCell_38 hk3 hu ok3 ⟨by decide, by decide⟩ ⟨Nat.zero_le _, Nat.zero_le _⟩ (Nat.le_of_ble_eq_true rfl)) ?_
  rw [tl_I (by omega)]
  refine jx_iconst (v := 1) C dX10_weaveCell_41 (by decide) ?_
  refine jx_ic_neF (tgt := 84) C dX10_weaveCell_42 hx (by decide) ?_
  refine jx_aload_n C dX10_weaveCell_45 rfl ?_
  refine jx_get C fl_10_10_9 dX10_weaveCell_46 (by decide) gg_0 rfl ?_
  refine jx_iload_n C dX10_weaveCell_49 rfl ?_
  refine jx_iconst (v := 0) C dX10_weaveCell_50 (by decide) ?_
  refine jx_one C (jr_V C (c_8_laneAt (b := 0) ha (by decide)) vw_10_70 (by decide) gg_1 rfl rfl ⟨Nat.le_of_ble_eq_true rfl, Nat.le_of_ble_eq_true rfl⟩ ⟨Nat.le_of_ble_eq_true rfl, Nat.le_of_ble_eq_true rfl⟩ dX10_weaveCell_51 rfl (Nat.le_of_ble_eq_true rfl)) ?_
  rw [h0]
  refine jx_astore (lv1 := [_, _, _, _, _, _, _, _]) C dX10_weaveCell_54 (by decide) rfl ?_
  refine jx_aload C dX10_weaveCell_56 rfl ?_
  refine jx_ifnull C dX10_weaveCell_58 ?_
  refine jx_aload C dX10_weaveCell_61 rfl ?_
  refine jx_iload_n C dX10_weaveCell_63 rfl ?_
  refine jx_one C (jv_has C dX10_weaveCell_64 hk0 ⟨by decide, by decide⟩ ⟨Nat.zero_le _, Nat.zero_le _⟩ (Nat.le_of_ble_eq_true rfl)) ?_
  rw [bI_t g0]
  refine jx_if_neT (tgt := 76) C dX10_weaveCell_67 (by decide) (by decide) ?_
  refine jx_aload C dX10_weaveCell_76 rfl ?_
  refine jx_iload_n C dX10_weaveCell_78 rfl ?_
  refine jx_one C (jv_tells C dX10_weaveCell_79 hk0 hu ok0 ⟨by decide, by decide⟩ ⟨Nat.zero_le _, Nat.zero_le _⟩ (Nat.le_of_ble_eq_true rfl)) ?_
  rw [tl_I (by omega)]
  refine jx_istore (lv1 := [_, _, _, _, _, _, _, _]) C dX10_weaveCell_82 (by decide) rfl ?_
  refine jx_aload_n C dX10_weaveCell_84 rfl ?_
  refine jx_get C fl_10_10_9 dX10_weaveCell_85 (by decide) gg_0 rfl ?_
  refine jx_iload_n C dX10_weaveCell_88 rfl ?_
  refine jx_iconst (v := 1) C dX10_weaveCell_89 (by decide) ?_
  refine jx_one C (jr_V C (c_8_laneAt (b := 1) ha (by decide)) vw_10_70 (by decide) gg_1 rfl rfl ⟨Nat.le_of_ble_eq_true rfl, Nat.le_of_ble_eq_true rfl⟩ ⟨Nat.le_of_ble_eq_true rfl, Nat.le_of_ble_eq_true rfl⟩ dX10_weaveCell_90 rfl (Nat.le_of_ble_eq_true rfl)) ?_
  rw [h1]
  refine jx_astore (lv1 := [_, _, _, _, _, _, _, _]) C dX10_weaveCell_93 (by decide) rfl ?_
  refine jx_aload C dX10_weaveCell_95 rfl ?_
  refine jx_ifnull C dX10_weaveCell_97 ?_
  refine jx_aload C dX10_weaveCell_100 rfl ?_
  refine jx_iload_n C dX10_weaveCell_102 rfl ?_
  refine jx_one C (jv_has C dX10_weaveCell_103 hk1 ⟨by decide, by decide⟩ ⟨Nat.zero_le _, Nat.zero_le _⟩ (Nat.le_of_ble_eq_true rfl)) ?_
  rw [bI_t g1]
  refine jx_if_neT (tgt := 115) C dX10_weaveCell_106 (by decide) (by decide) ?_
  refine jx_aload C dX10_weaveCell_115 rfl ?_
  refine jx_iload_n C dX10_weaveCell_117 rfl ?_
  refine jx_iconst (v := (-1)) C dX10_weaveCell_118 (by decide) ?_
  refine jx_void C (jv_pull C dX10_weaveCell_119 hk1 hu ok1 ⟨by decide, by decide⟩ ⟨Nat.zero_le _, Nat.zero_le _⟩ (Nat.le_of_ble_eq_true rfl)) ?_
  rw [laU_ne (by omega)]
  refine jx_aload_n C dX10_weaveCell_122 rfl ?_
  refine jx_get C fl_10_26_9 dX10_weaveCell_123 (by decide) gg_0 rfl ?_
  refine jx_iload_n C dX10_weaveCell_126 rfl ?_
  refine jx_iload_n C dX10_weaveCell_127 rfl ?_
  refine jx_iload C dX10_weaveCell_128 rfl ?_
  refine jx_void C (jr_V C (c_1_set (by rw [laI_o (by omega)]; exact hn) h24 hj (by rw [laI_o (by omega)]; exact hr) hr24 (by rw [laI_o (by omega)]; exact hw) hw24 huw) vw_10_211 (by decide) gg_46 rfl rfl ⟨Nat.le_of_ble_eq_true rfl, Nat.le_of_ble_eq_true rfl⟩ ⟨Nat.le_of_ble_eq_true rfl, Nat.le_of_ble_eq_true rfl⟩ dX10_weaveCell_130 rfl (Nat.le_of_ble_eq_true rfl)) ?_
  refine jx_iconst (v := 0) C dX10_weaveCell_133 (by decide) ?_
  exact jx_iret C dX10_weaveCell_134 ⟨rfl, rfl, rfl, rfl⟩
set_option maxRecDepth 100000 in
set_option maxHeartbeats 4000000 in
theorem c_10_wc_C1d {l : Launch} {D : va_G} {K : Nat → ClassId} {A : Nat → Nat} {I : TI} {U : TU} {P : TP} {a u : Nat} {x weft : Int32} (ha : a < 4) {k3 : Nat} (h3 : P (5 * a + 3) = some k3) (hk3 : k3 < 20) (s3 : k3 % 5 = 3) (hu : u < 24) (ok3 : okE I U k3 u) (g3 : inR (I (4 + 2 * k3) 0) (nI u)) (hx : ¬ I (5 + 2 * k3) u = 1) (h1 : P (5 * a + 1) = none) : MM l yX10_weaveCell cX10_weaveCell 8 (some .int) 4 D K A (I) (U) (P) [.ref (A 0), .int (nI a), .int x, .int (nI u), .int weft] (XE (some (.int 1)) I U P) := by
  refine MM.go (own := RX10) (lv0 := [some (.ref (A 0)), some (.int (nI a)), some (.int x), some (.int (nI u)), some (.int weft), none, none, none]) rfl (by decide) rfl (Nat.le_of_ble_eq_true rfl) rfl ?_
  intro p e s m args below meth c C
  refine jx_aload_n C dX10_weaveCell_0 rfl ?_
  refine jx_get C fl_10_10_9 dX10_weaveCell_1 (by decide) gg_0 rfl ?_
  refine jx_iload_n C dX10_weaveCell_4 rfl ?_
  refine jx_iconst (v := 3) C dX10_weaveCell_5 (by decide) ?_
  refine jx_one C (jr_V C (c_8_laneAt (b := 3) ha (by decide)) vw_10_70 (by decide) gg_1 rfl rfl ⟨Nat.le_of_ble_eq_true rfl, Nat.le_of_ble_eq_true rfl⟩ ⟨Nat.le_of_ble_eq_true rfl, Nat.le_of_ble_eq_true rfl⟩ dX10_weaveCell_6 rfl (Nat.le_of_ble_eq_true rfl)) ?_
  rw [h3]
  refine jx_astore (lv1 := [_, _, _, _, _, _, _, _]) C dX10_weaveCell_9 (by decide) rfl ?_
  refine jx_aload C dX10_weaveCell_11 rfl ?_
  refine jx_ifnull C dX10_weaveCell_13 ?_
  refine jx_aload C dX10_weaveCell_16 rfl ?_
  refine jx_iload_n C dX10_weaveCell_18 rfl ?_
  refine jx_one C (jv_has C dX10_weaveCell_19 hk3 ⟨by decide, by decide⟩ ⟨Nat.zero_le _, Nat.zero_le _⟩ (Nat.le_of_ble_eq_true rfl)) ?_
  rw [bI_t g3]
  refine jx_if_neT (tgt := 31) C dX10_weaveCell_22 (by decide) (by decide) ?_
  refine jx_iload C dX10_weaveCell_31 rfl ?_
  refine jx_istore (lv1 := [_, _, _, _, _, _, _, _]) C dX10_weaveCell_33 (by decide) rfl ?_
  refine jx_aload C dX10_weaveCell_35 rfl ?_
  refine jx_iload_n C dX10_weaveCell_37 rfl ?_
  refine jx_one C (jv_tells C dX10_weaveCell_38 hk3 hu ok3 ⟨by decide, by decide⟩ ⟨Nat.zero_le _, Nat.zero_le _⟩ (Nat.le_of_ble_eq_true rfl)) ?_
  rw [tl_I (by omega)]
  refine jx_iconst (v := 1) C dX10_weaveCell_41 (by decide) ?_
  refine jx_ic_neT (tgt := 84) C dX10_weaveCell_42 (by decide) hx ?_
  refine jx_aload_n C dX10_weaveCell_84 rfl ?_
  refine jx_get C fl_10_10_9 dX10_weaveCell_85 (by decide) gg_0 rfl ?_
  refine jx_iload_n C dX10_weaveCell_88 rfl ?_
  refine jx_iconst (v := 1) C dX10_weaveCell_89 (by decide) ?_
  refine jx_one C (jr_V C (c_8_laneAt (b := 1) ha (by decide)) vw_10_70 (by decide) gg_1 rfl rfl ⟨Nat.le_of_ble_eq_true rfl, Nat.le_of_ble_eq_true rfl⟩ ⟨Nat.le_of_ble_eq_true rfl, Nat.le_of_ble_eq_true rfl⟩ dX10_weaveCell_90 rfl (Nat.le_of_ble_eq_true rfl)) ?_
  rw [h1]
  refine jx_astoreN (lv1 := [_, _, _, _, _, _, _, _]) C dX10_weaveCell_93 (by decide) rfl ?_
  refine jx_aloadN C dX10_weaveCell_95 rfl ?_
  refine jx_ifnullN (tgt := 109) C dX10_weaveCell_97 (by decide) ?_
  refine jx_aloadN C dX10_weaveCell_109 rfl ?_
  refine jx_one C (jr_S C (c_10_faultAtEndN) sw_10_207 rfl ⟨Nat.le_of_ble_eq_true rfl, Nat.le_of_ble_eq_true rfl⟩ ⟨Nat.le_of_ble_eq_true rfl, Nat.le_of_ble_eq_true rfl⟩ dX10_weaveCell_111 rfl (Nat.le_of_ble_eq_true rfl)) ?_
  exact jx_iret C dX10_weaveCell_114 ⟨rfl, rfl, rfl, rfl⟩
set_option maxRecDepth 100000 in
set_option maxHeartbeats 4000000 in
theorem c_10_wc_C2d {l : Launch} {D : va_G} {K : Nat → ClassId} {A : Nat → Nat} {I : TI} {U : TU} {P : TP} {a u : Nat} {x weft : Int32} (ha : a < 4) {k3 : Nat} (h3 : P (5 * a + 3) = some k3) (hk3 : k3 < 20) (s3 : k3 % 5 = 3) (hu : u < 24) (ok3 : okE I U k3 u) (g3 : inR (I (4 + 2 * k3) 0) (nI u)) (hx : ¬ I (5 + 2 * k3) u = 1) {k1 : Nat} (h1 : P (5 * a + 1) = some k1) (hk1 : k1 < 20) (g1 : ¬ inR (I (4 + 2 * k1) 0) (nI u)) : MM l yX10_weaveCell cX10_weaveCell 8 (some .int) 4 D K A (I) (U) (P) [.ref (A 0), .int (nI a), .int x, .int (nI u), .int weft] (XE (some (.int 2)) I U P) := by
  refine MM.go (own := RX10) (lv0 := [some (.ref (A 0)), some (.int (nI a)), some (.int x), some (.int (nI u)), some (.int weft), none, none, none]) rfl (by decide) rfl (Nat.le_of_ble_eq_true rfl) rfl ?_
  intro p e s m args below meth c C
  refine jx_aload_n C dX10_weaveCell_0 rfl ?_
  refine jx_get C fl_10_10_9 dX10_weaveCell_1 (by decide) gg_0 rfl ?_
  refine jx_iload_n C dX10_weaveCell_4 rfl ?_
  refine jx_iconst (v := 3) C dX10_weaveCell_5 (by decide) ?_
  refine jx_one C (jr_V C (c_8_laneAt (b := 3) ha (by decide)) vw_10_70 (by decide) gg_1 rfl rfl ⟨Nat.le_of_ble_eq_true rfl, Nat.le_of_ble_eq_true rfl⟩ ⟨Nat.le_of_ble_eq_true rfl, Nat.le_of_ble_eq_true rfl⟩ dX10_weaveCell_6 rfl (Nat.le_of_ble_eq_true rfl)) ?_
  rw [h3]
  refine jx_astore (lv1 := [_, _, _, _, _, _, _, _]) C dX10_weaveCell_9 (by decide) rfl ?_
  refine jx_aload C dX10_weaveCell_11 rfl ?_
  refine jx_ifnull C dX10_weaveCell_13 ?_
  refine jx_aload C dX10_weaveCell_16 rfl ?_
  refine jx_iload_n C dX10_weaveCell_18 rfl ?_
  refine jx_one C (jv_has C dX10_weaveCell_19 hk3 ⟨by decide, by decide⟩ ⟨Nat.zero_le _, Nat.zero_le _⟩ (Nat.le_of_ble_eq_true rfl)) ?_
  rw [bI_t g3]
  refine jx_if_neT (tgt := 31) C dX10_weaveCell_22 (by decide) (by decide) ?_
  refine jx_iload C dX10_weaveCell_31 rfl ?_
  refine jx_istore (lv1 := [_, _, _, _, _, _, _, _]) C dX10_weaveCell_33 (by decide) rfl ?_
  refine jx_aload C dX10_weaveCell_35 rfl ?_
  refine jx_iload_n C dX10_weaveCell_37 rfl ?_
  refine jx_one C (jv_tells C dX10_weaveCell_38 hk3 hu ok3 ⟨by decide, by decide⟩ ⟨Nat.zero_le _, Nat.zero_le _⟩ (Nat.le_of_ble_eq_true rfl)) ?_
  rw [tl_I (by omega)]
  refine jx_iconst (v := 1) C dX10_weaveCell_41 (by decide) ?_
  refine jx_ic_neT (tgt := 84) C dX10_weaveCell_42 (by decide) hx ?_
  refine jx_aload_n C dX10_weaveCell_84 rfl ?_
  refine jx_get C fl_10_10_9 dX10_weaveCell_85 (by decide) gg_0 rfl ?_
  refine jx_iload_n C dX10_weaveCell_88 rfl ?_
  refine jx_iconst (v := 1) C dX10_weaveCell_89 (by decide) ?_
  refine jx_one C (jr_V C (c_8_laneAt (b := 1) ha (by decide)) vw_10_70 (by decide) gg_1 rfl rfl ⟨Nat.le_of_ble_eq_true rfl, Nat.le_of_ble_eq_true rfl⟩ ⟨Nat.le_of_ble_eq_true rfl, Nat.le_of_ble_eq_true rfl⟩ dX10_weaveCell_90 rfl (Nat.le_of_ble_eq_true rfl)) ?_
  rw [h1]
  refine jx_astore (lv1 := [_, _, _, _, _, _, _, _]) C dX10_weaveCell_93 (by decide) rfl ?_
  refine jx_aload C dX10_weaveCell_95 rfl ?_
  refine jx_ifnull C dX10_weaveCell_97 ?_
  refine jx_aload C dX10_weaveCell_100 rfl ?_
  refine jx_iload_n C dX10_weaveCell_102 rfl ?_
  refine jx_one C (jv_has C dX10_weaveCell_103 hk1 ⟨by decide, by decide⟩ ⟨Nat.zero_le _, Nat.zero_le _⟩ (Nat.le_of_ble_eq_true rfl)) ?_
  rw [bI_f g1]
  refine jx_if_neF (tgt := 115) C dX10_weaveCell_106 (by decide) (by decide) ?_
  refine jx_aload C dX10_weaveCell_109 rfl ?_
  refine jx_one C (jr_S C (c_10_faultAtEnd) sw_10_207 rfl ⟨Nat.le_of_ble_eq_true rfl, Nat.le_of_ble_eq_true rfl⟩ ⟨Nat.le_of_ble_eq_true rfl, Nat.le_of_ble_eq_true rfl⟩ dX10_weaveCell_111 rfl (Nat.le_of_ble_eq_true rfl)) ?_
  exact jx_iret C dX10_weaveCell_114 ⟨rfl, rfl, rfl, rfl⟩
set_option maxRecDepth 100000 in
set_option maxHeartbeats 4000000 in
theorem c_10_wc_Sd {l : Launch} {D : va_G} {K : Nat → ClassId} {A : Nat → Nat} {I : TI} {U : TU} {P : TP} {a u : Nat} {x weft : Int32} (ha : a < 4) {k3 : Nat} (h3 : P (5 * a + 3) = some k3) (hk3 : k3 < 20) (s3 : k3 % 5 = 3) (hu : u < 24) (ok3 : okE I U k3 u) (g3 : inR (I (4 + 2 * k3) 0) (nI u)) (hx : ¬ I (5 + 2 * k3) u = 1) {k1 : Nat} (h1 : P (5 * a + 1) = some k1) (hk1 : k1 < 20) (s1 : k1 % 5 = 1) (ok1 : okE I U k1 u) (g1 : inR (I (4 + 2 * k1) 0) (nI u)) {j n r w : Nat} (hn : I 46 3 = nI n) (h24 : n ≤ 24) (hj : j < n) (hr : I 48 j = nI r) (hr24 : r < 24) (hw : I 46 4 = nI w) (hw24 : w ≤ 24) (huw : u < w) : MM l yX10_weaveCell cX10_weaveCell 8 (some .int) 4 D K A (I) (U) (P) [.ref (A 0), .int (nI a), .int (nI j), .int (nI u), .int weft] (XE (some (.int 0)) (up2 (laI k1 u (vPull (k1 % 5) (I (5 + 2 * k1) u) (-1)) I) 47 (24 * r + u) (weft)) U P) := by
  refine MM.go (own := RX10) (lv0 := [some (.ref (A 0)), some (.int (nI a)), some (.int (nI j)), some (.int (nI u)), some (.int weft), none, none, none]) rfl (by decide) rfl (Nat.le_of_ble_eq_true rfl) rfl ?_
  intro p e s m args below meth c C
  refine jx_aload_n C dX10_weaveCell_0 rfl ?_
  refine jx_get C fl_10_10_9 dX10_weaveCell_1 (by decide) gg_0 rfl ?_
  refine jx_iload_n C dX10_weaveCell_4 rfl ?_
  refine jx_iconst (v := 3) C dX10_weaveCell_5 (by decide) ?_
  refine jx_one C (jr_V C (c_8_laneAt (b := 3) ha (by decide)) vw_10_70 (by decide) gg_1 rfl rfl ⟨Nat.le_of_ble_eq_true rfl, Nat.le_of_ble_eq_true rfl⟩ ⟨Nat.le_of_ble_eq_true rfl, Nat.le_of_ble_eq_true rfl⟩ dX10_weaveCell_6 rfl (Nat.le_of_ble_eq_true rfl)) ?_
  rw [h3]
  refine jx_astore (lv1 := [_, _, _, _, _, _, _, _]) C dX10_weaveCell_9 (by decide) rfl ?_
  refine jx_aload C dX10_weaveCell_11 rfl ?_
  refine jx_ifnull C dX10_weaveCell_13 ?_
  refine jx_aload C dX10_weaveCell_16 rfl ?_
  refine jx_iload_n C dX10_weaveCell_18 rfl ?_
  refine jx_one C (jv_has C dX10_weaveCell_19 hk3 ⟨by decide, by decide⟩ ⟨Nat.zero_le _, Nat.zero_le _⟩ (Nat.le_of_ble_eq_true rfl)) ?_
  rw [bI_t g3]
  refine jx_if_neT (tgt := 31) C dX10_weaveCell_22 (by decide) (by decide) ?_
  refine jx_iload C dX10_weaveCell_31 rfl ?_
  refine jx_istore (lv1 := [_, _, _, _, _, _, _, _]) C dX10_weaveCell_33 (by decide) rfl ?_
  refine jx_aload C dX10_weaveCell_35 rfl ?_
  refine jx_iload_n C dX10_weaveCell_37 rfl ?_
  refine jx_one C (jv_tells C dX10_weaveCell_38 hk3 hu ok3 ⟨by decide, by decide⟩ ⟨Nat.zero_le _, Nat.zero_le _⟩ (Nat.le_of_ble_eq_true rfl)) ?_
  rw [tl_I (by omega)]
  refine jx_iconst (v := 1) C dX10_weaveCell_41 (by decide) ?_
  refine jx_ic_neT (tgt := 84) C dX10_weaveCell_42 (by decide) hx ?_
  refine jx_aload_n C dX10_weaveCell_84 rfl ?_
  refine jx_get C fl_10_10_9 dX10_weaveCell_85 (by decide) gg_0 rfl ?_
  refine jx_iload_n C dX10_weaveCell_88 rfl ?_
  refine jx_iconst (v := 1) C dX10_weaveCell_89 (by decide) ?_
  refine jx_one C (jr_V C (c_8_laneAt (b := 1) ha (by decide)) vw_10_70 (by decide) gg_1 rfl rfl ⟨Nat.le_of_ble_eq_true rfl, Nat.le_of_ble_eq_true rfl⟩ ⟨Nat.le_of_ble_eq_true rfl, Nat.le_of_ble_eq_true rfl⟩ dX10_weaveCell_90 rfl (Nat.le_of_ble_eq_true rfl)) ?_
  rw [h1]
  refine jx_astore (lv1 := [_, _, _, _, _, _, _, _]) C dX10_weaveCell_93 (by decide) rfl ?_
  refine jx_aload C dX10_weaveCell_95 rfl ?_
  refine jx_ifnull C dX10_weaveCell_97 ?_
  refine jx_aload C dX10_weaveCell_100 rfl ?_
  refine jx_iload_n C dX10_weaveCell_102 rfl ?_
  refine jx_one C (jv_has C dX10_weaveCell_103 hk1 ⟨by decide, by decide⟩ ⟨Nat.zero_le _, Nat.zero_le _⟩ (Nat.le_of_ble_eq_true rfl)) ?_
  rw [bI_t g1]
  refine jx_if_neT (tgt := 115) C dX10_weaveCell_106 (by decide) (by decide) ?_
  refine jx_aload C dX10_weaveCell_115 rfl ?_
  refine jx_iload_n C dX10_weaveCell_117 rfl ?_
  refine jx_iconst (v := (-1)) C dX10_weaveCell_118 (by decide) ?_
  refine jx_void C (jv_pull C dX10_weaveCell_119 hk1 hu ok1 ⟨by decide, by decide⟩ ⟨Nat.zero_le _, Nat.zero_le _⟩ (Nat.le_of_ble_eq_true rfl)) ?_
  rw [laU_ne (by omega)]
  refine jx_aload_n C dX10_weaveCell_122 rfl ?_
  refine jx_get C fl_10_26_9 dX10_weaveCell_123 (by decide) gg_0 rfl ?_
  refine jx_iload_n C dX10_weaveCell_126 rfl ?_
  refine jx_iload_n C dX10_weaveCell_127 rfl ?_
  refine jx_iload C dX10_weaveCell_128 rfl ?_
  refine jx_void C (jr_V C (c_1_set (by rw [laI_o (by omega)]; exact hn) h24 hj (by rw [laI_o (by omega)]; exact hr) hr24 (by rw [laI_o (by omega)]; exact hw) hw24 huw) vw_10_211 (by decide) gg_46 rfl rfl ⟨Nat.le_of_ble_eq_true rfl, Nat.le_of_ble_eq_true rfl⟩ ⟨Nat.le_of_ble_eq_true rfl, Nat.le_of_ble_eq_true rfl⟩ dX10_weaveCell_130 rfl (Nat.le_of_ble_eq_true rfl)) ?_
  refine jx_iconst (v := 0) C dX10_weaveCell_133 (by decide) ?_
  exact jx_iret C dX10_weaveCell_134 ⟨rfl, rfl, rfl, rfl⟩
set_option maxRecDepth 100000 in
set_option maxHeartbeats 4000000 in
theorem c_10_weaveCell {l : Launch} {D : va_G} {K : Nat → ClassId} {A : Nat → Nat} {I : TI} {U : TU} {P : TP} {a u : Nat} {weft : Int32} (ha : a < 4) (hP : okP P) (hl : ∀ pl k, pl < 20 → P pl = some k → okL I U k) {j n r w : Nat} (hn : I 46 3 = nI n) (h24 : n ≤ 24) (hj : j < n) (hr : I 48 j = nI r) (hr24 : r < 24) (hw : I 46 4 = nI w) (hw24 : w ≤ 24) (huw : u < w) : MM l yX10_weaveCell cX10_weaveCell 8 (some .int) 4 D K A I U P [.ref (A 0), .int (nI a), .int (nI j), .int (nI u), .int weft] (XE (some (.int (nI (wcF P a u I)))) (if wcF P a u I = 0 then wcI P a u r weft I else I) U P) := by
  have hu : u < 24 := by omega
  cases h3 : P (5 * a + 3) with
  | none =>
    rw [show wcF P a u I = 1 by simp [wcF, h3, lfI], if_neg (by decide)]
    exact c_10_wc_A1 ha h3
  | some k3 =>
    obtain ⟨hk3, c3, hc3, hcc3, ok3⟩ := hl _ _ (by omega) h3
    have s3 : k3 % 5 = 3 := by have := (hP _ _ (by omega) h3).2; omega
    by_cases g3 : inR (I (4 + 2 * k3) 0) (nI u)
    · have e3 : lfI (P (5 * a + 3)) (nI u) I = 0 := by rw [h3]; exact if_pos g3
      have v3 : lnI (P (5 * a + 3)) u I = I (5 + 2 * k3) u := by rw [h3]; rfl
      by_cases hx : I (5 + 2 * k3) u = 1
      · cases h0 : P (5 * a + 0) with
        | none =>
          have e0 : lfI (P (5 * a + 0)) (nI u) I = 1 := by rw [h0]; rfl
          rw [show wcF P a u I = 1 by rw [wcF, e3, v3, hx, e0]; simp, if_neg (by decide)]
          exact c_10_wc_B1 ha h3 hk3 s3 hu (ok3 u hu) g3 hx h0
        | some k0 =>
          obtain ⟨hk0, c0, hc0, hcc0, ok0⟩ := hl _ _ (by omega) h0
          have s0 : k0 % 5 = 0 := by have := (hP _ _ (by omega) h0).2; omega
          by_cases g0 : inR (I (4 + 2 * k0) 0) (nI u)
          · have e0 : lfI (P (5 * a + 0)) (nI u) I = 0 := by rw [h0]; exact if_pos g0
            have v0 : lnI (P (5 * a + 0)) u I = I (5 + 2 * k0) u := by rw [h0]; rfl
            have ew : wcF P a u I = lfI (P (5 * a + 1)) (nI u) I := by rw [wcF, e3, e0]; simp
            cases h1 : P (5 * a + 1) with
            | none =>
              rw [ew, h1, show lfI none (nI u) I = 1 from rfl, if_neg (by decide)]
              exact c_10_wc_C1u ha h3 hk3 s3 hu (ok3 u hu) g3 hx h0 hk0 s0 (ok0 u hu) g0 h1
            | some k1 =>
              obtain ⟨hk1, c1, hc1, hcc1, ok1⟩ := hl _ _ (by omega) h1
              have s1 : k1 % 5 = 1 := by have := (hP _ _ (by omega) h1).2; omega
              by_cases g1 : inR (I (4 + 2 * k1) 0) (nI u)
              · rw [ew, h1, show lfI (some k1) (nI u) I = 0 from if_pos g1, if_pos rfl]
                rw [show wcI P a u r weft I = up2 (laI k1 u (vPull (k1 % 5) (I (5 + 2 * k1) u) (-1)) I) 47 (24 * r + u) (I (5 + 2 * k0) u) by simp only [wcI, h1]; rw [v3, v0, if_pos hx]]
                exact c_10_wc_Su (x := 0) ha h3 hk3 s3 hu (ok3 u hu) g3 hx h0 hk0 s0 (ok0 u hu) g0 h1 hk1 s1 (ok1 u hu) g1 hn h24 hj hr hr24 hw hw24 huw
              · rw [ew, h1, show lfI (some k1) (nI u) I = 2 from if_neg g1, if_neg (by decide)]
                exact c_10_wc_C2u ha h3 hk3 s3 hu (ok3 u hu) g3 hx h0 hk0 s0 (ok0 u hu) g0 h1 hk1 g1
          · have e0 : lfI (P (5 * a + 0)) (nI u) I = 2 := by rw [h0]; exact if_neg g0
            rw [show wcF P a u I = 2 by rw [wcF, e3, v3, hx, e0]; simp, if_neg (by decide)]
            exact c_10_wc_B2 ha h3 hk3 s3 hu (ok3 u hu) g3 hx h0 hk0 g0
      · have ew : wcF P a u I = lfI (P (5 * a + 1)) (nI u) I := by simp [wcF, e3, v3, hx]
        cases h1 : P (5 * a + 1) with
        | none =>
          rw [ew, h1, show lfI none (nI u) I = 1 from rfl, if_neg (by decide)]
          exact c_10_wc_C1d ha h3 hk3 s3 hu (ok3 u hu) g3 hx h1
        | some k1 =>
          obtain ⟨hk1, c1, hc1, hcc1, ok1⟩ := hl _ _ (by omega) h1
          have s1 : k1 % 5 = 1 := by have := (hP _ _ (by omega) h1).2; omega
          by_cases g1 : inR (I (4 + 2 * k1) 0) (nI u)
          · rw [ew, h1, show lfI (some k1) (nI u) I = 0 from if_pos g1, if_pos rfl]
            rw [show wcI P a u r weft I = up2 (laI k1 u (vPull (k1 % 5) (I (5 + 2 * k1) u) (-1)) I) 47 (24 * r + u) weft by simp only [wcI, h1]; rw [v3, if_neg hx]]
            exact c_10_wc_Sd (x := 0) ha h3 hk3 s3 hu (ok3 u hu) g3 hx h1 hk1 s1 (ok1 u hu) g1 hn h24 hj hr hr24 hw hw24 huw
          · rw [ew, h1, show lfI (some k1) (nI u) I = 2 from if_neg g1, if_neg (by decide)]
            exact c_10_wc_C2d ha h3 hk3 s3 hu (ok3 u hu) g3 hx h1 hk1 g1
    · have e3 : lfI (P (5 * a + 3)) (nI u) I = 2 := by rw [h3]; exact if_neg g3
      rw [show wcF P a u I = 2 by simp [wcF, e3], if_neg (by decide)]
      exact c_10_wc_A2 ha h3 hk3 g3
end
section
/-! the face of HandLoom, but for weave() and run(), case by case -/
theorem inK_nI {a : Nat} (h : a < 5) : inK (nI a) := ⟨nI_pos (by omega), nI_nlt (a := 4) (by omega) (by decide)⟩
theorem inK_of {f : Int32} (h : inK f) : ∃ a : Nat, a < 5 ∧ f = nI a := by
  obtain ⟨j, hj, e⟩ := nI_of2 (M := 4) (n := 4) (by decide) h.1 (Int32.not_lt.mp h.2)
  exact ⟨j, by omega, e⟩
set_option maxRecDepth 100000 in
set_option maxHeartbeats 4000000 in
theorem c_10_threadX1 {l : Launch} {D : va_G} {K : Nat → ClassId} {A : Nat → Nat} {I : TI} {U : TU} {P : TP} {f s0 : Int32} (hx : ¬ inL f s0) {n : Int32} : MM l yX10_thread cX10_thread 4 (some .int) 5 D K A (I) (U) (P) [.ref (A 0), .int f, .int s0, .int n] (XE (some (.int ((-2147483648)))) (I) (U) (P)) := by
  refine MM.go (own := RX10) (lv0 := [some (.ref (A 0)), some (.int f), some (.int s0), some (.int n)]) rfl (by decide) rfl (Nat.le_of_ble_eq_true rfl) rfl ?_
  intro p e s m args below meth c C
  refine jx_iload_n C dX10_thread_0 rfl ?_
  refine jx_iload_n C dX10_thread_1 rfl ?_
  refine jx_one C (jr_S C (c_8_isLane) sw_10_54 rfl ⟨Nat.le_of_ble_eq_true rfl, Nat.le_of_ble_eq_true rfl⟩ ⟨Nat.le_of_ble_eq_true rfl, Nat.le_of_ble_eq_true rfl⟩ dX10_thread_2 rfl (Nat.le_of_ble_eq_true rfl)) ?_
  rw [bI_f hx]
  refine jx_if_eqT (tgt := 14) C dX10_thread_5 (by decide) (by decide) ?_
  refine jx_ldc C dX10_thread_14 qw_215 ?_
  exact jx_iret C dX10_thread_16 ⟨rfl, rfl, rfl, rfl⟩
set_option maxRecDepth 100000 in
set_option maxHeartbeats 4000000 in
theorem c_10_threadX2 {l : Launch} {D : va_G} {K : Nat → ClassId} {A : Nat → Nat} {I : TI} {U : TU} {P : TP} {a b : Nat} (ha : a < 4) (hb : b < 5) {n : Int32} (hn : ¬ n ≤ 24) : MM l yX10_thread cX10_thread 4 (some .int) 5 D K A (I) (U) (P) [.ref (A 0), .int (nI a), .int (nI b), .int n] (XE (some (.int ((-2147483648)))) (I) (U) (P)) := by
  refine MM.go (own := RX10) (lv0 := [some (.ref (A 0)), some (.int (nI a)), some (.int (nI b)), some (.int n)]) rfl (by decide) rfl (Nat.le_of_ble_eq_true rfl) rfl ?_
  intro p e s m args below meth c C
  refine jx_iload_n C dX10_thread_0 rfl ?_
  refine jx_iload_n C dX10_thread_1 rfl ?_
  refine jx_one C (jr_S C (c_8_isLane) sw_10_54 rfl ⟨Nat.le_of_ble_eq_true rfl, Nat.le_of_ble_eq_true rfl⟩ ⟨Nat.le_of_ble_eq_true rfl, Nat.le_of_ble_eq_true rfl⟩ dX10_thread_2 rfl (Nat.le_of_ble_eq_true rfl)) ?_
  rw [bI_t ⟨inF_nI ha, inS_nI hb⟩]
  refine jx_if_eqF (tgt := 14) C dX10_thread_5 (by decide) (by decide) ?_
  refine jx_iload_n C dX10_thread_8 rfl ?_
  refine jx_bipush (v := 24) C dX10_thread_9 (by decide) ?_
  refine jx_ic_leF (tgt := 17) C dX10_thread_11 hn (by decide) ?_
  refine jx_ldc C dX10_thread_14 qw_215 ?_
  exact jx_iret C dX10_thread_16 ⟨rfl, rfl, rfl, rfl⟩
set_option maxRecDepth 100000 in
set_option maxHeartbeats 4000000 in
theorem c_10_threadZ {l : Launch} {D : va_G} {K : Nat → ClassId} {A : Nat → Nat} {I : TI} {U : TU} {P : TP} {a b : Nat} (ha : a < 4) (hb : b < 5) {n : Int32} (hn : n ≤ 24) (hz : ¬ 0 ≤ n) : MM l yX10_thread cX10_thread 4 (some .int) 5 D K A (I) (U) (P) [.ref (A 0), .int (nI a), .int (nI b), .int n] (XE (some (.int (0))) (tel (bg I) 3) (U) (P)) := by
  refine MM.go (own := RX10) (lv0 := [some (.ref (A 0)), some (.int (nI a)), some (.int (nI b)), some (.int n)]) rfl (by decide) rfl (Nat.le_of_ble_eq_true rfl) rfl ?_
  intro p e s m args below meth c C
  refine jx_iload_n C dX10_thread_0 rfl ?_
  refine jx_iload_n C dX10_thread_1 rfl ?_
  refine jx_one C (jr_S C (c_8_isLane) sw_10_54 rfl ⟨Nat.le_of_ble_eq_true rfl, Nat.le_of_ble_eq_true rfl⟩ ⟨Nat.le_of_ble_eq_true rfl, Nat.le_of_ble_eq_true rfl⟩ dX10_thread_2 rfl (Nat.le_of_ble_eq_true rfl)) ?_
  rw [bI_t ⟨inF_nI ha, inS_nI hb⟩]
  refine jx_if_eqF (tgt := 14) C dX10_thread_5 (by decide) (by decide) ?_
  refine jx_iload_n C dX10_thread_8 rfl ?_
  refine jx_bipush (v := 24) C dX10_thread_9 (by decide) ?_
  refine jx_ic_leT (tgt := 17) C dX10_thread_11 (by decide) hn ?_
  refine jx_aload_n C dX10_thread_17 rfl ?_
  refine jx_get C fl_10_40_9 dX10_thread_18 (by decide) gg_0 rfl ?_
  refine jx_void C (jr_V C (c_4_begin) vw_10_59 (by decide) gg_63 rfl rfl ⟨Nat.le_of_ble_eq_true rfl, Nat.le_of_ble_eq_true rfl⟩ ⟨Nat.le_of_ble_eq_true rfl, Nat.le_of_ble_eq_true rfl⟩ dX10_thread_21 rfl (Nat.le_of_ble_eq_true rfl)) ?_
  refine jx_iload_n C dX10_thread_24 rfl ?_
  refine jx_if_geF (tgt := 37) C dX10_thread_25 hz (by decide) ?_
  refine jx_aload_n C dX10_thread_28 rfl ?_
  refine jx_get C fl_10_40_9 dX10_thread_29 (by decide) gg_0 rfl ?_
  refine jx_iconst (v := 3) C dX10_thread_32 (by decide) ?_
  refine jx_one C (jr_V C (c_4_tell (f := 3) (by decide) (by decide)) vw_10_62 (by decide) gg_63 rfl rfl ⟨Nat.le_of_ble_eq_true rfl, Nat.le_of_ble_eq_true rfl⟩ ⟨Nat.le_of_ble_eq_true rfl, Nat.le_of_ble_eq_true rfl⟩ dX10_thread_33 rfl (Nat.le_of_ble_eq_true rfl)) ?_
  exact jx_iret C dX10_thread_36 ⟨rfl, rfl, rfl, rfl⟩
set_option maxRecDepth 100000 in
set_option maxHeartbeats 4000000 in
theorem c_10_thread {l : Launch} {D : va_G} {K : Nat → ClassId} {A : Nat → Nat} {I : TI} {U : TU} {P : TP} {a b : Nat} (ha : a < 4) (hb : b < 5) {n : Nat} (hn : n ≤ 24) (hP : okP P) : MM l yX10_thread cX10_thread 4 (some .int) 5 D K A (I) (U) (P) [.ref (A 0), .int (nI a), .int (nI b), .int (nI n)] (XV (fun w I1 U1 P1 => ∃ u : Nat, u < 4 ∧ ¬ heldBy (va_up P (5 * a + b) none) b (5 * u + b) ∧ w = .int (nI n) ∧ I1 = rsJ (5 * u + b) n n (bg I) ∧ U1 = rsV (5 * u + b) n U ∧ P1 = va_up P (5 * a + b) (some (5 * u + b)))) := by
  refine MM.go (own := RX10) (lv0 := [some (.ref (A 0)), some (.int (nI a)), some (.int (nI b)), some (.int (nI n))]) rfl (by decide) rfl (Nat.le_of_ble_eq_true rfl) rfl ?_
  intro p e s m args below meth c C
  refine jx_iload_n C dX10_thread_0 rfl ?_
  refine jx_iload_n C dX10_thread_1 rfl ?_
  refine jx_one C (jr_S C (c_8_isLane) sw_10_54 rfl ⟨Nat.le_of_ble_eq_true rfl, Nat.le_of_ble_eq_true rfl⟩ ⟨Nat.le_of_ble_eq_true rfl, Nat.le_of_ble_eq_true rfl⟩ dX10_thread_2 rfl (Nat.le_of_ble_eq_true rfl)) ?_
  rw [bI_t ⟨inF_nI ha, inS_nI hb⟩]
  refine jx_if_eqF (tgt := 14) C dX10_thread_5 (by decide) (by decide) ?_
  refine jx_iload_n C dX10_thread_8 rfl ?_
  refine jx_bipush (v := 24) C dX10_thread_9 (by decide) ?_
  refine jx_ic_leT (tgt := 17) C dX10_thread_11 (by decide) (nI_le (b := 24) hn (by decide)) ?_
  refine jx_aload_n C dX10_thread_17 rfl ?_
  refine jx_get C fl_10_40_9 dX10_thread_18 (by decide) gg_0 rfl ?_
  refine jx_void C (jr_V C (c_4_begin) vw_10_59 (by decide) gg_63 rfl rfl ⟨Nat.le_of_ble_eq_true rfl, Nat.le_of_ble_eq_true rfl⟩ ⟨Nat.le_of_ble_eq_true rfl, Nat.le_of_ble_eq_true rfl⟩ dX10_thread_21 rfl (Nat.le_of_ble_eq_true rfl)) ?_
  refine jx_iload_n C dX10_thread_24 rfl ?_
  refine jx_if_geT (tgt := 37) C dX10_thread_25 (by decide) (nI_pos' (by omega)) ?_
  refine jx_aload_n C dX10_thread_37 rfl ?_
  refine jx_get C fl_10_10_9 dX10_thread_38 (by decide) gg_0 rfl ?_
  refine jx_iload_n C dX10_thread_41 rfl ?_
  refine jx_iload_n C dX10_thread_42 rfl ?_
  refine jx_iload_n C dX10_thread_43 rfl ?_
  refine jx_voidN C (jr_V C (c_8_stretch ha hb hn hP) vw_10_66 (by decide) gg_1 rfl rfl ⟨Nat.le_of_ble_eq_true rfl, Nat.le_of_ble_eq_true rfl⟩ ⟨Nat.le_of_ble_eq_true rfl, Nat.le_of_ble_eq_true rfl⟩ dX10_thread_44 rfl (Nat.le_of_ble_eq_true rfl)) (fun I1 U1 P1 hq => ?_)
  obtain ⟨u, hu, hnh, rfl, rfl, rfl⟩ := hq
  refine jx_iload_n C dX10_thread_47 rfl ?_
  exact jx_iret C dX10_thread_48 ⟨_, rfl, u, hu, hnh, rfl, rfl, rfl, rfl⟩
set_option maxRecDepth 100000 in
set_option maxHeartbeats 4000000 in
theorem c_10_cutX {l : Launch} {D : va_G} {K : Nat → ClassId} {A : Nat → Nat} {I : TI} {U : TU} {P : TP} {f s0 : Int32} (hx : ¬ inL f s0) : MM l yX10_cut cX10_cut 4 (some .int) 5 D K A (I) (U) (P) [.ref (A 0), .int f, .int s0] (XE (some (.int ((-2147483648)))) (I) (U) (P)) := by
  refine MM.go (own := RX10) (lv0 := [some (.ref (A 0)), some (.int f), some (.int s0), none]) rfl (by decide) rfl (Nat.le_of_ble_eq_true rfl) rfl ?_
  intro p e s m args below meth c C
  refine jx_iload_n C dX10_cut_0 rfl ?_
  refine jx_iload_n C dX10_cut_1 rfl ?_
  refine jx_one C (jr_S C (c_8_isLane) sw_10_54 rfl ⟨Nat.le_of_ble_eq_true rfl, Nat.le_of_ble_eq_true rfl⟩ ⟨Nat.le_of_ble_eq_true rfl, Nat.le_of_ble_eq_true rfl⟩ dX10_cut_2 rfl (Nat.le_of_ble_eq_true rfl)) ?_
  rw [bI_f hx]
  refine jx_if_neF (tgt := 11) C dX10_cut_5 (by decide) (by decide) ?_
  refine jx_ldc C dX10_cut_8 qw_215 ?_
  exact jx_iret C dX10_cut_10 ⟨rfl, rfl, rfl, rfl⟩
set_option maxRecDepth 100000 in
set_option maxHeartbeats 4000000 in
theorem c_10_cutN {l : Launch} {D : va_G} {K : Nat → ClassId} {A : Nat → Nat} {I : TI} {U : TU} {P : TP} {a b : Nat} (ha : a < 4) (hb : b < 5) (h : P (5 * a + b) = none) : MM l yX10_cut cX10_cut 4 (some .int) 5 D K A (I) (U) (P) [.ref (A 0), .int (nI a), .int (nI b)] (XE (some (.int (0))) (I) (U) (va_up P (5 * a + b) none)) := by
  refine MM.go (own := RX10) (lv0 := [some (.ref (A 0)), some (.int (nI a)), some (.int (nI b)), none]) rfl (by decide) rfl (Nat.le_of_ble_eq_true rfl) rfl ?_
  intro p e s m args below meth c C
  refine jx_iload_n C dX10_cut_0 rfl ?_
  refine jx_iload_n C dX10_cut_1 rfl ?_
  refine jx_one C (jr_S C (c_8_isLane) sw_10_54 rfl ⟨Nat.le_of_ble_eq_true rfl, Nat.le_of_ble_eq_true rfl⟩ ⟨Nat.le_of_ble_eq_true rfl, Nat.le_of_ble_eq_true rfl⟩ dX10_cut_2 rfl (Nat.le_of_ble_eq_true rfl)) ?_
  rw [bI_t ⟨inF_nI ha, inS_nI hb⟩]
  refine jx_if_neT (tgt := 11) C dX10_cut_5 (by decide) (by decide) ?_
  refine jx_aload_n C dX10_cut_11 rfl ?_
  refine jx_get C fl_10_10_9 dX10_cut_12 (by decide) gg_0 rfl ?_
  refine jx_iload_n C dX10_cut_15 rfl ?_
  refine jx_iload_n C dX10_cut_16 rfl ?_
  refine jx_one C (jr_V C (c_8_laneAt ha hb) vw_10_70 (by decide) gg_1 rfl rfl ⟨Nat.le_of_ble_eq_true rfl, Nat.le_of_ble_eq_true rfl⟩ ⟨Nat.le_of_ble_eq_true rfl, Nat.le_of_ble_eq_true rfl⟩ dX10_cut_17 rfl (Nat.le_of_ble_eq_true rfl)) ?_
  rw [h]
  refine jx_ifnullN (tgt := 27) C dX10_cut_20 (by decide) ?_
  refine jx_iconst (v := 0) C dX10_cut_27 (by decide) ?_
  refine jx_istore_n (lv1 := [_, _, _, _]) C dX10_cut_28 (by decide) rfl ?_
  refine jx_aload_n C dX10_cut_29 rfl ?_
  refine jx_get C fl_10_10_9 dX10_cut_30 (by decide) gg_0 rfl ?_
  refine jx_iload_n C dX10_cut_33 rfl ?_
  refine jx_iload_n C dX10_cut_34 rfl ?_
  refine jx_void C (jr_V C (c_8_loosen ha hb) vw_10_74 (by decide) gg_1 rfl rfl ⟨Nat.le_of_ble_eq_true rfl, Nat.le_of_ble_eq_true rfl⟩ ⟨Nat.le_of_ble_eq_true rfl, Nat.le_of_ble_eq_true rfl⟩ dX10_cut_35 rfl (Nat.le_of_ble_eq_true rfl)) ?_
  refine jx_iload_n C dX10_cut_38 rfl ?_
  refine jx_if_eqT (tgt := 46) C dX10_cut_39 (by decide) (by decide) ?_
  refine jx_iconst (v := 0) C dX10_cut_46 (by decide) ?_
  exact jx_iret C dX10_cut_47 ⟨rfl, rfl, rfl, rfl⟩
set_option maxRecDepth 100000 in
set_option maxHeartbeats 4000000 in
theorem c_10_cutS {l : Launch} {D : va_G} {K : Nat → ClassId} {A : Nat → Nat} {I : TI} {U : TU} {P : TP} {a b : Nat} (ha : a < 4) (hb : b < 5) {k : Nat} (h : P (5 * a + b) = some k) : MM l yX10_cut cX10_cut 4 (some .int) 5 D K A (I) (U) (P) [.ref (A 0), .int (nI a), .int (nI b)] (XE (some (.int (1))) (I) (U) (va_up P (5 * a + b) none)) := by
  refine MM.go (own := RX10) (lv0 := [some (.ref (A 0)), some (.int (nI a)), some (.int (nI b)), none]) rfl (by decide) rfl (Nat.le_of_ble_eq_true rfl) rfl ?_
  intro p e s m args below meth c C
  refine jx_iload_n C dX10_cut_0 rfl ?_
  refine jx_iload_n C dX10_cut_1 rfl ?_
  refine jx_one C (jr_S C (c_8_isLane) sw_10_54 rfl ⟨Nat.le_of_ble_eq_true rfl, Nat.le_of_ble_eq_true rfl⟩ ⟨Nat.le_of_ble_eq_true rfl, Nat.le_of_ble_eq_true rfl⟩ dX10_cut_2 rfl (Nat.le_of_ble_eq_true rfl)) ?_
  rw [bI_t ⟨inF_nI ha, inS_nI hb⟩]
  refine jx_if_neT (tgt := 11) C dX10_cut_5 (by decide) (by decide) ?_
  refine jx_aload_n C dX10_cut_11 rfl ?_
  refine jx_get C fl_10_10_9 dX10_cut_12 (by decide) gg_0 rfl ?_
  refine jx_iload_n C dX10_cut_15 rfl ?_
  refine jx_iload_n C dX10_cut_16 rfl ?_
  refine jx_one C (jr_V C (c_8_laneAt ha hb) vw_10_70 (by decide) gg_1 rfl rfl ⟨Nat.le_of_ble_eq_true rfl, Nat.le_of_ble_eq_true rfl⟩ ⟨Nat.le_of_ble_eq_true rfl, Nat.le_of_ble_eq_true rfl⟩ dX10_cut_17 rfl (Nat.le_of_ble_eq_true rfl)) ?_
  rw [h]
  refine jx_ifnull C dX10_cut_20 ?_
  refine jx_iconst (v := 1) C dX10_cut_23 (by decide) ?_
  refine jx_goto (tgt := 28) C dX10_cut_24 (by decide) ?_
  refine jx_istore_n (lv1 := [_, _, _, _]) C dX10_cut_28 (by decide) rfl ?_
  refine jx_aload_n C dX10_cut_29 rfl ?_
  refine jx_get C fl_10_10_9 dX10_cut_30 (by decide) gg_0 rfl ?_
  refine jx_iload_n C dX10_cut_33 rfl ?_
  refine jx_iload_n C dX10_cut_34 rfl ?_
  refine jx_void C (jr_V C (c_8_loosen ha hb) vw_10_74 (by decide) gg_1 rfl rfl ⟨Nat.le_of_ble_eq_true rfl, Nat.le_of_ble_eq_true rfl⟩ ⟨Nat.le_of_ble_eq_true rfl, Nat.le_of_ble_eq_true rfl⟩ dX10_cut_35 rfl (Nat.le_of_ble_eq_true rfl)) ?_
  refine jx_iload_n C dX10_cut_38 rfl ?_
  refine jx_if_eqF (tgt := 46) C dX10_cut_39 (by decide) (by decide) ?_
  refine jx_iconst (v := 1) C dX10_cut_42 (by decide) ?_
  refine jx_goto (tgt := 47) C dX10_cut_43 (by decide) ?_
  exact jx_iret C dX10_cut_47 ⟨rfl, rfl, rfl, rfl⟩
set_option maxRecDepth 100000 in
set_option maxHeartbeats 4000000 in
theorem c_10_tieX1 {l : Launch} {D : va_G} {K : Nat → ClassId} {A : Nat → Nat} {I : TI} {U : TU} {P : TP} {f s0 : Int32} (hx : ¬ inL f s0) {n : Int32} : MM l yX10_tie cX10_tie 5 (some .int) 5 D K A (I) (U) (P) [.ref (A 0), .int f, .int s0, .int n] (XE (some (.int ((-2147483648)))) (I) (U) (P)) := by
  refine MM.go (own := RX10) (lv0 := [some (.ref (A 0)), some (.int f), some (.int s0), some (.int n), none]) rfl (by decide) rfl (Nat.le_of_ble_eq_true rfl) rfl ?_
  intro p e s m args below meth c C
  refine jx_iload_n C dX10_tie_0 rfl ?_
  refine jx_iload_n C dX10_tie_1 rfl ?_
  refine jx_one C (jr_S C (c_8_isLane) sw_10_54 rfl ⟨Nat.le_of_ble_eq_true rfl, Nat.le_of_ble_eq_true rfl⟩ ⟨Nat.le_of_ble_eq_true rfl, Nat.le_of_ble_eq_true rfl⟩ dX10_tie_2 rfl (Nat.le_of_ble_eq_true rfl)) ?_
  rw [bI_f hx]
  refine jx_if_eqT (tgt := 15) C dX10_tie_5 (by decide) (by decide) ?_
  refine jx_ldc C dX10_tie_15 qw_215 ?_
  exact jx_iret C dX10_tie_17 ⟨rfl, rfl, rfl, rfl⟩
set_option maxRecDepth 100000 in
set_option maxHeartbeats 4000000 in
theorem c_10_tieX2 {l : Launch} {D : va_G} {K : Nat → ClassId} {A : Nat → Nat} {I : TI} {U : TU} {P : TP} {a b : Nat} (ha : a < 4) (hb : b < 5) {n : Int32} (hx : ¬ inF n) : MM l yX10_tie cX10_tie 5 (some .int) 5 D K A (I) (U) (P) [.ref (A 0), .int (nI a), .int (nI b), .int n] (XE (some (.int ((-2147483648)))) (I) (U) (P)) := by
  refine MM.go (own := RX10) (lv0 := [some (.ref (A 0)), some (.int (nI a)), some (.int (nI b)), some (.int n), none]) rfl (by decide) rfl (Nat.le_of_ble_eq_true rfl) rfl ?_
  intro p e s m args below meth c C
  refine jx_iload_n C dX10_tie_0 rfl ?_
  refine jx_iload_n C dX10_tie_1 rfl ?_
  refine jx_one C (jr_S C (c_8_isLane) sw_10_54 rfl ⟨Nat.le_of_ble_eq_true rfl, Nat.le_of_ble_eq_true rfl⟩ ⟨Nat.le_of_ble_eq_true rfl, Nat.le_of_ble_eq_true rfl⟩ dX10_tie_2 rfl (Nat.le_of_ble_eq_true rfl)) ?_
  rw [bI_t ⟨inF_nI ha, inS_nI hb⟩]
  refine jx_if_eqF (tgt := 15) C dX10_tie_5 (by decide) (by decide) ?_
  refine jx_iload_n C dX10_tie_8 rfl ?_
  refine jx_one C (jr_S C (c_8_isFrame) sw_10_78 rfl ⟨Nat.le_of_ble_eq_true rfl, Nat.le_of_ble_eq_true rfl⟩ ⟨Nat.le_of_ble_eq_true rfl, Nat.le_of_ble_eq_true rfl⟩ dX10_tie_9 rfl (Nat.le_of_ble_eq_true rfl)) ?_
  rw [bI_f hx]
  refine jx_if_neF (tgt := 18) C dX10_tie_12 (by decide) (by decide) ?_
  refine jx_ldc C dX10_tie_15 qw_215 ?_
  exact jx_iret C dX10_tie_17 ⟨rfl, rfl, rfl, rfl⟩
set_option maxRecDepth 100000 in
set_option maxHeartbeats 4000000 in
theorem c_10_tieN {l : Launch} {D : va_G} {K : Nat → ClassId} {A : Nat → Nat} {I : TI} {U : TU} {P : TP} {a b : Nat} (ha : a < 4) (hb : b < 5) {c : Nat} (hc : c < 4) (hP : okP P) (h : P (5 * c + b) = none) : MM l yX10_tie cX10_tie 5 (some .int) 5 D K A (I) (U) (P) [.ref (A 0), .int (nI a), .int (nI b), .int (nI c)] (XE (some (.int (0))) (bg I) (U) (va_up P (5 * a + b) (P (5 * c + b)))) := by
  refine MM.go (own := RX10) (lv0 := [some (.ref (A 0)), some (.int (nI a)), some (.int (nI b)), some (.int (nI c)), none]) rfl (by decide) rfl (Nat.le_of_ble_eq_true rfl) rfl ?_
  intro p e s m args below meth c C
  refine jx_iload_n C dX10_tie_0 rfl ?_
  refine jx_iload_n C dX10_tie_1 rfl ?_
  refine jx_one C (jr_S C (c_8_isLane) sw_10_54 rfl ⟨Nat.le_of_ble_eq_true rfl, Nat.le_of_ble_eq_true rfl⟩ ⟨Nat.le_of_ble_eq_true rfl, Nat.le_of_ble_eq_true rfl⟩ dX10_tie_2 rfl (Nat.le_of_ble_eq_true rfl)) ?_
  rw [bI_t ⟨inF_nI ha, inS_nI hb⟩]
  refine jx_if_eqF (tgt := 15) C dX10_tie_5 (by decide) (by decide) ?_
  refine jx_iload_n C dX10_tie_8 rfl ?_
  refine jx_one C (jr_S C (c_8_isFrame) sw_10_78 rfl ⟨Nat.le_of_ble_eq_true rfl, Nat.le_of_ble_eq_true rfl⟩ ⟨Nat.le_of_ble_eq_true rfl, Nat.le_of_ble_eq_true rfl⟩ dX10_tie_9 rfl (Nat.le_of_ble_eq_true rfl)) ?_
  rw [bI_t (inF_nI hc)]
  refine jx_if_neT (tgt := 18) C dX10_tie_12 (by decide) (by decide) ?_
  refine jx_aload_n C dX10_tie_18 rfl ?_
  refine jx_get C fl_10_40_9 dX10_tie_19 (by decide) gg_0 rfl ?_
  refine jx_void C (jr_V C (c_4_begin) vw_10_59 (by decide) gg_63 rfl rfl ⟨Nat.le_of_ble_eq_true rfl, Nat.le_of_ble_eq_true rfl⟩ ⟨Nat.le_of_ble_eq_true rfl, Nat.le_of_ble_eq_true rfl⟩ dX10_tie_22 rfl (Nat.le_of_ble_eq_true rfl)) ?_
  refine jx_aload_n C dX10_tie_25 rfl ?_
  refine jx_get C fl_10_10_9 dX10_tie_26 (by decide) gg_0 rfl ?_
  refine jx_iload_n C dX10_tie_29 rfl ?_
  refine jx_iload_n C dX10_tie_30 rfl ?_
  refine jx_iload_n C dX10_tie_31 rfl ?_
  refine jx_void C (jr_V C (c_8_join ha hb hc hP) vw_10_82 (by decide) gg_1 rfl rfl ⟨Nat.le_of_ble_eq_true rfl, Nat.le_of_ble_eq_true rfl⟩ ⟨Nat.le_of_ble_eq_true rfl, Nat.le_of_ble_eq_true rfl⟩ dX10_tie_32 rfl (Nat.le_of_ble_eq_true rfl)) ?_
  refine jx_aload_n C dX10_tie_35 rfl ?_
  refine jx_get C fl_10_10_9 dX10_tie_36 (by decide) gg_0 rfl ?_
  refine jx_iload_n C dX10_tie_39 rfl ?_
  refine jx_iload_n C dX10_tie_40 rfl ?_
  refine jx_one C (jr_V C (c_8_laneAt ha hb) vw_10_70 (by decide) gg_1 rfl rfl ⟨Nat.le_of_ble_eq_true rfl, Nat.le_of_ble_eq_true rfl⟩ ⟨Nat.le_of_ble_eq_true rfl, Nat.le_of_ble_eq_true rfl⟩ dX10_tie_41 rfl (Nat.le_of_ble_eq_true rfl)) ?_
  rw [va_up_self, h]
  refine jx_astoreN (lv1 := [_, _, _, _, _]) C dX10_tie_44 (by decide) rfl ?_
  refine jx_aloadN C dX10_tie_46 rfl ?_
  refine jx_ifnonnullN C dX10_tie_48 ?_
  refine jx_iconst (v := 0) C dX10_tie_51 (by decide) ?_
  refine jx_goto (tgt := 60) C dX10_tie_52 (by decide) ?_
  exact jx_iret C dX10_tie_60 ⟨rfl, rfl, rfl, rfl⟩
set_option maxRecDepth 100000 in
set_option maxHeartbeats 4000000 in
theorem c_10_tieS {l : Launch} {D : va_G} {K : Nat → ClassId} {A : Nat → Nat} {I : TI} {U : TU} {P : TP} {a b : Nat} (ha : a < 4) (hb : b < 5) {c : Nat} (hc : c < 4) (hP : okP P) {k : Nat} (hk : k < 20) (h : P (5 * c + b) = some k) : MM l yX10_tie cX10_tie 5 (some .int) 5 D K A (I) (U) (P) [.ref (A 0), .int (nI a), .int (nI b), .int (nI c)] (XE (some (.int (I (4 + 2 * k) 0))) (bg I) (U) (va_up P (5 * a + b) (P (5 * c + b)))) := by
  refine MM.go (own := RX10) (lv0 := [some (.ref (A 0)), some (.int (nI a)), some (.int (nI b)), some (.int (nI c)), none]) rfl (by decide) rfl (Nat.le_of_ble_eq_true rfl) rfl ?_
  intro p e s m args below meth c C
  refine jx_iload_n C dX10_tie_0 rfl ?_
  refine jx_iload_n C dX10_tie_1 rfl ?_
  refine jx_one C (jr_S C (c_8_isLane) sw_10_54 rfl ⟨Nat.le_of_ble_eq_true rfl, Nat.le_of_ble_eq_true rfl⟩ ⟨Nat.le_of_ble_eq_true rfl, Nat.le_of_ble_eq_true rfl⟩ dX10_tie_2 rfl (Nat.le_of_ble_eq_true rfl)) ?_
  rw [bI_t ⟨inF_nI ha, inS_nI hb⟩]
  refine jx_if_eqF (tgt := 15) C dX10_tie_5 (by decide) (by decide) ?_
  refine jx_iload_n C dX10_tie_8 rfl ?_
  refine jx_one C (jr_S C (c_8_isFrame) sw_10_78 rfl ⟨Nat.le_of_ble_eq_true rfl, Nat.le_of_ble_eq_true rfl⟩ ⟨Nat.le_of_ble_eq_true rfl, Nat.le_of_ble_eq_true rfl⟩ dX10_tie_9 rfl (Nat.le_of_ble_eq_true rfl)) ?_
  rw [bI_t (inF_nI hc)]
  refine jx_if_neT (tgt := 18) C dX10_tie_12 (by decide) (by decide) ?_
  refine jx_aload_n C dX10_tie_18 rfl ?_
  refine jx_get C fl_10_40_9 dX10_tie_19 (by decide) gg_0 rfl ?_
  refine jx_void C (jr_V C (c_4_begin) vw_10_59 (by decide) gg_63 rfl rfl ⟨Nat.le_of_ble_eq_true rfl, Nat.le_of_ble_eq_true rfl⟩ ⟨Nat.le_of_ble_eq_true rfl, Nat.le_of_ble_eq_true rfl⟩ dX10_tie_22 rfl (Nat.le_of_ble_eq_true rfl)) ?_
  refine jx_aload_n C dX10_tie_25 rfl ?_
  refine jx_get C fl_10_10_9 dX10_tie_26 (by decide) gg_0 rfl ?_
  refine jx_iload_n C dX10_tie_29 rfl ?_
  refine jx_iload_n C dX10_tie_30 rfl ?_
  refine jx_iload_n C dX10_tie_31 rfl ?_
  refine jx_void C (jr_V C (c_8_join ha hb hc hP) vw_10_82 (by decide) gg_1 rfl rfl ⟨Nat.le_of_ble_eq_true rfl, Nat.le_of_ble_eq_true rfl⟩ ⟨Nat.le_of_ble_eq_true rfl, Nat.le_of_ble_eq_true rfl⟩ dX10_tie_32 rfl (Nat.le_of_ble_eq_true rfl)) ?_
  refine jx_aload_n C dX10_tie_35 rfl ?_
  refine jx_get C fl_10_10_9 dX10_tie_36 (by decide) gg_0 rfl ?_
  refine jx_iload_n C dX10_tie_39 rfl ?_
  refine jx_iload_n C dX10_tie_40 rfl ?_
  refine jx_one C (jr_V C (c_8_laneAt ha hb) vw_10_70 (by decide) gg_1 rfl rfl ⟨Nat.le_of_ble_eq_true rfl, Nat.le_of_ble_eq_true rfl⟩ ⟨Nat.le_of_ble_eq_true rfl, Nat.le_of_ble_eq_true rfl⟩ dX10_tie_41 rfl (Nat.le_of_ble_eq_true rfl)) ?_
  rw [va_up_self, h]
  refine jx_astore (lv1 := [_, _, _, _, _]) C dX10_tie_44 (by decide) rfl ?_
  refine jx_aload C dX10_tie_46 rfl ?_
  refine jx_ifnonnull (tgt := 55) C dX10_tie_48 (by decide) ?_
  refine jx_aload C dX10_tie_55 rfl ?_
  refine jx_one C (jv_count C dX10_tie_57 hk ⟨by decide, by decide⟩ ⟨Nat.zero_le _, Nat.zero_le _⟩ (Nat.le_of_ble_eq_true rfl)) ?_
  rw [up2_ne (by omega)]
  exact jx_iret C dX10_tie_60 ⟨rfl, rfl, rfl, rfl⟩
set_option maxRecDepth 100000 in
set_option maxHeartbeats 4000000 in
theorem c_10_endsX {l : Launch} {D : va_G} {K : Nat → ClassId} {A : Nat → Nat} {I : TI} {U : TU} {P : TP} {f s0 : Int32} (hx : ¬ inL f s0) : MM l yX10_ends cX10_ends 4 (some .int) 5 D K A (I) (U) (P) [.ref (A 0), .int f, .int s0] (XE (some (.int ((-2147483648)))) (I) (U) (P)) := by
  refine MM.go (own := RX10) (lv0 := [some (.ref (A 0)), some (.int f), some (.int s0), none]) rfl (by decide) rfl (Nat.le_of_ble_eq_true rfl) rfl ?_
  intro p e s m args below meth c C
  refine jx_iload_n C dX10_ends_0 rfl ?_
  refine jx_iload_n C dX10_ends_1 rfl ?_
  refine jx_one C (jr_S C (c_8_isLane) sw_10_54 rfl ⟨Nat.le_of_ble_eq_true rfl, Nat.le_of_ble_eq_true rfl⟩ ⟨Nat.le_of_ble_eq_true rfl, Nat.le_of_ble_eq_true rfl⟩ dX10_ends_2 rfl (Nat.le_of_ble_eq_true rfl)) ?_
  rw [bI_f hx]
  refine jx_if_neF (tgt := 11) C dX10_ends_5 (by decide) (by decide) ?_
  refine jx_ldc C dX10_ends_8 qw_215 ?_
  exact jx_iret C dX10_ends_10 ⟨rfl, rfl, rfl, rfl⟩
set_option maxRecDepth 100000 in
set_option maxHeartbeats 4000000 in
theorem c_10_endsN {l : Launch} {D : va_G} {K : Nat → ClassId} {A : Nat → Nat} {I : TI} {U : TU} {P : TP} {a b : Nat} (ha : a < 4) (hb : b < 5) (h : P (5 * a + b) = none) : MM l yX10_ends cX10_ends 4 (some .int) 5 D K A (I) (U) (P) [.ref (A 0), .int (nI a), .int (nI b)] (XE (some (.int (0))) (tel (bg I) 1) (U) (P)) := by
  refine MM.go (own := RX10) (lv0 := [some (.ref (A 0)), some (.int (nI a)), some (.int (nI b)), none]) rfl (by decide) rfl (Nat.le_of_ble_eq_true rfl) rfl ?_
  intro p e s m args below meth c C
  refine jx_iload_n C dX10_ends_0 rfl ?_
  refine jx_iload_n C dX10_ends_1 rfl ?_
  refine jx_one C (jr_S C (c_8_isLane) sw_10_54 rfl ⟨Nat.le_of_ble_eq_true rfl, Nat.le_of_ble_eq_true rfl⟩ ⟨Nat.le_of_ble_eq_true rfl, Nat.le_of_ble_eq_true rfl⟩ dX10_ends_2 rfl (Nat.le_of_ble_eq_true rfl)) ?_
  rw [bI_t ⟨inF_nI ha, inS_nI hb⟩]
  refine jx_if_neT (tgt := 11) C dX10_ends_5 (by decide) (by decide) ?_
  refine jx_aload_n C dX10_ends_11 rfl ?_
  refine jx_get C fl_10_40_9 dX10_ends_12 (by decide) gg_0 rfl ?_
  refine jx_void C (jr_V C (c_4_begin) vw_10_59 (by decide) gg_63 rfl rfl ⟨Nat.le_of_ble_eq_true rfl, Nat.le_of_ble_eq_true rfl⟩ ⟨Nat.le_of_ble_eq_true rfl, Nat.le_of_ble_eq_true rfl⟩ dX10_ends_15 rfl (Nat.le_of_ble_eq_true rfl)) ?_
  refine jx_aload_n C dX10_ends_18 rfl ?_
  refine jx_get C fl_10_10_9 dX10_ends_19 (by decide) gg_0 rfl ?_
  refine jx_iload_n C dX10_ends_22 rfl ?_
  refine jx_iload_n C dX10_ends_23 rfl ?_
  refine jx_one C (jr_V C (c_8_laneAt ha hb) vw_10_70 (by decide) gg_1 rfl rfl ⟨Nat.le_of_ble_eq_true rfl, Nat.le_of_ble_eq_true rfl⟩ ⟨Nat.le_of_ble_eq_true rfl, Nat.le_of_ble_eq_true rfl⟩ dX10_ends_24 rfl (Nat.le_of_ble_eq_true rfl)) ?_
  rw [h]
  refine jx_astore_nN (lv1 := [_, _, _, _]) C dX10_ends_27 (by decide) rfl ?_
  refine jx_aload_nN C dX10_ends_28 rfl ?_
  refine jx_ifnonnullN C dX10_ends_29 ?_
  refine jx_aload_n C dX10_ends_32 rfl ?_
  refine jx_get C fl_10_40_9 dX10_ends_33 (by decide) gg_0 rfl ?_
  refine jx_iconst (v := 1) C dX10_ends_36 (by decide) ?_
  refine jx_one C (jr_V C (c_4_tell (f := 1) (by decide) (by decide)) vw_10_62 (by decide) gg_63 rfl rfl ⟨Nat.le_of_ble_eq_true rfl, Nat.le_of_ble_eq_true rfl⟩ ⟨Nat.le_of_ble_eq_true rfl, Nat.le_of_ble_eq_true rfl⟩ dX10_ends_37 rfl (Nat.le_of_ble_eq_true rfl)) ?_
  refine jx_goto (tgt := 47) C dX10_ends_40 (by decide) ?_
  exact jx_iret C dX10_ends_47 ⟨rfl, rfl, rfl, rfl⟩
set_option maxRecDepth 100000 in
set_option maxHeartbeats 4000000 in
theorem c_10_endsS {l : Launch} {D : va_G} {K : Nat → ClassId} {A : Nat → Nat} {I : TI} {U : TU} {P : TP} {a b : Nat} (ha : a < 4) (hb : b < 5) {k : Nat} (hk : k < 20) (h : P (5 * a + b) = some k) : MM l yX10_ends cX10_ends 4 (some .int) 5 D K A (I) (U) (P) [.ref (A 0), .int (nI a), .int (nI b)] (XE (some (.int (I (4 + 2 * k) 0))) (bg I) (U) (P)) := by
  refine MM.go (own := RX10) (lv0 := [some (.ref (A 0)), some (.int (nI a)), some (.int (nI b)), none]) rfl (by decide) rfl (Nat.le_of_ble_eq_true rfl) rfl ?_
  intro p e s m args below meth c C
  refine jx_iload_n C dX10_ends_0 rfl ?_
  refine jx_iload_n C dX10_ends_1 rfl ?_
  refine jx_one C (jr_S C (c_8_isLane) sw_10_54 rfl ⟨Nat.le_of_ble_eq_true rfl, Nat.le_of_ble_eq_true rfl⟩ ⟨Nat.le_of_ble_eq_true rfl, Nat.le_of_ble_eq_true rfl⟩ dX10_ends_2 rfl (Nat.le_of_ble_eq_true rfl)) ?_
  rw [bI_t ⟨inF_nI ha, inS_nI hb⟩]
  refine jx_if_neT (tgt := 11) C dX10_ends_5 (by decide) (by decide) ?_
  refine jx_aload_n C dX10_ends_11 rfl ?_
  refine jx_get C fl_10_40_9 dX10_ends_12 (by decide) gg_0 rfl ?_
  refine jx_void C (jr_V C (c_4_begin) vw_10_59 (by decide) gg_63 rfl rfl ⟨Nat.le_of_ble_eq_true rfl, Nat.le_of_ble_eq_true rfl⟩ ⟨Nat.le_of_ble_eq_true rfl, Nat.le_of_ble_eq_true rfl⟩ dX10_ends_15 rfl (Nat.le_of_ble_eq_true rfl)) ?_
  refine jx_aload_n C dX10_ends_18 rfl ?_
  refine jx_get C fl_10_10_9 dX10_ends_19 (by decide) gg_0 rfl ?_
  refine jx_iload_n C dX10_ends_22 rfl ?_
  refine jx_iload_n C dX10_ends_23 rfl ?_
  refine jx_one C (jr_V C (c_8_laneAt ha hb) vw_10_70 (by decide) gg_1 rfl rfl ⟨Nat.le_of_ble_eq_true rfl, Nat.le_of_ble_eq_true rfl⟩ ⟨Nat.le_of_ble_eq_true rfl, Nat.le_of_ble_eq_true rfl⟩ dX10_ends_24 rfl (Nat.le_of_ble_eq_true rfl)) ?_
  rw [h]
  refine jx_astore_n (lv1 := [_, _, _, _]) C dX10_ends_27 (by decide) rfl ?_
  refine jx_aload_n C dX10_ends_28 rfl ?_
  refine jx_ifnonnull (tgt := 43) C dX10_ends_29 (by decide) ?_
  refine jx_aload_n C dX10_ends_43 rfl ?_
  refine jx_one C (jv_count C dX10_ends_44 hk ⟨by decide, by decide⟩ ⟨Nat.zero_le _, Nat.zero_le _⟩ (Nat.le_of_ble_eq_true rfl)) ?_
  rw [up2_ne (by omega)]
  exact jx_iret C dX10_ends_47 ⟨rfl, rfl, rfl, rfl⟩
set_option maxRecDepth 100000 in
set_option maxHeartbeats 4000000 in
theorem c_10_spoolX {l : Launch} {D : va_G} {K : Nat → ClassId} {A : Nat → Nat} {I : TI} {U : TU} {P : TP} {v : Int32} (h : I 44 2 = 16) : MM l yX10_spool cX10_spool 2 (some .int) 5 D K A (I) (U) (P) [.ref (A 0), .int v] (XE (some (.int ((-2147483648)))) (I) (U) (P)) := by
  refine MM.go (own := RX10) (lv0 := [some (.ref (A 0)), some (.int v)]) rfl (by decide) rfl (Nat.le_of_ble_eq_true rfl) rfl ?_
  intro p e s m args below meth c C
  refine jx_aload_n C dX10_spool_0 rfl ?_
  refine jx_get C fl_10_19_9 dX10_spool_1 (by decide) gg_0 rfl ?_
  refine jx_one C (jr_V C (c_6_isFull) vw_10_91 (by decide) gg_44 rfl rfl ⟨Nat.le_of_ble_eq_true rfl, Nat.le_of_ble_eq_true rfl⟩ ⟨Nat.le_of_ble_eq_true rfl, Nat.le_of_ble_eq_true rfl⟩ dX10_spool_4 rfl (Nat.le_of_ble_eq_true rfl)) ?_
  rw [bI_t h]
  refine jx_if_eqF (tgt := 13) C dX10_spool_7 (by decide) (by decide) ?_
  refine jx_ldc C dX10_spool_10 qw_215 ?_
  exact jx_iret C dX10_spool_12 ⟨rfl, rfl, rfl, rfl⟩
set_option maxRecDepth 100000 in
set_option maxHeartbeats 4000000 in
theorem c_10_spool {l : Launch} {D : va_G} {K : Nat → ClassId} {A : Nat → Nat} {I : TI} {U : TU} {P : TP} {v : Int32} {fi co : Nat} (hfi : I 44 1 = nI fi) (hco : I 44 2 = nI co) (h1 : fi < 16) (h2 : co < 16) : MM l yX10_spool cX10_spool 2 (some .int) 5 D K A (I) (U) (P) [.ref (A 0), .int v] (XE (some (.int (nI (co + 1)))) (up2 (up2 I 45 ((fi + co) % 16) v) 44 2 (nI (co + 1))) (U) (P)) := by
  refine MM.go (own := RX10) (lv0 := [some (.ref (A 0)), some (.int v)]) rfl (by decide) rfl (Nat.le_of_ble_eq_true rfl) rfl ?_
  intro p e s m args below meth c C
  refine jx_aload_n C dX10_spool_0 rfl ?_
  refine jx_get C fl_10_19_9 dX10_spool_1 (by decide) gg_0 rfl ?_
  refine jx_one C (jr_V C (c_6_isFull) vw_10_91 (by decide) gg_44 rfl rfl ⟨Nat.le_of_ble_eq_true rfl, Nat.le_of_ble_eq_true rfl⟩ ⟨Nat.le_of_ble_eq_true rfl, Nat.le_of_ble_eq_true rfl⟩ dX10_spool_4 rfl (Nat.le_of_ble_eq_true rfl)) ?_
  rw [bI_f (show ¬ I 44 2 = 16 by rw [hco, show (16 : Int32) = nI 16 from rfl, nI_eq (by omega) (by decide)]; omega)]
  refine jx_if_eqT (tgt := 13) C dX10_spool_7 (by decide) (by decide) ?_
  refine jx_aload_n C dX10_spool_13 rfl ?_
  refine jx_get C fl_10_19_9 dX10_spool_14 (by decide) gg_0 rfl ?_
  refine jx_iload_n C dX10_spool_17 rfl ?_
  refine jx_void C (jr_V C (c_6_wind hfi hco h1 h2) vw_10_95 (by decide) gg_44 rfl rfl ⟨Nat.le_of_ble_eq_true rfl, Nat.le_of_ble_eq_true rfl⟩ ⟨Nat.le_of_ble_eq_true rfl, Nat.le_of_ble_eq_true rfl⟩ dX10_spool_18 rfl (Nat.le_of_ble_eq_true rfl)) ?_
  refine jx_aload_n C dX10_spool_21 rfl ?_
  refine jx_get C fl_10_19_9 dX10_spool_22 (by decide) gg_0 rfl ?_
  refine jx_one C (jr_V C (c_6_count) vw_10_99 (by decide) gg_44 rfl rfl ⟨Nat.le_of_ble_eq_true rfl, Nat.le_of_ble_eq_true rfl⟩ ⟨Nat.le_of_ble_eq_true rfl, Nat.le_of_ble_eq_true rfl⟩ dX10_spool_25 rfl (Nat.le_of_ble_eq_true rfl)) ?_
  rw [up2_same]
  exact jx_iret C dX10_spool_28 ⟨rfl, rfl, rfl, rfl⟩
set_option maxRecDepth 100000 in
set_option maxHeartbeats 4000000 in
theorem c_10_actX1 {l : Launch} {D : va_G} {K : Nat → ClassId} {A : Nat → Nat} {I : TI} {U : TU} {P : TP} {kd f s0 x v : Int32} (hx : ¬ inK kd) : MM l yX10_act cX10_act 6 (some .int) 5 D K A (I) (U) (P) [.ref (A 0), .int kd, .int f, .int s0, .int x, .int v] (XE (some (.int ((-2147483648)))) (I) (U) (P)) := by
  refine MM.go (own := RX10) (lv0 := [some (.ref (A 0)), some (.int kd), some (.int f), some (.int s0), some (.int x), some (.int v)]) rfl (by decide) rfl (Nat.le_of_ble_eq_true rfl) rfl ?_
  intro p e s m args below meth c C
  refine jx_iload_n C dX10_act_0 rfl ?_
  refine jx_one C (jr_S C (c_10_isAct) sw_10_100 rfl ⟨Nat.le_of_ble_eq_true rfl, Nat.le_of_ble_eq_true rfl⟩ ⟨Nat.le_of_ble_eq_true rfl, Nat.le_of_ble_eq_true rfl⟩ dX10_act_1 rfl (Nat.le_of_ble_eq_true rfl)) ?_
  rw [bI_f hx]
  refine jx_if_eqT (tgt := 15) C dX10_act_4 (by decide) (by decide) ?_
  refine jx_ldc C dX10_act_15 qw_215 ?_
  exact jx_iret C dX10_act_17 ⟨rfl, rfl, rfl, rfl⟩
set_option maxRecDepth 100000 in
set_option maxHeartbeats 4000000 in
theorem c_10_actX2 {l : Launch} {D : va_G} {K : Nat → ClassId} {A : Nat → Nat} {I : TI} {U : TU} {P : TP} {kd x v : Int32} (hk : inK kd) {f s0 : Int32} (hx : ¬ inL f s0) : MM l yX10_act cX10_act 6 (some .int) 5 D K A (I) (U) (P) [.ref (A 0), .int kd, .int f, .int s0, .int x, .int v] (XE (some (.int ((-2147483648)))) (I) (U) (P)) := by
  refine MM.go (own := RX10) (lv0 := [some (.ref (A 0)), some (.int kd), some (.int f), some (.int s0), some (.int x), some (.int v)]) rfl (by decide) rfl (Nat.le_of_ble_eq_true rfl) rfl ?_
  intro p e s m args below meth c C
  refine jx_iload_n C dX10_act_0 rfl ?_
  refine jx_one C (jr_S C (c_10_isAct) sw_10_100 rfl ⟨Nat.le_of_ble_eq_true rfl, Nat.le_of_ble_eq_true rfl⟩ ⟨Nat.le_of_ble_eq_true rfl, Nat.le_of_ble_eq_true rfl⟩ dX10_act_1 rfl (Nat.le_of_ble_eq_true rfl)) ?_
  rw [bI_t hk]
  refine jx_if_eqF (tgt := 15) C dX10_act_4 (by decide) (by decide) ?_
  refine jx_iload_n C dX10_act_7 rfl ?_
  refine jx_iload_n C dX10_act_8 rfl ?_
  refine jx_one C (jr_S C (c_8_isLane) sw_10_54 rfl ⟨Nat.le_of_ble_eq_true rfl, Nat.le_of_ble_eq_true rfl⟩ ⟨Nat.le_of_ble_eq_true rfl, Nat.le_of_ble_eq_true rfl⟩ dX10_act_9 rfl (Nat.le_of_ble_eq_true rfl)) ?_
  rw [bI_f hx]
  refine jx_if_neF (tgt := 18) C dX10_act_12 (by decide) (by decide) ?_
  refine jx_ldc C dX10_act_15 qw_215 ?_
  exact jx_iret C dX10_act_17 ⟨rfl, rfl, rfl, rfl⟩
set_option maxRecDepth 100000 in
set_option maxHeartbeats 4000000 in
theorem c_10_act {l : Launch} {D : va_G} {K : Nat → ClassId} {A : Nat → Nat} {I : TI} {U : TU} {P : TP} {kd : Nat} {x v : Int32} (hk : kd < 5) {a b : Nat} (ha : a < 4) (hb : b < 5) (hs : okS I) (hl : ∀ k, P (5 * a + b) = some k → okL I U k) : MM l yX10_act cX10_act 6 (some .int) 5 D K A (I) (U) (P) [.ref (A 0), .int (nI kd), .int (nI a), .int (nI b), .int x, .int v] (XE (some (.int (wk kd (P (5 * a + b)) x v I U).1)) (wk kd (P (5 * a + b)) x v I U).2.1 (wk kd (P (5 * a + b)) x v I U).2.2 P) := by
  refine MM.go (own := RX10) (lv0 := [some (.ref (A 0)), some (.int (nI kd)), some (.int (nI a)), some (.int (nI b)), some (.int x), some (.int v)]) rfl (by decide) rfl (Nat.le_of_ble_eq_true rfl) rfl ?_
  intro p e s m args below meth c C
  refine jx_iload_n C dX10_act_0 rfl ?_
  refine jx_one C (jr_S C (c_10_isAct) sw_10_100 rfl ⟨Nat.le_of_ble_eq_true rfl, Nat.le_of_ble_eq_true rfl⟩ ⟨Nat.le_of_ble_eq_true rfl, Nat.le_of_ble_eq_true rfl⟩ dX10_act_1 rfl (Nat.le_of_ble_eq_true rfl)) ?_
  rw [bI_t (inK_nI hk)]
  refine jx_if_eqF (tgt := 15) C dX10_act_4 (by decide) (by decide) ?_
  refine jx_iload_n C dX10_act_7 rfl ?_
  refine jx_iload_n C dX10_act_8 rfl ?_
  refine jx_one C (jr_S C (c_8_isLane) sw_10_54 rfl ⟨Nat.le_of_ble_eq_true rfl, Nat.le_of_ble_eq_true rfl⟩ ⟨Nat.le_of_ble_eq_true rfl, Nat.le_of_ble_eq_true rfl⟩ dX10_act_9 rfl (Nat.le_of_ble_eq_true rfl)) ?_
  rw [bI_t ⟨inF_nI ha, inS_nI hb⟩]
  refine jx_if_neT (tgt := 18) C dX10_act_12 (by decide) (by decide) ?_
  refine jx_aload_n C dX10_act_18 rfl ?_
  refine jx_iload_n C dX10_act_19 rfl ?_
  refine jx_aload_n C dX10_act_20 rfl ?_
  refine jx_get C fl_10_10_9 dX10_act_21 (by decide) gg_0 rfl ?_
  refine jx_iload_n C dX10_act_24 rfl ?_
  refine jx_iload_n C dX10_act_25 rfl ?_
  refine jx_one C (jr_V C (c_8_laneAt ha hb) vw_10_70 (by decide) gg_1 rfl rfl ⟨Nat.le_of_ble_eq_true rfl, Nat.le_of_ble_eq_true rfl⟩ ⟨Nat.le_of_ble_eq_true rfl, Nat.le_of_ble_eq_true rfl⟩ dX10_act_26 rfl (Nat.le_of_ble_eq_true rfl)) ?_
  refine jx_iload C dX10_act_29 rfl ?_
  refine jx_iload C dX10_act_31 rfl ?_
  refine jx_one C (jr_V C (c_10_work hk hs hl) vw_10_103 (by decide) gg_0 rfl rfl ⟨Nat.le_of_ble_eq_true rfl, Nat.le_of_ble_eq_true rfl⟩ ⟨Nat.le_of_ble_eq_true rfl, Nat.le_of_ble_eq_true rfl⟩ dX10_act_33 rfl (Nat.le_of_ble_eq_true rfl)) ?_
  exact jx_iret C dX10_act_36 ⟨rfl, rfl, rfl, rfl⟩
set_option maxRecDepth 100000 in
set_option maxHeartbeats 4000000 in
theorem c_10_swapX {l : Launch} {D : va_G} {K : Nat → ClassId} {A : Nat → Nat} {I : TI} {U : TU} {P : TP} {f s0 : Int32} (hx : ¬ inL f s0) {x y : Int32} : MM l yX10_swap cX10_swap 7 (some .int) 5 D K A (I) (U) (P) [.ref (A 0), .int f, .int s0, .int x, .int y] (XE (some (.int ((-2147483648)))) (I) (U) (P)) := by
  refine MM.go (own := RX10) (lv0 := [some (.ref (A 0)), some (.int f), some (.int s0), some (.int x), some (.int y), none, none]) rfl (by decide) rfl (Nat.le_of_ble_eq_true rfl) rfl ?_
  intro p e s m args below meth c C
  refine jx_iload_n C dX10_swap_0 rfl ?_
  refine jx_iload_n C dX10_swap_1 rfl ?_
  refine jx_one C (jr_S C (c_8_isLane) sw_10_54 rfl ⟨Nat.le_of_ble_eq_true rfl, Nat.le_of_ble_eq_true rfl⟩ ⟨Nat.le_of_ble_eq_true rfl, Nat.le_of_ble_eq_true rfl⟩ dX10_swap_2 rfl (Nat.le_of_ble_eq_true rfl)) ?_
  rw [bI_f hx]
  refine jx_if_neF (tgt := 11) C dX10_swap_5 (by decide) (by decide) ?_
  refine jx_ldc C dX10_swap_8 qw_215 ?_
  exact jx_iret C dX10_swap_10 ⟨rfl, rfl, rfl, rfl⟩
set_option maxRecDepth 100000 in
set_option maxHeartbeats 4000000 in
theorem c_10_swapN {l : Launch} {D : va_G} {K : Nat → ClassId} {A : Nat → Nat} {I : TI} {U : TU} {P : TP} {a b : Nat} (ha : a < 4) (hb : b < 5) {x y : Int32} (h : P (5 * a + b) = none) : MM l yX10_swap cX10_swap 7 (some .int) 5 D K A (I) (U) (P) [.ref (A 0), .int (nI a), .int (nI b), .int x, .int y] (XE (some (.int (0))) (tel (bg I) 1) (U) (P)) := by
  refine MM.go (own := RX10) (lv0 := [some (.ref (A 0)), some (.int (nI a)), some (.int (nI b)), some (.int x), some (.int y), none, none]) rfl (by decide) rfl (Nat.le_of_ble_eq_true rfl) rfl ?_
  intro p e s m args below meth c C
  refine jx_iload_n C dX10_swap_0 rfl ?_
  refine jx_iload_n C dX10_swap_1 rfl ?_
  refine jx_one C (jr_S C (c_8_isLane) sw_10_54 rfl ⟨Nat.le_of_ble_eq_true rfl, Nat.le_of_ble_eq_true rfl⟩ ⟨Nat.le_of_ble_eq_true rfl, Nat.le_of_ble_eq_true rfl⟩ dX10_swap_2 rfl (Nat.le_of_ble_eq_true rfl)) ?_
  rw [bI_t ⟨inF_nI ha, inS_nI hb⟩]
  refine jx_if_neT (tgt := 11) C dX10_swap_5 (by decide) (by decide) ?_
  refine jx_aload_n C dX10_swap_11 rfl ?_
  refine jx_get C fl_10_40_9 dX10_swap_12 (by decide) gg_0 rfl ?_
  refine jx_void C (jr_V C (c_4_begin) vw_10_59 (by decide) gg_63 rfl rfl ⟨Nat.le_of_ble_eq_true rfl, Nat.le_of_ble_eq_true rfl⟩ ⟨Nat.le_of_ble_eq_true rfl, Nat.le_of_ble_eq_true rfl⟩ dX10_swap_15 rfl (Nat.le_of_ble_eq_true rfl)) ?_
  refine jx_aload_n C dX10_swap_18 rfl ?_
  refine jx_get C fl_10_10_9 dX10_swap_19 (by decide) gg_0 rfl ?_
  refine jx_iload_n C dX10_swap_22 rfl ?_
  refine jx_iload_n C dX10_swap_23 rfl ?_
  refine jx_one C (jr_V C (c_8_laneAt ha hb) vw_10_70 (by decide) gg_1 rfl rfl ⟨Nat.le_of_ble_eq_true rfl, Nat.le_of_ble_eq_true rfl⟩ ⟨Nat.le_of_ble_eq_true rfl, Nat.le_of_ble_eq_true rfl⟩ dX10_swap_24 rfl (Nat.le_of_ble_eq_true rfl)) ?_
  rw [h]
  refine jx_astoreN (lv1 := [_, _, _, _, _, _, _]) C dX10_swap_27 (by decide) rfl ?_
  refine jx_aloadN C dX10_swap_29 rfl ?_
  refine jx_ifnonnullN C dX10_swap_31 ?_
  refine jx_aload_n C dX10_swap_34 rfl ?_
  refine jx_get C fl_10_40_9 dX10_swap_35 (by decide) gg_0 rfl ?_
  refine jx_iconst (v := 1) C dX10_swap_38 (by decide) ?_
  refine jx_one C (jr_V C (c_4_tell (f := 1) (by decide) (by decide)) vw_10_62 (by decide) gg_63 rfl rfl ⟨Nat.le_of_ble_eq_true rfl, Nat.le_of_ble_eq_true rfl⟩ ⟨Nat.le_of_ble_eq_true rfl, Nat.le_of_ble_eq_true rfl⟩ dX10_swap_39 rfl (Nat.le_of_ble_eq_true rfl)) ?_
  exact jx_iret C dX10_swap_42 ⟨rfl, rfl, rfl, rfl⟩
set_option maxRecDepth 100000 in
set_option maxHeartbeats 4000000 in
theorem c_10_swapO1 {l : Launch} {D : va_G} {K : Nat → ClassId} {A : Nat → Nat} {I : TI} {U : TU} {P : TP} {a b : Nat} (ha : a < 4) (hb : b < 5) {x y : Int32} {k : Nat} (hk : k < 20) (h : P (5 * a + b) = some k) (hi : ¬ inR (I (4 + 2 * k) 0) x) : MM l yX10_swap cX10_swap 7 (some .int) 5 D K A (I) (U) (P) [.ref (A 0), .int (nI a), .int (nI b), .int x, .int y] (XE (some (.int (0))) (tel (bg I) 2) (U) (P)) := by
  refine MM.go (own := RX10) (lv0 := [some (.ref (A 0)), some (.int (nI a)), some (.int (nI b)), some (.int x), some (.int y), none, none]) rfl (by decide) rfl (Nat.le_of_ble_eq_true rfl) rfl ?_
  intro p e s m args below meth c C
  refine jx_iload_n C dX10_swap_0 rfl ?_
  refine jx_iload_n C dX10_swap_1 rfl ?_
  refine jx_one C (jr_S C (c_8_isLane) sw_10_54 rfl ⟨Nat.le_of_ble_eq_true rfl, Nat.le_of_ble_eq_true rfl⟩ ⟨Nat.le_of_ble_eq_true rfl, Nat.le_of_ble_eq_true rfl⟩ dX10_swap_2 rfl (Nat.le_of_ble_eq_true rfl)) ?_
  rw [bI_t ⟨inF_nI ha, inS_nI hb⟩]
  refine jx_if_neT (tgt := 11) C dX10_swap_5 (by decide) (by decide) ?_
  refine jx_aload_n C dX10_swap_11 rfl ?_
  refine jx_get C fl_10_40_9 dX10_swap_12 (by decide) gg_0 rfl ?_
  refine jx_void C (jr_V C (c_4_begin) vw_10_59 (by decide) gg_63 rfl rfl ⟨Nat.le_of_ble_eq_true rfl, Nat.le_of_ble_eq_true rfl⟩ ⟨Nat.le_of_ble_eq_true rfl, Nat.le_of_ble_eq_true rfl⟩ dX10_swap_15 rfl (Nat.le_of_ble_eq_true rfl)) ?_
  refine jx_aload_n C dX10_swap_18 rfl ?_
  refine jx_get C fl_10_10_9 dX10_swap_19 (by decide) gg_0 rfl ?_
  refine jx_iload_n C dX10_swap_22 rfl ?_
  refine jx_iload_n C dX10_swap_23 rfl ?_
  refine jx_one C (jr_V C (c_8_laneAt ha hb) vw_10_70 (by decide) gg_1 rfl rfl ⟨Nat.le_of_ble_eq_true rfl, Nat.le_of_ble_eq_true rfl⟩ ⟨Nat.le_of_ble_eq_true rfl, Nat.le_of_ble_eq_true rfl⟩ dX10_swap_24 rfl (Nat.le_of_ble_eq_true rfl)) ?_
  rw [h]
  refine jx_astore (lv1 := [_, _, _, _, _, _, _]) C dX10_swap_27 (by decide) rfl ?_
  refine jx_aload C dX10_swap_29 rfl ?_
  refine jx_ifnonnull (tgt := 43) C dX10_swap_31 (by decide) ?_
  refine jx_aload C dX10_swap_43 rfl ?_
  refine jx_iload_n C dX10_swap_45 rfl ?_
  refine jx_one C (jv_has C dX10_swap_46 hk ⟨by decide, by decide⟩ ⟨Nat.zero_le _, Nat.zero_le _⟩ (Nat.le_of_ble_eq_true rfl)) ?_
  rw [up2_ne (by omega), bI_f hi]
  refine jx_if_eqT (tgt := 62) C dX10_swap_49 (by decide) (by decide) ?_
  refine jx_aload_n C dX10_swap_62 rfl ?_
  refine jx_get C fl_10_40_9 dX10_swap_63 (by decide) gg_0 rfl ?_
  refine jx_iconst (v := 2) C dX10_swap_66 (by decide) ?_
  refine jx_one C (jr_V C (c_4_tell (f := 2) (by decide) (by decide)) vw_10_62 (by decide) gg_63 rfl rfl ⟨Nat.le_of_ble_eq_true rfl, Nat.le_of_ble_eq_true rfl⟩ ⟨Nat.le_of_ble_eq_true rfl, Nat.le_of_ble_eq_true rfl⟩ dX10_swap_67 rfl (Nat.le_of_ble_eq_true rfl)) ?_
  exact jx_iret C dX10_swap_70 ⟨rfl, rfl, rfl, rfl⟩
set_option maxRecDepth 100000 in
set_option maxHeartbeats 4000000 in
theorem c_10_swapO2 {l : Launch} {D : va_G} {K : Nat → ClassId} {A : Nat → Nat} {I : TI} {U : TU} {P : TP} {a b : Nat} (ha : a < 4) (hb : b < 5) {x y : Int32} {k : Nat} (hk : k < 20) (h : P (5 * a + b) = some k) (hi : inR (I (4 + 2 * k) 0) x) (hj : ¬ inR (I (4 + 2 * k) 0) y) : MM l yX10_swap cX10_swap 7 (some .int) 5 D K A (I) (U) (P) [.ref (A 0), .int (nI a), .int (nI b), .int x, .int y] (XE (some (.int (0))) (tel (bg I) 2) (U) (P)) := by
  refine MM.go (own := RX10) (lv0 := [some (.ref (A 0)), some (.int (nI a)), some (.int (nI b)), some (.int x), some (.int y), none, none]) rfl (by decide) rfl (Nat.le_of_ble_eq_true rfl) rfl ?_
  intro p e s m args below meth c C
  refine jx_iload_n C dX10_swap_0 rfl ?_
  refine jx_iload_n C dX10_swap_1 rfl ?_
  refine jx_one C (jr_S C (c_8_isLane) sw_10_54 rfl ⟨Nat.le_of_ble_eq_true rfl, Nat.le_of_ble_eq_true rfl⟩ ⟨Nat.le_of_ble_eq_true rfl, Nat.le_of_ble_eq_true rfl⟩ dX10_swap_2 rfl (Nat.le_of_ble_eq_true rfl)) ?_
  rw [bI_t ⟨inF_nI ha, inS_nI hb⟩]
  refine jx_if_neT (tgt := 11) C dX10_swap_5 (by decide) (by decide) ?_
  refine jx_aload_n C dX10_swap_11 rfl ?_
  refine jx_get C fl_10_40_9 dX10_swap_12 (by decide) gg_0 rfl ?_
  refine jx_void C (jr_V C (c_4_begin) vw_10_59 (by decide) gg_63 rfl rfl ⟨Nat.le_of_ble_eq_true rfl, Nat.le_of_ble_eq_true rfl⟩ ⟨Nat.le_of_ble_eq_true rfl, Nat.le_of_ble_eq_true rfl⟩ dX10_swap_15 rfl (Nat.le_of_ble_eq_true rfl)) ?_
  refine jx_aload_n C dX10_swap_18 rfl ?_
  refine jx_get C fl_10_10_9 dX10_swap_19 (by decide) gg_0 rfl ?_
  refine jx_iload_n C dX10_swap_22 rfl ?_
  refine jx_iload_n C dX10_swap_23 rfl ?_
  refine jx_one C (jr_V C (c_8_laneAt ha hb) vw_10_70 (by decide) gg_1 rfl rfl ⟨Nat.le_of_ble_eq_true rfl, Nat.le_of_ble_eq_true rfl⟩ ⟨Nat.le_of_ble_eq_true rfl, Nat.le_of_ble_eq_true rfl⟩ dX10_swap_24 rfl (Nat.le_of_ble_eq_true rfl)) ?_
  rw [h]
  refine jx_astore (lv1 := [_, _, _, _, _, _, _]) C dX10_swap_27 (by decide) rfl ?_
  refine jx_aload C dX10_swap_29 rfl ?_
  refine jx_ifnonnull (tgt := 43) C dX10_swap_31 (by decide) ?_
  refine jx_aload C dX10_swap_43 rfl ?_
  refine jx_iload_n C dX10_swap_45 rfl ?_
  refine jx_one C (jv_has C dX10_swap_46 hk ⟨by decide, by decide⟩ ⟨Nat.zero_le _, Nat.zero_le _⟩ (Nat.le_of_ble_eq_true rfl)) ?_
  rw [up2_ne (by omega), bI_t hi]
  refine jx_if_eqF (tgt := 62) C dX10_swap_49 (by decide) (by decide) ?_
  refine jx_aload C dX10_swap_52 rfl ?_
  refine jx_iload C dX10_swap_54 rfl ?_
  refine jx_one C (jv_has C dX10_swap_56 hk ⟨by decide, by decide⟩ ⟨Nat.zero_le _, Nat.zero_le _⟩ (Nat.le_of_ble_eq_true rfl)) ?_
  rw [up2_ne (by omega), bI_f hj]
  refine jx_if_neF (tgt := 71) C dX10_swap_59 (by decide) (by decide) ?_
  refine jx_aload_n C dX10_swap_62 rfl ?_
  refine jx_get C fl_10_40_9 dX10_swap_63 (by decide) gg_0 rfl ?_
  refine jx_iconst (v := 2) C dX10_swap_66 (by decide) ?_
  refine jx_one C (jr_V C (c_4_tell (f := 2) (by decide) (by decide)) vw_10_62 (by decide) gg_63 rfl rfl ⟨Nat.le_of_ble_eq_true rfl, Nat.le_of_ble_eq_true rfl⟩ ⟨Nat.le_of_ble_eq_true rfl, Nat.le_of_ble_eq_true rfl⟩ dX10_swap_67 rfl (Nat.le_of_ble_eq_true rfl)) ?_
  exact jx_iret C dX10_swap_70 ⟨rfl, rfl, rfl, rfl⟩
set_option maxRecDepth 100000 in
set_option maxHeartbeats 4000000 in
theorem c_10_swap {l : Launch} {D : va_G} {K : Nat → ClassId} {A : Nat → Nat} {I : TI} {U : TU} {P : TP} {a b : Nat} (ha : a < 4) (hb : b < 5) {n m0 : Nat} {k : Nat} (hk : k < 20) (h : P (5 * a + b) = some k) (hi : inR (I (4 + 2 * k) 0) (nI n)) (hj : inR (I (4 + 2 * k) 0) (nI m0)) (hn : n < 24) (hm : m0 < 24) (ok : okE I U k n) (ok2 : okE I U k m0) : MM l yX10_swap cX10_swap 7 (some .int) 5 D K A (I) (U) (P) [.ref (A 0), .int (nI a), .int (nI b), .int (nI n), .int (nI m0)] (XE (some (.int (tl (bg I) U k n))) (swI k n m0 (bg I)) (swU k n m0 U) (P)) := by
  refine MM.go (own := RX10) (lv0 := [some (.ref (A 0)), some (.int (nI a)), some (.int (nI b)), some (.int (nI n)), some (.int (nI m0)), none, none]) rfl (by decide) rfl (Nat.le_of_ble_eq_true rfl) rfl ?_
  intro p e s m args below meth c C
  refine jx_iload_n C dX10_swap_0 rfl ?_
  refine jx_iload_n C dX10_swap_1 rfl ?_
  refine jx_one C (jr_S C (c_8_isLane) sw_10_54 rfl ⟨Nat.le_of_ble_eq_true rfl, Nat.le_of_ble_eq_true rfl⟩ ⟨Nat.le_of_ble_eq_true rfl, Nat.le_of_ble_eq_true rfl⟩ dX10_swap_2 rfl (Nat.le_of_ble_eq_true rfl)) ?_
  rw [bI_t ⟨inF_nI ha, inS_nI hb⟩]
  refine jx_if_neT (tgt := 11) C dX10_swap_5 (by decide) (by decide) ?_
  refine jx_aload_n C dX10_swap_11 rfl ?_
  refine jx_get C fl_10_40_9 dX10_swap_12 (by decide) gg_0 rfl ?_
  refine jx_void C (jr_V C (c_4_begin) vw_10_59 (by decide) gg_63 rfl rfl ⟨Nat.le_of_ble_eq_true rfl, Nat.le_of_ble_eq_true rfl⟩ ⟨Nat.le_of_ble_eq_true rfl, Nat.le_of_ble_eq_true rfl⟩ dX10_swap_15 rfl (Nat.le_of_ble_eq_true rfl)) ?_
  refine jx_aload_n C dX10_swap_18 rfl ?_
  refine jx_get C fl_10_10_9 dX10_swap_19 (by decide) gg_0 rfl ?_
  refine jx_iload_n C dX10_swap_22 rfl ?_
  refine jx_iload_n C dX10_swap_23 rfl ?_
  refine jx_one C (jr_V C (c_8_laneAt ha hb) vw_10_70 (by decide) gg_1 rfl rfl ⟨Nat.le_of_ble_eq_true rfl, Nat.le_of_ble_eq_true rfl⟩ ⟨Nat.le_of_ble_eq_true rfl, Nat.le_of_ble_eq_true rfl⟩ dX10_swap_24 rfl (Nat.le_of_ble_eq_true rfl)) ?_
  rw [h]
  refine jx_astore (lv1 := [_, _, _, _, _, _, _]) C dX10_swap_27 (by decide) rfl ?_
  refine jx_aload C dX10_swap_29 rfl ?_
  refine jx_ifnonnull (tgt := 43) C dX10_swap_31 (by decide) ?_
  refine jx_aload C dX10_swap_43 rfl ?_
  refine jx_iload_n C dX10_swap_45 rfl ?_
  refine jx_one C (jv_has C dX10_swap_46 hk ⟨by decide, by decide⟩ ⟨Nat.zero_le _, Nat.zero_le _⟩ (Nat.le_of_ble_eq_true rfl)) ?_
  rw [up2_ne (by omega), bI_t hi]
  refine jx_if_eqF (tgt := 62) C dX10_swap_49 (by decide) (by decide) ?_
  refine jx_aload C dX10_swap_52 rfl ?_
  refine jx_iload C dX10_swap_54 rfl ?_
  refine jx_one C (jv_has C dX10_swap_56 hk ⟨by decide, by decide⟩ ⟨Nat.zero_le _, Nat.zero_le _⟩ (Nat.le_of_ble_eq_true rfl)) ?_
  rw [up2_ne (by omega), bI_t hj]
  refine jx_if_neT (tgt := 71) C dX10_swap_59 (by decide) (by decide) ?_
  refine jx_aload C dX10_swap_71 rfl ?_
  refine jx_iload_n C dX10_swap_73 rfl ?_
  refine jx_one C (jv_tells C dX10_swap_74 hk hn (okE_I ok (by omega)) ⟨by decide, by decide⟩ ⟨Nat.zero_le _, Nat.zero_le _⟩ (Nat.le_of_ble_eq_true rfl)) ?_
  refine jx_istore (lv1 := [_, _, _, _, _, _, _]) C dX10_swap_77 (by decide) rfl ?_
  refine jx_aload C dX10_swap_79 rfl ?_
  refine jx_iload_n C dX10_swap_81 rfl ?_
  refine jx_iload C dX10_swap_82 rfl ?_
  refine jx_void C (jv_exchange C dX10_swap_84 hk hn hm (okE_I ok (by omega)) (okE_I ok2 (by omega)) ⟨by decide, by decide⟩ ⟨Nat.zero_le _, Nat.zero_le _⟩ (Nat.le_of_ble_eq_true rfl)) ?_
  refine jx_iload C dX10_swap_87 rfl ?_
  exact jx_iret C dX10_swap_89 ⟨rfl, rfl, rfl, rfl⟩
set_option maxRecDepth 100000 in
set_option maxHeartbeats 4000000 in
theorem c_10_clothX1 {l : Launch} {D : va_G} {K : Nat → ClassId} {A : Nat → Nat} {I : TI} {U : TU} {P : TP} {n w : Int32} (h : 24 < n) : MM l yX10_cloth cX10_cloth 3 (some .int) 5 D K A (I) (U) (P) [.ref (A 0), .int n, .int w] (XE (some (.int ((-2147483648)))) (I) (U) (P)) := by
  refine MM.go (own := RX10) (lv0 := [some (.ref (A 0)), some (.int n), some (.int w)]) rfl (by decide) rfl (Nat.le_of_ble_eq_true rfl) rfl ?_
  intro p e s m args below meth c C
  refine jx_iload_n C dX10_cloth_0 rfl ?_
  refine jx_bipush (v := 24) C dX10_cloth_1 (by decide) ?_
  refine jx_ic_gtT (tgt := 12) C dX10_cloth_3 (by decide) h ?_
  refine jx_ldc C dX10_cloth_12 qw_215 ?_
  exact jx_iret C dX10_cloth_14 ⟨rfl, rfl, rfl, rfl⟩
set_option maxRecDepth 100000 in
set_option maxHeartbeats 4000000 in
theorem c_10_clothX2 {l : Launch} {D : va_G} {K : Nat → ClassId} {A : Nat → Nat} {I : TI} {U : TU} {P : TP} {n w : Int32} (h : ¬ 24 < n) (h2 : ¬ w ≤ 24) : MM l yX10_cloth cX10_cloth 3 (some .int) 5 D K A (I) (U) (P) [.ref (A 0), .int n, .int w] (XE (some (.int ((-2147483648)))) (I) (U) (P)) := by
  refine MM.go (own := RX10) (lv0 := [some (.ref (A 0)), some (.int n), some (.int w)]) rfl (by decide) rfl (Nat.le_of_ble_eq_true rfl) rfl ?_
  intro p e s m args below meth c C
  refine jx_iload_n C dX10_cloth_0 rfl ?_
  refine jx_bipush (v := 24) C dX10_cloth_1 (by decide) ?_
  refine jx_ic_gtF (tgt := 12) C dX10_cloth_3 h (by decide) ?_
  refine jx_iload_n C dX10_cloth_6 rfl ?_
  refine jx_bipush (v := 24) C dX10_cloth_7 (by decide) ?_
  refine jx_ic_leF (tgt := 15) C dX10_cloth_9 h2 (by decide) ?_
  refine jx_ldc C dX10_cloth_12 qw_215 ?_
  exact jx_iret C dX10_cloth_14 ⟨rfl, rfl, rfl, rfl⟩
set_option maxRecDepth 100000 in
set_option maxHeartbeats 4000000 in
theorem c_10_clothZ1 {l : Launch} {D : va_G} {K : Nat → ClassId} {A : Nat → Nat} {I : TI} {U : TU} {P : TP} {n w : Int32} (h : ¬ 24 < n) (h2 : w ≤ 24) (hz : n < 0) : MM l yX10_cloth cX10_cloth 3 (some .int) 5 D K A (I) (U) (P) [.ref (A 0), .int n, .int w] (XE (some (.int (0))) (tel (bg I) 3) (U) (P)) := by
  refine MM.go (own := RX10) (lv0 := [some (.ref (A 0)), some (.int n), some (.int w)]) rfl (by decide) rfl (Nat.le_of_ble_eq_true rfl) rfl ?_
  intro p e s m args below meth c C
  refine jx_iload_n C dX10_cloth_0 rfl ?_
  refine jx_bipush (v := 24) C dX10_cloth_1 (by decide) ?_
  refine jx_ic_gtF (tgt := 12) C dX10_cloth_3 h (by decide) ?_
  refine jx_iload_n C dX10_cloth_6 rfl ?_
  refine jx_bipush (v := 24) C dX10_cloth_7 (by decide) ?_
  refine jx_ic_leT (tgt := 15) C dX10_cloth_9 (by decide) h2 ?_
  refine jx_aload_n C dX10_cloth_15 rfl ?_
  refine jx_get C fl_10_40_9 dX10_cloth_16 (by decide) gg_0 rfl ?_
  refine jx_void C (jr_V C (c_4_begin) vw_10_59 (by decide) gg_63 rfl rfl ⟨Nat.le_of_ble_eq_true rfl, Nat.le_of_ble_eq_true rfl⟩ ⟨Nat.le_of_ble_eq_true rfl, Nat.le_of_ble_eq_true rfl⟩ dX10_cloth_19 rfl (Nat.le_of_ble_eq_true rfl)) ?_
  refine jx_iload_n C dX10_cloth_22 rfl ?_
  refine jx_if_ltT (tgt := 30) C dX10_cloth_23 (by decide) hz ?_
  refine jx_aload_n C dX10_cloth_30 rfl ?_
  refine jx_get C fl_10_40_9 dX10_cloth_31 (by decide) gg_0 rfl ?_
  refine jx_iconst (v := 3) C dX10_cloth_34 (by decide) ?_
  refine jx_one C (jr_V C (c_4_tell (f := 3) (by decide) (by decide)) vw_10_62 (by decide) gg_63 rfl rfl ⟨Nat.le_of_ble_eq_true rfl, Nat.le_of_ble_eq_true rfl⟩ ⟨Nat.le_of_ble_eq_true rfl, Nat.le_of_ble_eq_true rfl⟩ dX10_cloth_35 rfl (Nat.le_of_ble_eq_true rfl)) ?_
  exact jx_iret C dX10_cloth_38 ⟨rfl, rfl, rfl, rfl⟩
set_option maxRecDepth 100000 in
set_option maxHeartbeats 4000000 in
theorem c_10_clothZ2 {l : Launch} {D : va_G} {K : Nat → ClassId} {A : Nat → Nat} {I : TI} {U : TU} {P : TP} {n w : Int32} (h : ¬ 24 < n) (h2 : w ≤ 24) (hz : ¬ n < 0) (hy : ¬ 0 ≤ w) : MM l yX10_cloth cX10_cloth 3 (some .int) 5 D K A (I) (U) (P) [.ref (A 0), .int n, .int w] (XE (some (.int (0))) (tel (bg I) 3) (U) (P)) := by
  refine MM.go (own := RX10) (lv0 := [some (.ref (A 0)), some (.int n), some (.int w)]) rfl (by decide) rfl (Nat.le_of_ble_eq_true rfl) rfl ?_
  intro p e s m args below meth c C
  refine jx_iload_n C dX10_cloth_0 rfl ?_
  refine jx_bipush (v := 24) C dX10_cloth_1 (by decide) ?_
  refine jx_ic_gtF (tgt := 12) C dX10_cloth_3 h (by decide) ?_
  refine jx_iload_n C dX10_cloth_6 rfl ?_
  refine jx_bipush (v := 24) C dX10_cloth_7 (by decide) ?_
  refine jx_ic_leT (tgt := 15) C dX10_cloth_9 (by decide) h2 ?_
  refine jx_aload_n C dX10_cloth_15 rfl ?_
  refine jx_get C fl_10_40_9 dX10_cloth_16 (by decide) gg_0 rfl ?_
  refine jx_void C (jr_V C (c_4_begin) vw_10_59 (by decide) gg_63 rfl rfl ⟨Nat.le_of_ble_eq_true rfl, Nat.le_of_ble_eq_true rfl⟩ ⟨Nat.le_of_ble_eq_true rfl, Nat.le_of_ble_eq_true rfl⟩ dX10_cloth_19 rfl (Nat.le_of_ble_eq_true rfl)) ?_
  refine jx_iload_n C dX10_cloth_22 rfl ?_
  refine jx_if_ltF (tgt := 30) C dX10_cloth_23 hz (by decide) ?_
  refine jx_iload_n C dX10_cloth_26 rfl ?_
  refine jx_if_geF (tgt := 39) C dX10_cloth_27 hy (by decide) ?_
  refine jx_aload_n C dX10_cloth_30 rfl ?_
  refine jx_get C fl_10_40_9 dX10_cloth_31 (by decide) gg_0 rfl ?_
  refine jx_iconst (v := 3) C dX10_cloth_34 (by decide) ?_
  refine jx_one C (jr_V C (c_4_tell (f := 3) (by decide) (by decide)) vw_10_62 (by decide) gg_63 rfl rfl ⟨Nat.le_of_ble_eq_true rfl, Nat.le_of_ble_eq_true rfl⟩ ⟨Nat.le_of_ble_eq_true rfl, Nat.le_of_ble_eq_true rfl⟩ dX10_cloth_35 rfl (Nat.le_of_ble_eq_true rfl)) ?_
  exact jx_iret C dX10_cloth_38 ⟨rfl, rfl, rfl, rfl⟩
set_option maxRecDepth 100000 in
set_option maxHeartbeats 4000000 in
theorem c_10_cloth {l : Launch} {D : va_G} {K : Nat → ClassId} {A : Nat → Nat} {I : TI} {U : TU} {P : TP} {n w : Nat} (hn : n ≤ 24) (hw : w ≤ 24) : MM l yX10_cloth cX10_cloth 3 (some .int) 5 D K A (I) (U) (P) [.ref (A 0), .int (nI n), .int (nI w)] (XE (some (.int (nI n * nI w))) (rnw (bg I) n w) (U) (P)) := by
  refine MM.go (own := RX10) (lv0 := [some (.ref (A 0)), some (.int (nI n)), some (.int (nI w))]) rfl (by decide) rfl (Nat.le_of_ble_eq_true rfl) rfl ?_
  intro p e s m args below meth c C
  refine jx_iload_n C dX10_cloth_0 rfl ?_
  refine jx_bipush (v := 24) C dX10_cloth_1 (by decide) ?_
  refine jx_ic_gtF (tgt := 12) C dX10_cloth_3 (nI_nlt (a := 24) hn (by decide)) (by decide) ?_
  refine jx_iload_n C dX10_cloth_6 rfl ?_
  refine jx_bipush (v := 24) C dX10_cloth_7 (by decide) ?_
  refine jx_ic_leT (tgt := 15) C dX10_cloth_9 (by decide) (nI_le (b := 24) hw (by decide)) ?_
  refine jx_aload_n C dX10_cloth_15 rfl ?_
  refine jx_get C fl_10_40_9 dX10_cloth_16 (by decide) gg_0 rfl ?_
  refine jx_void C (jr_V C (c_4_begin) vw_10_59 (by decide) gg_63 rfl rfl ⟨Nat.le_of_ble_eq_true rfl, Nat.le_of_ble_eq_true rfl⟩ ⟨Nat.le_of_ble_eq_true rfl, Nat.le_of_ble_eq_true rfl⟩ dX10_cloth_19 rfl (Nat.le_of_ble_eq_true rfl)) ?_
  refine jx_iload_n C dX10_cloth_22 rfl ?_
  refine jx_if_ltF (tgt := 30) C dX10_cloth_23 (nI_pos (by omega)) (by decide) ?_
  refine jx_iload_n C dX10_cloth_26 rfl ?_
  refine jx_if_geT (tgt := 39) C dX10_cloth_27 (by decide) (nI_pos' (by omega)) ?_
  refine jx_aload_n C dX10_cloth_39 rfl ?_
  refine jx_get C fl_10_26_9 dX10_cloth_40 (by decide) gg_0 rfl ?_
  refine jx_iload_n C dX10_cloth_43 rfl ?_
  refine jx_iload_n C dX10_cloth_44 rfl ?_
  refine jx_void C (jr_V C (c_1_renew hn hw) vw_10_116 (by decide) gg_46 rfl rfl ⟨Nat.le_of_ble_eq_true rfl, Nat.le_of_ble_eq_true rfl⟩ ⟨Nat.le_of_ble_eq_true rfl, Nat.le_of_ble_eq_true rfl⟩ dX10_cloth_45 rfl (Nat.le_of_ble_eq_true rfl)) ?_
  refine jx_iload_n C dX10_cloth_48 rfl ?_
  refine jx_iload_n C dX10_cloth_49 rfl ?_
  refine jx_imul C dX10_cloth_50 ?_
  exact jx_iret C dX10_cloth_51 ⟨rfl, rfl, rfl, rfl⟩
set_option maxRecDepth 100000 in
set_option maxHeartbeats 4000000 in
theorem c_10_snip1 {l : Launch} {D : va_G} {K : Nat → ClassId} {A : Nat → Nat} {I : TI} {U : TU} {P : TP} {x : Int32} (ht : I 46 2 = 0) : MM l yX10_snip cX10_snip 4 (some .int) 5 D K A (I) (U) (P) [.ref (A 0), .int x] (XE (some (.int (0))) (tel (bg I) 1) (U) (P)) := by
  refine MM.go (own := RX10) (lv0 := [some (.ref (A 0)), some (.int x), none, none]) rfl (by decide) rfl (Nat.le_of_ble_eq_true rfl) rfl ?_
  intro p e s m args below meth c C
  refine jx_aload_n C dX10_snip_0 rfl ?_
  refine jx_get C fl_10_40_9 dX10_snip_1 (by decide) gg_0 rfl ?_
  refine jx_void C (jr_V C (c_4_begin) vw_10_59 (by decide) gg_63 rfl rfl ⟨Nat.le_of_ble_eq_true rfl, Nat.le_of_ble_eq_true rfl⟩ ⟨Nat.le_of_ble_eq_true rfl, Nat.le_of_ble_eq_true rfl⟩ dX10_snip_4 rfl (Nat.le_of_ble_eq_true rfl)) ?_
  refine jx_aload_n C dX10_snip_7 rfl ?_
  refine jx_get C fl_10_26_9 dX10_snip_8 (by decide) gg_0 rfl ?_
  refine jx_iload_n C dX10_snip_11 rfl ?_
  refine jx_one C (jr_V C (c_1_placeFault) vw_10_119 (by decide) gg_46 rfl rfl ⟨Nat.le_of_ble_eq_true rfl, Nat.le_of_ble_eq_true rfl⟩ ⟨Nat.le_of_ble_eq_true rfl, Nat.le_of_ble_eq_true rfl⟩ dX10_snip_12 rfl (Nat.le_of_ble_eq_true rfl)) ?_
  rw [up2_ne (by omega), up2_ne (by omega)]
  rw [show fPl (I 46 2) (I 46 3) (x) = 1 by simp [fPl, ht]]
  refine jx_istore_n (lv1 := [_, _, _, _]) C dX10_snip_15 (by decide) rfl ?_
  refine jx_iload_n C dX10_snip_16 rfl ?_
  refine jx_if_eqF (tgt := 29) C dX10_snip_17 (by decide) (by decide) ?_
  refine jx_aload_n C dX10_snip_20 rfl ?_
  refine jx_get C fl_10_40_9 dX10_snip_21 (by decide) gg_0 rfl ?_
  refine jx_iload_n C dX10_snip_24 rfl ?_
  refine jx_one C (jr_V C (c_4_tell (f := 1) (by decide) (by decide)) vw_10_62 (by decide) gg_63 rfl rfl ⟨Nat.le_of_ble_eq_true rfl, Nat.le_of_ble_eq_true rfl⟩ ⟨Nat.le_of_ble_eq_true rfl, Nat.le_of_ble_eq_true rfl⟩ dX10_snip_25 rfl (Nat.le_of_ble_eq_true rfl)) ?_
  exact jx_iret C dX10_snip_28 ⟨rfl, rfl, rfl, rfl⟩
set_option maxRecDepth 100000 in
set_option maxHeartbeats 4000000 in
theorem c_10_snip2 {l : Launch} {D : va_G} {K : Nat → ClassId} {A : Nat → Nat} {I : TI} {U : TU} {P : TP} {x : Int32} (ht : ¬ I 46 2 = 0) (hp : ¬ inR (I 46 3) x) : MM l yX10_snip cX10_snip 4 (some .int) 5 D K A (I) (U) (P) [.ref (A 0), .int x] (XE (some (.int (0))) (tel (bg I) 2) (U) (P)) := by
  refine MM.go (own := RX10) (lv0 := [some (.ref (A 0)), some (.int x), none, none]) rfl (by decide) rfl (Nat.le_of_ble_eq_true rfl) rfl ?_
  intro p e s m args below meth c C
  refine jx_aload_n C dX10_snip_0 rfl ?_
  refine jx_get C fl_10_40_9 dX10_snip_1 (by decide) gg_0 rfl ?_
  refine jx_void C (jr_V C (c_4_begin) vw_10_59 (by decide) gg_63 rfl rfl ⟨Nat.le_of_ble_eq_true rfl, Nat.le_of_ble_eq_true rfl⟩ ⟨Nat.le_of_ble_eq_true rfl, Nat.le_of_ble_eq_true rfl⟩ dX10_snip_4 rfl (Nat.le_of_ble_eq_true rfl)) ?_
  refine jx_aload_n C dX10_snip_7 rfl ?_
  refine jx_get C fl_10_26_9 dX10_snip_8 (by decide) gg_0 rfl ?_
  refine jx_iload_n C dX10_snip_11 rfl ?_
  refine jx_one C (jr_V C (c_1_placeFault) vw_10_119 (by decide) gg_46 rfl rfl ⟨Nat.le_of_ble_eq_true rfl, Nat.le_of_ble_eq_true rfl⟩ ⟨Nat.le_of_ble_eq_true rfl, Nat.le_of_ble_eq_true rfl⟩ dX10_snip_12 rfl (Nat.le_of_ble_eq_true rfl)) ?_
  rw [up2_ne (by omega), up2_ne (by omega)]
  rw [show fPl (I 46 2) (I 46 3) (x) = 2 by simp only [fPl, if_neg ht, if_neg hp]]
  refine jx_istore_n (lv1 := [_, _, _, _]) C dX10_snip_15 (by decide) rfl ?_
  refine jx_iload_n C dX10_snip_16 rfl ?_
  refine jx_if_eqF (tgt := 29) C dX10_snip_17 (by decide) (by decide) ?_
  refine jx_aload_n C dX10_snip_20 rfl ?_
  refine jx_get C fl_10_40_9 dX10_snip_21 (by decide) gg_0 rfl ?_
  refine jx_iload_n C dX10_snip_24 rfl ?_
  refine jx_one C (jr_V C (c_4_tell (f := 2) (by decide) (by decide)) vw_10_62 (by decide) gg_63 rfl rfl ⟨Nat.le_of_ble_eq_true rfl, Nat.le_of_ble_eq_true rfl⟩ ⟨Nat.le_of_ble_eq_true rfl, Nat.le_of_ble_eq_true rfl⟩ dX10_snip_25 rfl (Nat.le_of_ble_eq_true rfl)) ?_
  exact jx_iret C dX10_snip_28 ⟨rfl, rfl, rfl, rfl⟩
set_option maxRecDepth 100000 in
set_option maxHeartbeats 4000000 in
theorem c_10_snipN {l : Launch} {D : va_G} {K : Nat → ClassId} {A : Nat → Nat} {I : TI} {U : TU} {P : TP} {j : Nat} (ht : ¬ I 46 2 = 0) {n : Nat} (hn : I 46 3 = nI n) (h24 : n ≤ 24) (hj : j < n) (hr : I 48 j = -1) : MM l yX10_snip cX10_snip 4 (some .int) 5 D K A (I) (U) (P) [.ref (A 0), .int (nI j)] (XE (some (.int (0))) (up2 (bg I) 48 j (-1)) (U) (P)) := by
  have hp : inR (I 46 3) (nI j) := hn ▸ inR_nI (by omega) hj
  refine MM.go (own := RX10) (lv0 := [some (.ref (A 0)), some (.int (nI j)), none, none]) rfl (by decide) rfl (Nat.le_of_ble_eq_true rfl) rfl ?_
  intro p e s m args below meth c C
  refine jx_aload_n C dX10_snip_0 rfl ?_
  refine jx_get C fl_10_40_9 dX10_snip_1 (by decide) gg_0 rfl ?_
  refine jx_void C (jr_V C (c_4_begin) vw_10_59 (by decide) gg_63 rfl rfl ⟨Nat.le_of_ble_eq_true rfl, Nat.le_of_ble_eq_true rfl⟩ ⟨Nat.le_of_ble_eq_true rfl, Nat.le_of_ble_eq_true rfl⟩ dX10_snip_4 rfl (Nat.le_of_ble_eq_true rfl)) ?_
  refine jx_aload_n C dX10_snip_7 rfl ?_
  refine jx_get C fl_10_26_9 dX10_snip_8 (by decide) gg_0 rfl ?_
  refine jx_iload_n C dX10_snip_11 rfl ?_
  refine jx_one C (jr_V C (c_1_placeFault) vw_10_119 (by decide) gg_46 rfl rfl ⟨Nat.le_of_ble_eq_true rfl, Nat.le_of_ble_eq_true rfl⟩ ⟨Nat.le_of_ble_eq_true rfl, Nat.le_of_ble_eq_true rfl⟩ dX10_snip_12 rfl (Nat.le_of_ble_eq_true rfl)) ?_
  rw [up2_ne (by omega), up2_ne (by omega)]
  rw [show fPl (I 46 2) (I 46 3) (nI j) = 0 by simp only [fPl, if_neg ht, if_pos hp]]
  refine jx_istore_n (lv1 := [_, _, _, _]) C dX10_snip_15 (by decide) rfl ?_
  refine jx_iload_n C dX10_snip_16 rfl ?_
  refine jx_if_eqT (tgt := 29) C dX10_snip_17 (by decide) (by decide) ?_
  refine jx_aload_n C dX10_snip_29 rfl ?_
  refine jx_get C fl_10_26_9 dX10_snip_30 (by decide) gg_0 rfl ?_
  refine jx_iload_n C dX10_snip_33 rfl ?_
  refine jx_one C (jr_V C (c_1_hasPick (by rw [up2_ne (by omega)]; exact hn) h24) vw_10_122 (by decide) gg_46 rfl rfl ⟨Nat.le_of_ble_eq_true rfl, Nat.le_of_ble_eq_true rfl⟩ ⟨Nat.le_of_ble_eq_true rfl, Nat.le_of_ble_eq_true rfl⟩ dX10_snip_34 rfl (Nat.le_of_ble_eq_true rfl)) ?_
  rw [up2_ne (by omega), up2_ne (by omega), nI_clamp (by omega), bI_f (fun q => q.2 hr)]
  refine jx_istore_n (lv1 := [_, _, _, _]) C dX10_snip_37 (by decide) rfl ?_
  refine jx_aload_n C dX10_snip_38 rfl ?_
  refine jx_get C fl_10_26_9 dX10_snip_39 (by decide) gg_0 rfl ?_
  refine jx_iload_n C dX10_snip_42 rfl ?_
  refine jx_void C (jr_V C (c_1_drop (by rw [up2_ne (by omega)]; exact hn) h24 hj) vw_10_125 (by decide) gg_46 rfl rfl ⟨Nat.le_of_ble_eq_true rfl, Nat.le_of_ble_eq_true rfl⟩ ⟨Nat.le_of_ble_eq_true rfl, Nat.le_of_ble_eq_true rfl⟩ dX10_snip_43 rfl (Nat.le_of_ble_eq_true rfl)) ?_
  refine jx_iload_n C dX10_snip_46 rfl ?_
  refine jx_if_eqT (tgt := 54) C dX10_snip_47 (by decide) (by decide) ?_
  refine jx_iconst (v := 0) C dX10_snip_54 (by decide) ?_
  exact jx_iret C dX10_snip_55 ⟨rfl, rfl, rfl, rfl⟩
set_option maxRecDepth 100000 in
set_option maxHeartbeats 4000000 in
theorem c_10_snipS {l : Launch} {D : va_G} {K : Nat → ClassId} {A : Nat → Nat} {I : TI} {U : TU} {P : TP} {j : Nat} (ht : ¬ I 46 2 = 0) {n : Nat} (hn : I 46 3 = nI n) (h24 : n ≤ 24) (hj : j < n) (hr : ¬ I 48 j = -1) : MM l yX10_snip cX10_snip 4 (some .int) 5 D K A (I) (U) (P) [.ref (A 0), .int (nI j)] (XE (some (.int (1))) (up2 (bg I) 48 j (-1)) (U) (P)) := by
  have hp : inR (I 46 3) (nI j) := hn ▸ inR_nI (by omega) hj
  refine MM.go (own := RX10) (lv0 := [some (.ref (A 0)), some (.int (nI j)), none, none]) rfl (by decide) rfl (Nat.le_of_ble_eq_true rfl) rfl ?_
  intro p e s m args below meth c C
  refine jx_aload_n C dX10_snip_0 rfl ?_
  refine jx_get C fl_10_40_9 dX10_snip_1 (by decide) gg_0 rfl ?_
  refine jx_void C (jr_V C (c_4_begin) vw_10_59 (by decide) gg_63 rfl rfl ⟨Nat.le_of_ble_eq_true rfl, Nat.le_of_ble_eq_true rfl⟩ ⟨Nat.le_of_ble_eq_true rfl, Nat.le_of_ble_eq_true rfl⟩ dX10_snip_4 rfl (Nat.le_of_ble_eq_true rfl)) ?_
  refine jx_aload_n C dX10_snip_7 rfl ?_
  refine jx_get C fl_10_26_9 dX10_snip_8 (by decide) gg_0 rfl ?_
  refine jx_iload_n C dX10_snip_11 rfl ?_
  refine jx_one C (jr_V C (c_1_placeFault) vw_10_119 (by decide) gg_46 rfl rfl ⟨Nat.le_of_ble_eq_true rfl, Nat.le_of_ble_eq_true rfl⟩ ⟨Nat.le_of_ble_eq_true rfl, Nat.le_of_ble_eq_true rfl⟩ dX10_snip_12 rfl (Nat.le_of_ble_eq_true rfl)) ?_
  rw [up2_ne (by omega), up2_ne (by omega)]
  rw [show fPl (I 46 2) (I 46 3) (nI j) = 0 by simp only [fPl, if_neg ht, if_pos hp]]
  refine jx_istore_n (lv1 := [_, _, _, _]) C dX10_snip_15 (by decide) rfl ?_
  refine jx_iload_n C dX10_snip_16 rfl ?_
  refine jx_if_eqT (tgt := 29) C dX10_snip_17 (by decide) (by decide) ?_
  refine jx_aload_n C dX10_snip_29 rfl ?_
  refine jx_get C fl_10_26_9 dX10_snip_30 (by decide) gg_0 rfl ?_
  refine jx_iload_n C dX10_snip_33 rfl ?_
  refine jx_one C (jr_V C (c_1_hasPick (by rw [up2_ne (by omega)]; exact hn) h24) vw_10_122 (by decide) gg_46 rfl rfl ⟨Nat.le_of_ble_eq_true rfl, Nat.le_of_ble_eq_true rfl⟩ ⟨Nat.le_of_ble_eq_true rfl, Nat.le_of_ble_eq_true rfl⟩ dX10_snip_34 rfl (Nat.le_of_ble_eq_true rfl)) ?_
  rw [up2_ne (by omega), up2_ne (by omega), nI_clamp (by omega), bI_t ⟨hp, hr⟩]
  refine jx_istore_n (lv1 := [_, _, _, _]) C dX10_snip_37 (by decide) rfl ?_
  refine jx_aload_n C dX10_snip_38 rfl ?_
  refine jx_get C fl_10_26_9 dX10_snip_39 (by decide) gg_0 rfl ?_
  refine jx_iload_n C dX10_snip_42 rfl ?_
  refine jx_void C (jr_V C (c_1_drop (by rw [up2_ne (by omega)]; exact hn) h24 hj) vw_10_125 (by decide) gg_46 rfl rfl ⟨Nat.le_of_ble_eq_true rfl, Nat.le_of_ble_eq_true rfl⟩ ⟨Nat.le_of_ble_eq_true rfl, Nat.le_of_ble_eq_true rfl⟩ dX10_snip_43 rfl (Nat.le_of_ble_eq_true rfl)) ?_
  refine jx_iload_n C dX10_snip_46 rfl ?_
  refine jx_if_eqF (tgt := 54) C dX10_snip_47 (by decide) (by decide) ?_
  refine jx_iconst (v := 1) C dX10_snip_50 (by decide) ?_
  refine jx_goto (tgt := 55) C dX10_snip_51 (by decide) ?_
  exact jx_iret C dX10_snip_55 ⟨rfl, rfl, rfl, rfl⟩
set_option maxRecDepth 100000 in
set_option maxHeartbeats 4000000 in
theorem c_10_hang1 {l : Launch} {D : va_G} {K : Nat → ClassId} {A : Nat → Nat} {I : TI} {U : TU} {P : TP} {x y : Int32} (ht : I 46 2 = 0) : MM l yX10_hang cX10_hang 4 (some .int) 5 D K A (I) (U) (P) [.ref (A 0), .int x, .int y] (XE (some (.int (0))) (tel (bg I) 1) (U) (P)) := by
  refine MM.go (own := RX10) (lv0 := [some (.ref (A 0)), some (.int x), some (.int y), none]) rfl (by decide) rfl (Nat.le_of_ble_eq_true rfl) rfl ?_
  intro p e s m args below meth c C
  refine jx_aload_n C dX10_hang_0 rfl ?_
  refine jx_get C fl_10_40_9 dX10_hang_1 (by decide) gg_0 rfl ?_
  refine jx_void C (jr_V C (c_4_begin) vw_10_59 (by decide) gg_63 rfl rfl ⟨Nat.le_of_ble_eq_true rfl, Nat.le_of_ble_eq_true rfl⟩ ⟨Nat.le_of_ble_eq_true rfl, Nat.le_of_ble_eq_true rfl⟩ dX10_hang_4 rfl (Nat.le_of_ble_eq_true rfl)) ?_
  refine jx_aload_n C dX10_hang_7 rfl ?_
  refine jx_get C fl_10_26_9 dX10_hang_8 (by decide) gg_0 rfl ?_
  refine jx_iload_n C dX10_hang_11 rfl ?_
  refine jx_one C (jr_V C (c_1_placeFault) vw_10_119 (by decide) gg_46 rfl rfl ⟨Nat.le_of_ble_eq_true rfl, Nat.le_of_ble_eq_true rfl⟩ ⟨Nat.le_of_ble_eq_true rfl, Nat.le_of_ble_eq_true rfl⟩ dX10_hang_12 rfl (Nat.le_of_ble_eq_true rfl)) ?_
  rw [up2_ne (by omega), up2_ne (by omega)]
  rw [show fPl (I 46 2) (I 46 3) (y) = 1 by simp [fPl, ht]]
  refine jx_istore_n (lv1 := [_, _, _, _]) C dX10_hang_15 (by decide) rfl ?_
  refine jx_iload_n C dX10_hang_16 rfl ?_
  refine jx_if_neT (tgt := 29) C dX10_hang_17 (by decide) (by decide) ?_
  refine jx_iload_n C dX10_hang_29 rfl ?_
  refine jx_if_eqF (tgt := 42) C dX10_hang_30 (by decide) (by decide) ?_
  refine jx_aload_n C dX10_hang_33 rfl ?_
  refine jx_get C fl_10_40_9 dX10_hang_34 (by decide) gg_0 rfl ?_
  refine jx_iload_n C dX10_hang_37 rfl ?_
  refine jx_one C (jr_V C (c_4_tell (f := 1) (by decide) (by decide)) vw_10_62 (by decide) gg_63 rfl rfl ⟨Nat.le_of_ble_eq_true rfl, Nat.le_of_ble_eq_true rfl⟩ ⟨Nat.le_of_ble_eq_true rfl, Nat.le_of_ble_eq_true rfl⟩ dX10_hang_38 rfl (Nat.le_of_ble_eq_true rfl)) ?_
  exact jx_iret C dX10_hang_41 ⟨rfl, rfl, rfl, rfl⟩
set_option maxRecDepth 100000 in
set_option maxHeartbeats 4000000 in
theorem c_10_hang2 {l : Launch} {D : va_G} {K : Nat → ClassId} {A : Nat → Nat} {I : TI} {U : TU} {P : TP} {x y : Int32} (ht : ¬ I 46 2 = 0) (hp : ¬ inR (I 46 3) y) : MM l yX10_hang cX10_hang 4 (some .int) 5 D K A (I) (U) (P) [.ref (A 0), .int x, .int y] (XE (some (.int (0))) (tel (bg I) 2) (U) (P)) := by
  refine MM.go (own := RX10) (lv0 := [some (.ref (A 0)), some (.int x), some (.int y), none]) rfl (by decide) rfl (Nat.le_of_ble_eq_true rfl) rfl ?_
  intro p e s m args below meth c C
  refine jx_aload_n C dX10_hang_0 rfl ?_
  refine jx_get C fl_10_40_9 dX10_hang_1 (by decide) gg_0 rfl ?_
  refine jx_void C (jr_V C (c_4_begin) vw_10_59 (by decide) gg_63 rfl rfl ⟨Nat.le_of_ble_eq_true rfl, Nat.le_of_ble_eq_true rfl⟩ ⟨Nat.le_of_ble_eq_true rfl, Nat.le_of_ble_eq_true rfl⟩ dX10_hang_4 rfl (Nat.le_of_ble_eq_true rfl)) ?_
  refine jx_aload_n C dX10_hang_7 rfl ?_
  refine jx_get C fl_10_26_9 dX10_hang_8 (by decide) gg_0 rfl ?_
  refine jx_iload_n C dX10_hang_11 rfl ?_
  refine jx_one C (jr_V C (c_1_placeFault) vw_10_119 (by decide) gg_46 rfl rfl ⟨Nat.le_of_ble_eq_true rfl, Nat.le_of_ble_eq_true rfl⟩ ⟨Nat.le_of_ble_eq_true rfl, Nat.le_of_ble_eq_true rfl⟩ dX10_hang_12 rfl (Nat.le_of_ble_eq_true rfl)) ?_
  rw [up2_ne (by omega), up2_ne (by omega)]
  rw [show fPl (I 46 2) (I 46 3) (y) = 2 by simp only [fPl, if_neg ht, if_neg hp]]
  refine jx_istore_n (lv1 := [_, _, _, _]) C dX10_hang_15 (by decide) rfl ?_
  refine jx_iload_n C dX10_hang_16 rfl ?_
  refine jx_if_neT (tgt := 29) C dX10_hang_17 (by decide) (by decide) ?_
  refine jx_iload_n C dX10_hang_29 rfl ?_
  refine jx_if_eqF (tgt := 42) C dX10_hang_30 (by decide) (by decide) ?_
  refine jx_aload_n C dX10_hang_33 rfl ?_
  refine jx_get C fl_10_40_9 dX10_hang_34 (by decide) gg_0 rfl ?_
  refine jx_iload_n C dX10_hang_37 rfl ?_
  refine jx_one C (jr_V C (c_4_tell (f := 2) (by decide) (by decide)) vw_10_62 (by decide) gg_63 rfl rfl ⟨Nat.le_of_ble_eq_true rfl, Nat.le_of_ble_eq_true rfl⟩ ⟨Nat.le_of_ble_eq_true rfl, Nat.le_of_ble_eq_true rfl⟩ dX10_hang_38 rfl (Nat.le_of_ble_eq_true rfl)) ?_
  exact jx_iret C dX10_hang_41 ⟨rfl, rfl, rfl, rfl⟩
set_option maxRecDepth 100000 in
set_option maxHeartbeats 4000000 in
theorem c_10_hang3 {l : Launch} {D : va_G} {K : Nat → ClassId} {A : Nat → Nat} {I : TI} {U : TU} {P : TP} {x y : Int32} (ht : ¬ I 46 2 = 0) (hy : inR (I 46 3) y) (hp : ¬ inR (I 46 3) x) : MM l yX10_hang cX10_hang 4 (some .int) 5 D K A (I) (U) (P) [.ref (A 0), .int x, .int y] (XE (some (.int (0))) (tel (bg I) 2) (U) (P)) := by
  refine MM.go (own := RX10) (lv0 := [some (.ref (A 0)), some (.int x), some (.int y), none]) rfl (by decide) rfl (Nat.le_of_ble_eq_true rfl) rfl ?_
  intro p e s m args below meth c C
  refine jx_aload_n C dX10_hang_0 rfl ?_
  refine jx_get C fl_10_40_9 dX10_hang_1 (by decide) gg_0 rfl ?_
  refine jx_void C (jr_V C (c_4_begin) vw_10_59 (by decide) gg_63 rfl rfl ⟨Nat.le_of_ble_eq_true rfl, Nat.le_of_ble_eq_true rfl⟩ ⟨Nat.le_of_ble_eq_true rfl, Nat.le_of_ble_eq_true rfl⟩ dX10_hang_4 rfl (Nat.le_of_ble_eq_true rfl)) ?_
  refine jx_aload_n C dX10_hang_7 rfl ?_
  refine jx_get C fl_10_26_9 dX10_hang_8 (by decide) gg_0 rfl ?_
  refine jx_iload_n C dX10_hang_11 rfl ?_
  refine jx_one C (jr_V C (c_1_placeFault) vw_10_119 (by decide) gg_46 rfl rfl ⟨Nat.le_of_ble_eq_true rfl, Nat.le_of_ble_eq_true rfl⟩ ⟨Nat.le_of_ble_eq_true rfl, Nat.le_of_ble_eq_true rfl⟩ dX10_hang_12 rfl (Nat.le_of_ble_eq_true rfl)) ?_
  rw [up2_ne (by omega), up2_ne (by omega)]
  rw [show fPl (I 46 2) (I 46 3) (y) = 0 by simp only [fPl, if_neg ht, if_pos hy]]
  refine jx_istore_n (lv1 := [_, _, _, _]) C dX10_hang_15 (by decide) rfl ?_
  refine jx_iload_n C dX10_hang_16 rfl ?_
  refine jx_if_neF (tgt := 29) C dX10_hang_17 (by decide) (by decide) ?_
  refine jx_aload_n C dX10_hang_20 rfl ?_
  refine jx_get C fl_10_26_9 dX10_hang_21 (by decide) gg_0 rfl ?_
  refine jx_iload_n C dX10_hang_24 rfl ?_
  refine jx_one C (jr_V C (c_1_placeFault) vw_10_119 (by decide) gg_46 rfl rfl ⟨Nat.le_of_ble_eq_true rfl, Nat.le_of_ble_eq_true rfl⟩ ⟨Nat.le_of_ble_eq_true rfl, Nat.le_of_ble_eq_true rfl⟩ dX10_hang_25 rfl (Nat.le_of_ble_eq_true rfl)) ?_
  rw [up2_ne (by omega), up2_ne (by omega)]
  rw [show fPl (I 46 2) (I 46 3) (x) = 2 by simp only [fPl, if_neg ht, if_neg hp]]
  refine jx_istore_n (lv1 := [_, _, _, _]) C dX10_hang_28 (by decide) rfl ?_
  refine jx_iload_n C dX10_hang_29 rfl ?_
  refine jx_if_eqF (tgt := 42) C dX10_hang_30 (by decide) (by decide) ?_
  refine jx_aload_n C dX10_hang_33 rfl ?_
  refine jx_get C fl_10_40_9 dX10_hang_34 (by decide) gg_0 rfl ?_
  refine jx_iload_n C dX10_hang_37 rfl ?_
  refine jx_one C (jr_V C (c_4_tell (f := 2) (by decide) (by decide)) vw_10_62 (by decide) gg_63 rfl rfl ⟨Nat.le_of_ble_eq_true rfl, Nat.le_of_ble_eq_true rfl⟩ ⟨Nat.le_of_ble_eq_true rfl, Nat.le_of_ble_eq_true rfl⟩ dX10_hang_38 rfl (Nat.le_of_ble_eq_true rfl)) ?_
  exact jx_iret C dX10_hang_41 ⟨rfl, rfl, rfl, rfl⟩
set_option maxRecDepth 100000 in
set_option maxHeartbeats 4000000 in
theorem c_10_hangN {l : Launch} {D : va_G} {K : Nat → ClassId} {A : Nat → Nat} {I : TI} {U : TU} {P : TP} {j q : Nat} (ht : ¬ I 46 2 = 0) {n : Nat} (hn : I 46 3 = nI n) (h24 : n ≤ 24) (hj : j < n) (hq : q < n) (hr : I 48 q = -1) : MM l yX10_hang cX10_hang 4 (some .int) 5 D K A (I) (U) (P) [.ref (A 0), .int (nI j), .int (nI q)] (XE (some (.int (0))) (up2 (bg I) 48 j (I 48 q)) (U) (P)) := by
  have hp : inR (I 46 3) (nI j) := hn ▸ inR_nI (by omega) hj
  have hy : inR (I 46 3) (nI q) := hn ▸ inR_nI (by omega) hq
  refine MM.go (own := RX10) (lv0 := [some (.ref (A 0)), some (.int (nI j)), some (.int (nI q)), none]) rfl (by decide) rfl (Nat.le_of_ble_eq_true rfl) rfl ?_
  intro p e s m args below meth c C
  refine jx_aload_n C dX10_hang_0 rfl ?_
  refine jx_get C fl_10_40_9 dX10_hang_1 (by decide) gg_0 rfl ?_
  refine jx_void C (jr_V C (c_4_begin) vw_10_59 (by decide) gg_63 rfl rfl ⟨Nat.le_of_ble_eq_true rfl, Nat.le_of_ble_eq_true rfl⟩ ⟨Nat.le_of_ble_eq_true rfl, Nat.le_of_ble_eq_true rfl⟩ dX10_hang_4 rfl (Nat.le_of_ble_eq_true rfl)) ?_
  refine jx_aload_n C dX10_hang_7 rfl ?_
  refine jx_get C fl_10_26_9 dX10_hang_8 (by decide) gg_0 rfl ?_
  refine jx_iload_n C dX10_hang_11 rfl ?_
  refine jx_one C (jr_V C (c_1_placeFault) vw_10_119 (by decide) gg_46 rfl rfl ⟨Nat.le_of_ble_eq_true rfl, Nat.le_of_ble_eq_true rfl⟩ ⟨Nat.le_of_ble_eq_true rfl, Nat.le_of_ble_eq_true rfl⟩ dX10_hang_12 rfl (Nat.le_of_ble_eq_true rfl)) ?_
  rw [up2_ne (by omega), up2_ne (by omega)]
  rw [show fPl (I 46 2) (I 46 3) (nI q) = 0 by simp only [fPl, if_neg ht, if_pos hy]]
  refine jx_istore_n (lv1 := [_, _, _, _]) C dX10_hang_15 (by decide) rfl ?_
  refine jx_iload_n C dX10_hang_16 rfl ?_
  refine jx_if_neF (tgt := 29) C dX10_hang_17 (by decide) (by decide) ?_
  refine jx_aload_n C dX10_hang_20 rfl ?_
  refine jx_get C fl_10_26_9 dX10_hang_21 (by decide) gg_0 rfl ?_
  refine jx_iload_n C dX10_hang_24 rfl ?_
  refine jx_one C (jr_V C (c_1_placeFault) vw_10_119 (by decide) gg_46 rfl rfl ⟨Nat.le_of_ble_eq_true rfl, Nat.le_of_ble_eq_true rfl⟩ ⟨Nat.le_of_ble_eq_true rfl, Nat.le_of_ble_eq_true rfl⟩ dX10_hang_25 rfl (Nat.le_of_ble_eq_true rfl)) ?_
  rw [up2_ne (by omega), up2_ne (by omega)]
  rw [show fPl (I 46 2) (I 46 3) (nI j) = 0 by simp only [fPl, if_neg ht, if_pos hp]]
  refine jx_istore_n (lv1 := [_, _, _, _]) C dX10_hang_28 (by decide) rfl ?_
  refine jx_iload_n C dX10_hang_29 rfl ?_
  refine jx_if_eqT (tgt := 42) C dX10_hang_30 (by decide) (by decide) ?_
  refine jx_aload_n C dX10_hang_42 rfl ?_
  refine jx_get C fl_10_26_9 dX10_hang_43 (by decide) gg_0 rfl ?_
  refine jx_iload_n C dX10_hang_46 rfl ?_
  refine jx_iload_n C dX10_hang_47 rfl ?_
  refine jx_void C (jr_V C (c_1_join (by rw [up2_ne (by omega)]; exact hn) h24 hj hq) vw_10_128 (by decide) gg_46 rfl rfl ⟨Nat.le_of_ble_eq_true rfl, Nat.le_of_ble_eq_true rfl⟩ ⟨Nat.le_of_ble_eq_true rfl, Nat.le_of_ble_eq_true rfl⟩ dX10_hang_48 rfl (Nat.le_of_ble_eq_true rfl)) ?_
  refine jx_aload_n C dX10_hang_51 rfl ?_
  refine jx_get C fl_10_26_9 dX10_hang_52 (by decide) gg_0 rfl ?_
  refine jx_iload_n C dX10_hang_55 rfl ?_
  refine jx_one C (jr_V C (c_1_hasPick (by rw [up2_ne (by omega), up2_ne (by omega)]; exact hn) h24) vw_10_122 (by decide) gg_46 rfl rfl ⟨Nat.le_of_ble_eq_true rfl, Nat.le_of_ble_eq_true rfl⟩ ⟨Nat.le_of_ble_eq_true rfl, Nat.le_of_ble_eq_true rfl⟩ dX10_hang_56 rfl (Nat.le_of_ble_eq_true rfl)) ?_
  rw [up2_ne (show ¬ (46 = 48 ∧ 3 = j) by omega), up2_ne (show ¬ (46 = 63 ∧ 3 = 1) by omega), nI_clamp (by omega), up2_same, up2_ne (show ¬ (48 = 63 ∧ q = 1) by omega), bI_f (fun z => z.2 hr)]
  refine jx_if_eqT (tgt := 72) C dX10_hang_59 (by decide) (by decide) ?_
  refine jx_iconst (v := 0) C dX10_hang_72 (by decide) ?_
  exact jx_iret C dX10_hang_73 ⟨rfl, rfl, rfl, rfl⟩
set_option maxRecDepth 100000 in
set_option maxHeartbeats 4000000 in
theorem c_10_hangS {l : Launch} {D : va_G} {K : Nat → ClassId} {A : Nat → Nat} {I : TI} {U : TU} {P : TP} {j q : Nat} (ht : ¬ I 46 2 = 0) {n : Nat} (hn : I 46 3 = nI n) (h24 : n ≤ 24) (hj : j < n) (hq : q < n) (hr : ¬ I 48 q = -1) : MM l yX10_hang cX10_hang 4 (some .int) 5 D K A (I) (U) (P) [.ref (A 0), .int (nI j), .int (nI q)] (XE (some (.int (I 46 4))) (up2 (bg I) 48 j (I 48 q)) (U) (P)) := by
  have hp : inR (I 46 3) (nI j) := hn ▸ inR_nI (by omega) hj
  have hy : inR (I 46 3) (nI q) := hn ▸ inR_nI (by omega) hq
  refine MM.go (own := RX10) (lv0 := [some (.ref (A 0)), some (.int (nI j)), some (.int (nI q)), none]) rfl (by decide) rfl (Nat.le_of_ble_eq_true rfl) rfl ?_
  intro p e s m args below meth c C
  refine jx_aload_n C dX10_hang_0 rfl ?_
  refine jx_get C fl_10_40_9 dX10_hang_1 (by decide) gg_0 rfl ?_
  refine jx_void C (jr_V C (c_4_begin) vw_10_59 (by decide) gg_63 rfl rfl ⟨Nat.le_of_ble_eq_true rfl, Nat.le_of_ble_eq_true rfl⟩ ⟨Nat.le_of_ble_eq_true rfl, Nat.le_of_ble_eq_true rfl⟩ dX10_hang_4 rfl (Nat.le_of_ble_eq_true rfl)) ?_
  refine jx_aload_n C dX10_hang_7 rfl ?_
  refine jx_get C fl_10_26_9 dX10_hang_8 (by decide) gg_0 rfl ?_
  refine jx_iload_n C dX10_hang_11 rfl ?_
  refine jx_one C (jr_V C (c_1_placeFault) vw_10_119 (by decide) gg_46 rfl rfl ⟨Nat.le_of_ble_eq_true rfl, Nat.le_of_ble_eq_true rfl⟩ ⟨Nat.le_of_ble_eq_true rfl, Nat.le_of_ble_eq_true rfl⟩ dX10_hang_12 rfl (Nat.le_of_ble_eq_true rfl)) ?_
  rw [up2_ne (by omega), up2_ne (by omega)]
  rw [show fPl (I 46 2) (I 46 3) (nI q) = 0 by simp only [fPl, if_neg ht, if_pos hy]]
  refine jx_istore_n (lv1 := [_, _, _, _]) C dX10_hang_15 (by decide) rfl ?_
  refine jx_iload_n C dX10_hang_16 rfl ?_
  refine jx_if_neF (tgt := 29) C dX10_hang_17 (by decide) (by decide) ?_
  refine jx_aload_n C dX10_hang_20 rfl ?_
  refine jx_get C fl_10_26_9 dX10_hang_21 (by decide) gg_0 rfl ?_
  refine jx_iload_n C dX10_hang_24 rfl ?_
  refine jx_one C (jr_V C (c_1_placeFault) vw_10_119 (by decide) gg_46 rfl rfl ⟨Nat.le_of_ble_eq_true rfl, Nat.le_of_ble_eq_true rfl⟩ ⟨Nat.le_of_ble_eq_true rfl, Nat.le_of_ble_eq_true rfl⟩ dX10_hang_25 rfl (Nat.le_of_ble_eq_true rfl)) ?_
  rw [up2_ne (by omega), up2_ne (by omega)]
  rw [show fPl (I 46 2) (I 46 3) (nI j) = 0 by simp only [fPl, if_neg ht, if_pos hp]]
  refine jx_istore_n (lv1 := [_, _, _, _]) C dX10_hang_28 (by decide) rfl ?_
  refine jx_iload_n C dX10_hang_29 rfl ?_
  refine jx_if_eqT (tgt := 42) C dX10_hang_30 (by decide) (by decide) ?_
  refine jx_aload_n C dX10_hang_42 rfl ?_
  refine jx_get C fl_10_26_9 dX10_hang_43 (by decide) gg_0 rfl ?_
  refine jx_iload_n C dX10_hang_46 rfl ?_
  refine jx_iload_n C dX10_hang_47 rfl ?_
  refine jx_void C (jr_V C (c_1_join (by rw [up2_ne (by omega)]; exact hn) h24 hj hq) vw_10_128 (by decide) gg_46 rfl rfl ⟨Nat.le_of_ble_eq_true rfl, Nat.le_of_ble_eq_true rfl⟩ ⟨Nat.le_of_ble_eq_true rfl, Nat.le_of_ble_eq_true rfl⟩ dX10_hang_48 rfl (Nat.le_of_ble_eq_true rfl)) ?_
  refine jx_aload_n C dX10_hang_51 rfl ?_
  refine jx_get C fl_10_26_9 dX10_hang_52 (by decide) gg_0 rfl ?_
  refine jx_iload_n C dX10_hang_55 rfl ?_
  refine jx_one C (jr_V C (c_1_hasPick (by rw [up2_ne (by omega), up2_ne (by omega)]; exact hn) h24) vw_10_122 (by decide) gg_46 rfl rfl ⟨Nat.le_of_ble_eq_true rfl, Nat.le_of_ble_eq_true rfl⟩ ⟨Nat.le_of_ble_eq_true rfl, Nat.le_of_ble_eq_true rfl⟩ dX10_hang_56 rfl (Nat.le_of_ble_eq_true rfl)) ?_
  rw [up2_ne (show ¬ (46 = 48 ∧ 3 = j) by omega), up2_ne (show ¬ (46 = 63 ∧ 3 = 1) by omega), nI_clamp (by omega), up2_same, up2_ne (show ¬ (48 = 63 ∧ q = 1) by omega), bI_t ⟨hp, hr⟩]
  refine jx_if_eqF (tgt := 72) C dX10_hang_59 (by decide) (by decide) ?_
  refine jx_aload_n C dX10_hang_62 rfl ?_
  refine jx_get C fl_10_26_9 dX10_hang_63 (by decide) gg_0 rfl ?_
  refine jx_one C (jr_V C (c_1_width) vw_10_130 (by decide) gg_46 rfl rfl ⟨Nat.le_of_ble_eq_true rfl, Nat.le_of_ble_eq_true rfl⟩ ⟨Nat.le_of_ble_eq_true rfl, Nat.le_of_ble_eq_true rfl⟩ dX10_hang_66 rfl (Nat.le_of_ble_eq_true rfl)) ?_
  rw [up2_ne (show ¬ (46 = 48 ∧ 4 = j) by omega), up2_ne (show ¬ (46 = 63 ∧ 4 = 1) by omega)]
  refine jx_goto (tgt := 73) C dX10_hang_69 (by decide) ?_
  exact jx_iret C dX10_hang_73 ⟨rfl, rfl, rfl, rfl⟩
set_option maxRecDepth 100000 in
set_option maxHeartbeats 4000000 in
theorem c_10_cell1 {l : Launch} {D : va_G} {K : Nat → ClassId} {A : Nat → Nat} {I : TI} {U : TU} {P : TP} {x y : Int32} {n : Nat} (hn : I 46 3 = nI n) (h24 : n ≤ 24) (ht : I 46 2 = 0) : MM l yX10_cell cX10_cell 4 (some .int) 5 D K A (I) (U) (P) [.ref (A 0), .int x, .int y] (XE (some (.int (0))) (tel (bg I) 1) (U) (P)) := by
  refine MM.go (own := RX10) (lv0 := [some (.ref (A 0)), some (.int x), some (.int y), none]) rfl (by decide) rfl (Nat.le_of_ble_eq_true rfl) rfl ?_
  intro p e s m args below meth c C
  refine jx_aload_n C dX10_cell_0 rfl ?_
  refine jx_get C fl_10_40_9 dX10_cell_1 (by decide) gg_0 rfl ?_
  refine jx_void C (jr_V C (c_4_begin) vw_10_59 (by decide) gg_63 rfl rfl ⟨Nat.le_of_ble_eq_true rfl, Nat.le_of_ble_eq_true rfl⟩ ⟨Nat.le_of_ble_eq_true rfl, Nat.le_of_ble_eq_true rfl⟩ dX10_cell_4 rfl (Nat.le_of_ble_eq_true rfl)) ?_
  refine jx_aload_n C dX10_cell_7 rfl ?_
  refine jx_get C fl_10_26_9 dX10_cell_8 (by decide) gg_0 rfl ?_
  refine jx_iload_n C dX10_cell_11 rfl ?_
  refine jx_one C (jr_V C (c_1_pickFault (by rw [up2_ne (by omega)]; exact hn) h24) vw_10_133 (by decide) gg_46 rfl rfl ⟨Nat.le_of_ble_eq_true rfl, Nat.le_of_ble_eq_true rfl⟩ ⟨Nat.le_of_ble_eq_true rfl, Nat.le_of_ble_eq_true rfl⟩ dX10_cell_12 rfl (Nat.le_of_ble_eq_true rfl)) ?_
  rw [up2_ne (by omega), up2_ne (by omega), up2_ne (by omega)]
  rw [show fPk (I 46 2) (I 46 3) (x) (I 48 (x).toNatClampNeg) = 1 by simp [fPk, ht]]
  refine jx_istore_n (lv1 := [_, _, _, _]) C dX10_cell_15 (by decide) rfl ?_
  refine jx_iload_n C dX10_cell_16 rfl ?_
  refine jx_if_neT (tgt := 33) C dX10_cell_17 (by decide) (by decide) ?_
  refine jx_iload_n C dX10_cell_33 rfl ?_
  refine jx_if_neT (tgt := 49) C dX10_cell_34 (by decide) (by decide) ?_
  refine jx_aload_n C dX10_cell_49 rfl ?_
  refine jx_get C fl_10_40_9 dX10_cell_50 (by decide) gg_0 rfl ?_
  refine jx_iload_n C dX10_cell_53 rfl ?_
  refine jx_one C (jr_V C (c_4_tell (f := 1) (by decide) (by decide)) vw_10_62 (by decide) gg_63 rfl rfl ⟨Nat.le_of_ble_eq_true rfl, Nat.le_of_ble_eq_true rfl⟩ ⟨Nat.le_of_ble_eq_true rfl, Nat.le_of_ble_eq_true rfl⟩ dX10_cell_54 rfl (Nat.le_of_ble_eq_true rfl)) ?_
  exact jx_iret C dX10_cell_57 ⟨rfl, rfl, rfl, rfl⟩
set_option maxRecDepth 100000 in
set_option maxHeartbeats 4000000 in
theorem c_10_cell2 {l : Launch} {D : va_G} {K : Nat → ClassId} {A : Nat → Nat} {I : TI} {U : TU} {P : TP} {x y : Int32} {n : Nat} (hn : I 46 3 = nI n) (h24 : n ≤ 24) (ht : ¬ I 46 2 = 0) (hp : ¬ inR (I 46 3) x) : MM l yX10_cell cX10_cell 4 (some .int) 5 D K A (I) (U) (P) [.ref (A 0), .int x, .int y] (XE (some (.int (0))) (tel (bg I) 2) (U) (P)) := by
  refine MM.go (own := RX10) (lv0 := [some (.ref (A 0)), some (.int x), some (.int y), none]) rfl (by decide) rfl (Nat.le_of_ble_eq_true rfl) rfl ?_
  intro p e s m args below meth c C
  refine jx_aload_n C dX10_cell_0 rfl ?_
  refine jx_get C fl_10_40_9 dX10_cell_1 (by decide) gg_0 rfl ?_
  refine jx_void C (jr_V C (c_4_begin) vw_10_59 (by decide) gg_63 rfl rfl ⟨Nat.le_of_ble_eq_true rfl, Nat.le_of_ble_eq_true rfl⟩ ⟨Nat.le_of_ble_eq_true rfl, Nat.le_of_ble_eq_true rfl⟩ dX10_cell_4 rfl (Nat.le_of_ble_eq_true rfl)) ?_
  refine jx_aload_n C dX10_cell_7 rfl ?_
  refine jx_get C fl_10_26_9 dX10_cell_8 (by decide) gg_0 rfl ?_
  refine jx_iload_n C dX10_cell_11 rfl ?_
  refine jx_one C (jr_V C (c_1_pickFault (by rw [up2_ne (by omega)]; exact hn) h24) vw_10_133 (by decide) gg_46 rfl rfl ⟨Nat.le_of_ble_eq_true rfl, Nat.le_of_ble_eq_true rfl⟩ ⟨Nat.le_of_ble_eq_true rfl, Nat.le_of_ble_eq_true rfl⟩ dX10_cell_12 rfl (Nat.le_of_ble_eq_true rfl)) ?_
  rw [up2_ne (by omega), up2_ne (by omega), up2_ne (by omega)]
  rw [show fPk (I 46 2) (I 46 3) (x) (I 48 (x).toNatClampNeg) = 2 by simp only [fPk, if_neg ht, if_neg hp]]
  refine jx_istore_n (lv1 := [_, _, _, _]) C dX10_cell_15 (by decide) rfl ?_
  refine jx_iload_n C dX10_cell_16 rfl ?_
  refine jx_if_neT (tgt := 33) C dX10_cell_17 (by decide) (by decide) ?_
  refine jx_iload_n C dX10_cell_33 rfl ?_
  refine jx_if_neT (tgt := 49) C dX10_cell_34 (by decide) (by decide) ?_
  refine jx_aload_n C dX10_cell_49 rfl ?_
  refine jx_get C fl_10_40_9 dX10_cell_50 (by decide) gg_0 rfl ?_
  refine jx_iload_n C dX10_cell_53 rfl ?_
  refine jx_one C (jr_V C (c_4_tell (f := 2) (by decide) (by decide)) vw_10_62 (by decide) gg_63 rfl rfl ⟨Nat.le_of_ble_eq_true rfl, Nat.le_of_ble_eq_true rfl⟩ ⟨Nat.le_of_ble_eq_true rfl, Nat.le_of_ble_eq_true rfl⟩ dX10_cell_54 rfl (Nat.le_of_ble_eq_true rfl)) ?_
  exact jx_iret C dX10_cell_57 ⟨rfl, rfl, rfl, rfl⟩
set_option maxRecDepth 100000 in
set_option maxHeartbeats 4000000 in
theorem c_10_cell3 {l : Launch} {D : va_G} {K : Nat → ClassId} {A : Nat → Nat} {I : TI} {U : TU} {P : TP} {x y : Int32} {n : Nat} (hn : I 46 3 = nI n) (h24 : n ≤ 24) (ht : ¬ I 46 2 = 0) (hp : inR (I 46 3) x) (hr : I 48 x.toNatClampNeg = -1) : MM l yX10_cell cX10_cell 4 (some .int) 5 D K A (I) (U) (P) [.ref (A 0), .int x, .int y] (XE (some (.int (0))) (tel (bg I) 1) (U) (P)) := by
  refine MM.go (own := RX10) (lv0 := [some (.ref (A 0)), some (.int x), some (.int y), none]) rfl (by decide) rfl (Nat.le_of_ble_eq_true rfl) rfl ?_
  intro p e s m args below meth c C
  refine jx_aload_n C dX10_cell_0 rfl ?_
  refine jx_get C fl_10_40_9 dX10_cell_1 (by decide) gg_0 rfl ?_
  refine jx_void C (jr_V C (c_4_begin) vw_10_59 (by decide) gg_63 rfl rfl ⟨Nat.le_of_ble_eq_true rfl, Nat.le_of_ble_eq_true rfl⟩ ⟨Nat.le_of_ble_eq_true rfl, Nat.le_of_ble_eq_true rfl⟩ dX10_cell_4 rfl (Nat.le_of_ble_eq_true rfl)) ?_
  refine jx_aload_n C dX10_cell_7 rfl ?_
  refine jx_get C fl_10_26_9 dX10_cell_8 (by decide) gg_0 rfl ?_
  refine jx_iload_n C dX10_cell_11 rfl ?_
  refine jx_one C (jr_V C (c_1_pickFault (by rw [up2_ne (by omega)]; exact hn) h24) vw_10_133 (by decide) gg_46 rfl rfl ⟨Nat.le_of_ble_eq_true rfl, Nat.le_of_ble_eq_true rfl⟩ ⟨Nat.le_of_ble_eq_true rfl, Nat.le_of_ble_eq_true rfl⟩ dX10_cell_12 rfl (Nat.le_of_ble_eq_true rfl)) ?_
  rw [up2_ne (by omega), up2_ne (by omega), up2_ne (by omega)]
  rw [show fPk (I 46 2) (I 46 3) (x) (I 48 (x).toNatClampNeg) = 1 by simp only [fPk, if_neg ht, if_pos hp, if_pos hr]]
  refine jx_istore_n (lv1 := [_, _, _, _]) C dX10_cell_15 (by decide) rfl ?_
  refine jx_iload_n C dX10_cell_16 rfl ?_
  refine jx_if_neT (tgt := 33) C dX10_cell_17 (by decide) (by decide) ?_
  refine jx_iload_n C dX10_cell_33 rfl ?_
  refine jx_if_neT (tgt := 49) C dX10_cell_34 (by decide) (by decide) ?_
  refine jx_aload_n C dX10_cell_49 rfl ?_
  refine jx_get C fl_10_40_9 dX10_cell_50 (by decide) gg_0 rfl ?_
  refine jx_iload_n C dX10_cell_53 rfl ?_
  refine jx_one C (jr_V C (c_4_tell (f := 1) (by decide) (by decide)) vw_10_62 (by decide) gg_63 rfl rfl ⟨Nat.le_of_ble_eq_true rfl, Nat.le_of_ble_eq_true rfl⟩ ⟨Nat.le_of_ble_eq_true rfl, Nat.le_of_ble_eq_true rfl⟩ dX10_cell_54 rfl (Nat.le_of_ble_eq_true rfl)) ?_
  exact jx_iret C dX10_cell_57 ⟨rfl, rfl, rfl, rfl⟩
set_option maxRecDepth 100000 in
set_option maxHeartbeats 4000000 in
theorem c_10_cell4 {l : Launch} {D : va_G} {K : Nat → ClassId} {A : Nat → Nat} {I : TI} {U : TU} {P : TP} {j : Nat} {y : Int32} {n : Nat} (hn : I 46 3 = nI n) (h24 : n ≤ 24) (ht : ¬ I 46 2 = 0) (hj : j < n) {r : Nat} (hr : I 48 j = nI r) (hr24 : r < 24) (hc : ¬ inR (I 46 4) y) : MM l yX10_cell cX10_cell 4 (some .int) 5 D K A (I) (U) (P) [.ref (A 0), .int (nI j), .int y] (XE (some (.int (0))) (tel (bg I) 2) (U) (P)) := by
  have hp : inR (I 46 3) (nI j) := hn ▸ inR_nI (by omega) hj
  refine MM.go (own := RX10) (lv0 := [some (.ref (A 0)), some (.int (nI j)), some (.int y), none]) rfl (by decide) rfl (Nat.le_of_ble_eq_true rfl) rfl ?_
  intro p e s m args below meth c C
  refine jx_aload_n C dX10_cell_0 rfl ?_
  refine jx_get C fl_10_40_9 dX10_cell_1 (by decide) gg_0 rfl ?_
  refine jx_void C (jr_V C (c_4_begin) vw_10_59 (by decide) gg_63 rfl rfl ⟨Nat.le_of_ble_eq_true rfl, Nat.le_of_ble_eq_true rfl⟩ ⟨Nat.le_of_ble_eq_true rfl, Nat.le_of_ble_eq_true rfl⟩ dX10_cell_4 rfl (Nat.le_of_ble_eq_true rfl)) ?_
  refine jx_aload_n C dX10_cell_7 rfl ?_
  refine jx_get C fl_10_26_9 dX10_cell_8 (by decide) gg_0 rfl ?_
  refine jx_iload_n C dX10_cell_11 rfl ?_
  refine jx_one C (jr_V C (c_1_pickFault (by rw [up2_ne (by omega)]; exact hn) h24) vw_10_133 (by decide) gg_46 rfl rfl ⟨Nat.le_of_ble_eq_true rfl, Nat.le_of_ble_eq_true rfl⟩ ⟨Nat.le_of_ble_eq_true rfl, Nat.le_of_ble_eq_true rfl⟩ dX10_cell_12 rfl (Nat.le_of_ble_eq_true rfl)) ?_
  rw [up2_ne (by omega), up2_ne (by omega), up2_ne (by omega)]
  rw [show fPk (I 46 2) (I 46 3) (nI j) (I 48 (nI j).toNatClampNeg) = 0 by simp only [fPk, if_neg ht, if_pos hp, nI_clamp (show j < 2 ^ 31 by omega)]; rw [hr, if_neg (nI_m1 (by omega))]]
  refine jx_istore_n (lv1 := [_, _, _, _]) C dX10_cell_15 (by decide) rfl ?_
  refine jx_iload_n C dX10_cell_16 rfl ?_
  refine jx_if_neF (tgt := 33) C dX10_cell_17 (by decide) (by decide) ?_
  refine jx_aload_n C dX10_cell_20 rfl ?_
  refine jx_get C fl_10_26_9 dX10_cell_21 (by decide) gg_0 rfl ?_
  refine jx_iload_n C dX10_cell_24 rfl ?_
  refine jx_one C (jr_V C (c_1_hasCell) vw_10_136 (by decide) gg_46 rfl rfl ⟨Nat.le_of_ble_eq_true rfl, Nat.le_of_ble_eq_true rfl⟩ ⟨Nat.le_of_ble_eq_true rfl, Nat.le_of_ble_eq_true rfl⟩ dX10_cell_25 rfl (Nat.le_of_ble_eq_true rfl)) ?_
  rw [up2_ne (by omega), bI_f hc]
  refine jx_if_neF (tgt := 33) C dX10_cell_28 (by decide) (by decide) ?_
  refine jx_iconst (v := 2) C dX10_cell_31 (by decide) ?_
  refine jx_istore_n (lv1 := [_, _, _, _]) C dX10_cell_32 (by decide) rfl ?_
  refine jx_iload_n C dX10_cell_33 rfl ?_
  refine jx_if_neT (tgt := 49) C dX10_cell_34 (by decide) (by decide) ?_
  refine jx_aload_n C dX10_cell_49 rfl ?_
  refine jx_get C fl_10_40_9 dX10_cell_50 (by decide) gg_0 rfl ?_
  refine jx_iload_n C dX10_cell_53 rfl ?_
  refine jx_one C (jr_V C (c_4_tell (f := 2) (by decide) (by decide)) vw_10_62 (by decide) gg_63 rfl rfl ⟨Nat.le_of_ble_eq_true rfl, Nat.le_of_ble_eq_true rfl⟩ ⟨Nat.le_of_ble_eq_true rfl, Nat.le_of_ble_eq_true rfl⟩ dX10_cell_54 rfl (Nat.le_of_ble_eq_true rfl)) ?_
  exact jx_iret C dX10_cell_57 ⟨rfl, rfl, rfl, rfl⟩
set_option maxRecDepth 100000 in
set_option maxHeartbeats 4000000 in
theorem c_10_cell {l : Launch} {D : va_G} {K : Nat → ClassId} {A : Nat → Nat} {I : TI} {U : TU} {P : TP} {j u : Nat} {n : Nat} (hn : I 46 3 = nI n) (h24 : n ≤ 24) (ht : ¬ I 46 2 = 0) (hj : j < n) {r : Nat} (hr : I 48 j = nI r) (hr24 : r < 24) {w : Nat} (hw : I 46 4 = nI w) (hw24 : w ≤ 24) (hu : u < w) : MM l yX10_cell cX10_cell 4 (some .int) 5 D K A (I) (U) (P) [.ref (A 0), .int (nI j), .int (nI u)] (XE (some (.int (I 47 (24 * r + u)))) (bg I) (U) (P)) := by
  have hc : inR (I 46 4) (nI u) := hw ▸ inR_nI (by omega) hu
  have hp : inR (I 46 3) (nI j) := hn ▸ inR_nI (by omega) hj
  refine MM.go (own := RX10) (lv0 := [some (.ref (A 0)), some (.int (nI j)), some (.int (nI u)), none]) rfl (by decide) rfl (Nat.le_of_ble_eq_true rfl) rfl ?_
  intro p e s m args below meth c C
  refine jx_aload_n C dX10_cell_0 rfl ?_
  refine jx_get C fl_10_40_9 dX10_cell_1 (by decide) gg_0 rfl ?_
  refine jx_void C (jr_V C (c_4_begin) vw_10_59 (by decide) gg_63 rfl rfl ⟨Nat.le_of_ble_eq_true rfl, Nat.le_of_ble_eq_true rfl⟩ ⟨Nat.le_of_ble_eq_true rfl, Nat.le_of_ble_eq_true rfl⟩ dX10_cell_4 rfl (Nat.le_of_ble_eq_true rfl)) ?_
  refine jx_aload_n C dX10_cell_7 rfl ?_
  refine jx_get C fl_10_26_9 dX10_cell_8 (by decide) gg_0 rfl ?_
  refine jx_iload_n C dX10_cell_11 rfl ?_
  refine jx_one C (jr_V C (c_1_pickFault (by rw [up2_ne (by omega)]; exact hn) h24) vw_10_133 (by decide) gg_46 rfl rfl ⟨Nat.le_of_ble_eq_true rfl, Nat.le_of_ble_eq_true rfl⟩ ⟨Nat.le_of_ble_eq_true rfl, Nat.le_of_ble_eq_true rfl⟩ dX10_cell_12 rfl (Nat.le_of_ble_eq_true rfl)) ?_
  rw [up2_ne (by omega), up2_ne (by omega), up2_ne (by omega)]
  rw [show fPk (I 46 2) (I 46 3) (nI j) (I 48 (nI j).toNatClampNeg) = 0 by simp only [fPk, if_neg ht, if_pos hp, nI_clamp (show j < 2 ^ 31 by omega)]; rw [hr, if_neg (nI_m1 (by omega))]]
  refine jx_istore_n (lv1 := [_, _, _, _]) C dX10_cell_15 (by decide) rfl ?_
  refine jx_iload_n C dX10_cell_16 rfl ?_
  refine jx_if_neF (tgt := 33) C dX10_cell_17 (by decide) (by decide) ?_
  refine jx_aload_n C dX10_cell_20 rfl ?_
  refine jx_get C fl_10_26_9 dX10_cell_21 (by decide) gg_0 rfl ?_
  refine jx_iload_n C dX10_cell_24 rfl ?_
  refine jx_one C (jr_V C (c_1_hasCell) vw_10_136 (by decide) gg_46 rfl rfl ⟨Nat.le_of_ble_eq_true rfl, Nat.le_of_ble_eq_true rfl⟩ ⟨Nat.le_of_ble_eq_true rfl, Nat.le_of_ble_eq_true rfl⟩ dX10_cell_25 rfl (Nat.le_of_ble_eq_true rfl)) ?_
  rw [up2_ne (by omega), bI_t hc]
  refine jx_if_neT (tgt := 33) C dX10_cell_28 (by decide) (by decide) ?_
  refine jx_iload_n C dX10_cell_33 rfl ?_
  refine jx_if_neF (tgt := 49) C dX10_cell_34 (by decide) (by decide) ?_
  refine jx_aload_n C dX10_cell_37 rfl ?_
  refine jx_get C fl_10_26_9 dX10_cell_38 (by decide) gg_0 rfl ?_
  refine jx_iload_n C dX10_cell_41 rfl ?_
  refine jx_iload_n C dX10_cell_42 rfl ?_
  refine jx_one C (jr_V C (c_1_get (by rw [up2_ne (by omega)]; exact hn) h24 hj (by rw [up2_ne (by omega)]; exact hr) hr24 (by rw [up2_ne (by omega)]; exact hw) hw24 hu) vw_10_139 (by decide) gg_46 rfl rfl ⟨Nat.le_of_ble_eq_true rfl, Nat.le_of_ble_eq_true rfl⟩ ⟨Nat.le_of_ble_eq_true rfl, Nat.le_of_ble_eq_true rfl⟩ dX10_cell_43 rfl (Nat.le_of_ble_eq_true rfl)) ?_
  rw [up2_ne (by omega)]
  refine jx_goto (tgt := 57) C dX10_cell_46 (by decide) ?_
  exact jx_iret C dX10_cell_57 ⟨rfl, rfl, rfl, rfl⟩
set_option maxRecDepth 100000 in
set_option maxHeartbeats 4000000 in
theorem c_10_cardX1 {l : Launch} {D : va_G} {K : Nat → ClassId} {A : Nat → Nat} {I : TI} {U : TU} {P : TP} {kd f s0 x v : Int32} (hx : ¬ inK kd) : MM l yX10_card cX10_card 6 (some .int) 5 D K A (I) (U) (P) [.ref (A 0), .int kd, .int f, .int s0, .int x, .int v] (XE (some (.int ((-2147483648)))) (I) (U) (P)) := by
  refine MM.go (own := RX10) (lv0 := [some (.ref (A 0)), some (.int kd), some (.int f), some (.int s0), some (.int x), some (.int v)]) rfl (by decide) rfl (Nat.le_of_ble_eq_true rfl) rfl ?_
  intro p e s m args below meth c C
  refine jx_iload_n C dX10_card_0 rfl ?_
  refine jx_one C (jr_S C (c_10_isAct) sw_10_100 rfl ⟨Nat.le_of_ble_eq_true rfl, Nat.le_of_ble_eq_true rfl⟩ ⟨Nat.le_of_ble_eq_true rfl, Nat.le_of_ble_eq_true rfl⟩ dX10_card_1 rfl (Nat.le_of_ble_eq_true rfl)) ?_
  rw [bI_f hx]
  refine jx_if_eqT (tgt := 25) C dX10_card_4 (by decide) (by decide) ?_
  refine jx_ldc C dX10_card_25 qw_215 ?_
  exact jx_iret C dX10_card_27 ⟨rfl, rfl, rfl, rfl⟩
set_option maxRecDepth 100000 in
set_option maxHeartbeats 4000000 in
theorem c_10_cardX2 {l : Launch} {D : va_G} {K : Nat → ClassId} {A : Nat → Nat} {I : TI} {U : TU} {P : TP} {kd x v : Int32} (hk : inK kd) {f s0 : Int32} (hx : ¬ inL f s0) : MM l yX10_card cX10_card 6 (some .int) 5 D K A (I) (U) (P) [.ref (A 0), .int kd, .int f, .int s0, .int x, .int v] (XE (some (.int ((-2147483648)))) (I) (U) (P)) := by
  refine MM.go (own := RX10) (lv0 := [some (.ref (A 0)), some (.int kd), some (.int f), some (.int s0), some (.int x), some (.int v)]) rfl (by decide) rfl (Nat.le_of_ble_eq_true rfl) rfl ?_
  intro p e s m args below meth c C
  refine jx_iload_n C dX10_card_0 rfl ?_
  refine jx_one C (jr_S C (c_10_isAct) sw_10_100 rfl ⟨Nat.le_of_ble_eq_true rfl, Nat.le_of_ble_eq_true rfl⟩ ⟨Nat.le_of_ble_eq_true rfl, Nat.le_of_ble_eq_true rfl⟩ dX10_card_1 rfl (Nat.le_of_ble_eq_true rfl)) ?_
  rw [bI_t hk]
  refine jx_if_eqF (tgt := 25) C dX10_card_4 (by decide) (by decide) ?_
  refine jx_iload_n C dX10_card_7 rfl ?_
  refine jx_iload_n C dX10_card_8 rfl ?_
  refine jx_one C (jr_S C (c_8_isLane) sw_10_54 rfl ⟨Nat.le_of_ble_eq_true rfl, Nat.le_of_ble_eq_true rfl⟩ ⟨Nat.le_of_ble_eq_true rfl, Nat.le_of_ble_eq_true rfl⟩ dX10_card_9 rfl (Nat.le_of_ble_eq_true rfl)) ?_
  rw [bI_f hx]
  refine jx_if_eqT (tgt := 25) C dX10_card_12 (by decide) (by decide) ?_
  refine jx_ldc C dX10_card_25 qw_215 ?_
  exact jx_iret C dX10_card_27 ⟨rfl, rfl, rfl, rfl⟩
set_option maxRecDepth 100000 in
set_option maxHeartbeats 4000000 in
theorem c_10_cardX3 {l : Launch} {D : va_G} {K : Nat → ClassId} {A : Nat → Nat} {I : TI} {U : TU} {P : TP} {kd f s0 x v : Int32} (hk : inK kd) (hl : inL f s0) (h : I 49 1 = 12) : MM l yX10_card cX10_card 6 (some .int) 5 D K A (I) (U) (P) [.ref (A 0), .int kd, .int f, .int s0, .int x, .int v] (XE (some (.int ((-2147483648)))) (I) (U) (P)) := by
  refine MM.go (own := RX10) (lv0 := [some (.ref (A 0)), some (.int kd), some (.int f), some (.int s0), some (.int x), some (.int v)]) rfl (by decide) rfl (Nat.le_of_ble_eq_true rfl) rfl ?_
  intro p e s m args below meth c C
  refine jx_iload_n C dX10_card_0 rfl ?_
  refine jx_one C (jr_S C (c_10_isAct) sw_10_100 rfl ⟨Nat.le_of_ble_eq_true rfl, Nat.le_of_ble_eq_true rfl⟩ ⟨Nat.le_of_ble_eq_true rfl, Nat.le_of_ble_eq_true rfl⟩ dX10_card_1 rfl (Nat.le_of_ble_eq_true rfl)) ?_
  rw [bI_t hk]
  refine jx_if_eqF (tgt := 25) C dX10_card_4 (by decide) (by decide) ?_
  refine jx_iload_n C dX10_card_7 rfl ?_
  refine jx_iload_n C dX10_card_8 rfl ?_
  refine jx_one C (jr_S C (c_8_isLane) sw_10_54 rfl ⟨Nat.le_of_ble_eq_true rfl, Nat.le_of_ble_eq_true rfl⟩ ⟨Nat.le_of_ble_eq_true rfl, Nat.le_of_ble_eq_true rfl⟩ dX10_card_9 rfl (Nat.le_of_ble_eq_true rfl)) ?_
  rw [bI_t hl]
  refine jx_if_eqF (tgt := 25) C dX10_card_12 (by decide) (by decide) ?_
  refine jx_aload_n C dX10_card_15 rfl ?_
  refine jx_get C fl_10_33_9 dX10_card_16 (by decide) gg_0 rfl ?_
  refine jx_one C (jr_V C (c_2_isFull) vw_10_147 (by decide) gg_49 rfl rfl ⟨Nat.le_of_ble_eq_true rfl, Nat.le_of_ble_eq_true rfl⟩ ⟨Nat.le_of_ble_eq_true rfl, Nat.le_of_ble_eq_true rfl⟩ dX10_card_19 rfl (Nat.le_of_ble_eq_true rfl)) ?_
  rw [bI_t h]
  refine jx_if_eqF (tgt := 28) C dX10_card_22 (by decide) (by decide) ?_
  refine jx_ldc C dX10_card_25 qw_215 ?_
  exact jx_iret C dX10_card_27 ⟨rfl, rfl, rfl, rfl⟩
set_option maxRecDepth 100000 in
set_option maxHeartbeats 4000000 in
theorem c_10_card {l : Launch} {D : va_G} {K : Nat → ClassId} {A : Nat → Nat} {I : TI} {U : TU} {P : TP} {kd f s0 x v : Int32} (hk : inK kd) (hl : inL f s0) {co : Nat} (hco : I 49 1 = nI co) (h12 : co < 12) : MM l yX10_card cX10_card 6 (some .int) 5 D K A (I) (U) (P) [.ref (A 0), .int kd, .int f, .int s0, .int x, .int v] (XE (some (.int (nI (co + 1)))) (up2 (up2 (up2 (up2 (up2 (up2 I (51 + co) 0 kd) (51 + co) 1 f) (51 + co) 2 s0) (51 + co) 3 x) (51 + co) 4 v) 49 1 (nI (co + 1))) (U) (P)) := by
  refine MM.go (own := RX10) (lv0 := [some (.ref (A 0)), some (.int kd), some (.int f), some (.int s0), some (.int x), some (.int v)]) rfl (by decide) rfl (Nat.le_of_ble_eq_true rfl) rfl ?_
  intro p e s m args below meth c C
  refine jx_iload_n C dX10_card_0 rfl ?_
  refine jx_one C (jr_S C (c_10_isAct) sw_10_100 rfl ⟨Nat.le_of_ble_eq_true rfl, Nat.le_of_ble_eq_true rfl⟩ ⟨Nat.le_of_ble_eq_true rfl, Nat.le_of_ble_eq_true rfl⟩ dX10_card_1 rfl (Nat.le_of_ble_eq_true rfl)) ?_
  rw [bI_t hk]
  refine jx_if_eqF (tgt := 25) C dX10_card_4 (by decide) (by decide) ?_
  refine jx_iload_n C dX10_card_7 rfl ?_
  refine jx_iload_n C dX10_card_8 rfl ?_
  refine jx_one C (jr_S C (c_8_isLane) sw_10_54 rfl ⟨Nat.le_of_ble_eq_true rfl, Nat.le_of_ble_eq_true rfl⟩ ⟨Nat.le_of_ble_eq_true rfl, Nat.le_of_ble_eq_true rfl⟩ dX10_card_9 rfl (Nat.le_of_ble_eq_true rfl)) ?_
  rw [bI_t hl]
  refine jx_if_eqF (tgt := 25) C dX10_card_12 (by decide) (by decide) ?_
  refine jx_aload_n C dX10_card_15 rfl ?_
  refine jx_get C fl_10_33_9 dX10_card_16 (by decide) gg_0 rfl ?_
  refine jx_one C (jr_V C (c_2_isFull) vw_10_147 (by decide) gg_49 rfl rfl ⟨Nat.le_of_ble_eq_true rfl, Nat.le_of_ble_eq_true rfl⟩ ⟨Nat.le_of_ble_eq_true rfl, Nat.le_of_ble_eq_true rfl⟩ dX10_card_19 rfl (Nat.le_of_ble_eq_true rfl)) ?_
  rw [bI_f (show ¬ I 49 1 = 12 by rw [hco, show (12 : Int32) = nI 12 from rfl, nI_eq (by omega) (by decide)]; omega)]
  refine jx_if_eqT (tgt := 28) C dX10_card_22 (by decide) (by decide) ?_
  refine jx_aload_n C dX10_card_28 rfl ?_
  refine jx_get C fl_10_33_9 dX10_card_29 (by decide) gg_0 rfl ?_
  refine jx_iload_n C dX10_card_32 rfl ?_
  refine jx_iload_n C dX10_card_33 rfl ?_
  refine jx_iload_n C dX10_card_34 rfl ?_
  refine jx_iload C dX10_card_35 rfl ?_
  refine jx_iload C dX10_card_37 rfl ?_
  refine jx_void C (jr_V C (c_2_add hco h12) vw_10_148 (by decide) gg_49 rfl rfl ⟨Nat.le_of_ble_eq_true rfl, Nat.le_of_ble_eq_true rfl⟩ ⟨Nat.le_of_ble_eq_true rfl, Nat.le_of_ble_eq_true rfl⟩ dX10_card_39 rfl (Nat.le_of_ble_eq_true rfl)) ?_
  refine jx_aload_n C dX10_card_42 rfl ?_
  refine jx_get C fl_10_33_9 dX10_card_43 (by decide) gg_0 rfl ?_
  refine jx_one C (jr_V C (c_2_count) vw_10_152 (by decide) gg_49 rfl rfl ⟨Nat.le_of_ble_eq_true rfl, Nat.le_of_ble_eq_true rfl⟩ ⟨Nat.le_of_ble_eq_true rfl, Nat.le_of_ble_eq_true rfl⟩ dX10_card_46 rfl (Nat.le_of_ble_eq_true rfl)) ?_
  rw [up2_same]
  exact jx_iret C dX10_card_49 ⟨rfl, rfl, rfl, rfl⟩
set_option maxRecDepth 100000 in
set_option maxHeartbeats 4000000 in
theorem c_10_unhook {l : Launch} {D : va_G} {K : Nat → ClassId} {A : Nat → Nat} {I : TI} {U : TU} {P : TP}  : MM l yX10_unhook cX10_unhook 2 (some .int) 5 D K A (I) (U) (P) [.ref (A 0)] (XE (some (.int (I 49 1))) (up2 I 49 1 0) (U) (P)) := by
  refine MM.go (own := RX10) (lv0 := [some (.ref (A 0)), none]) rfl (by decide) rfl (Nat.le_of_ble_eq_true rfl) rfl ?_
  intro p e s m args below meth c C
  refine jx_aload_n C dX10_unhook_0 rfl ?_
  refine jx_get C fl_10_33_9 dX10_unhook_1 (by decide) gg_0 rfl ?_
  refine jx_one C (jr_V C (c_2_count) vw_10_152 (by decide) gg_49 rfl rfl ⟨Nat.le_of_ble_eq_true rfl, Nat.le_of_ble_eq_true rfl⟩ ⟨Nat.le_of_ble_eq_true rfl, Nat.le_of_ble_eq_true rfl⟩ dX10_unhook_4 rfl (Nat.le_of_ble_eq_true rfl)) ?_
  refine jx_istore_n (lv1 := [_, _]) C dX10_unhook_7 (by decide) rfl ?_
  refine jx_aload_n C dX10_unhook_8 rfl ?_
  refine jx_get C fl_10_33_9 dX10_unhook_9 (by decide) gg_0 rfl ?_
  refine jx_void C (jr_V C (c_2_clear) vw_10_153 (by decide) gg_49 rfl rfl ⟨Nat.le_of_ble_eq_true rfl, Nat.le_of_ble_eq_true rfl⟩ ⟨Nat.le_of_ble_eq_true rfl, Nat.le_of_ble_eq_true rfl⟩ dX10_unhook_12 rfl (Nat.le_of_ble_eq_true rfl)) ?_
  refine jx_iload_n C dX10_unhook_15 rfl ?_
  exact jx_iret C dX10_unhook_16 ⟨rfl, rfl, rfl, rfl⟩
set_option maxRecDepth 100000 in
set_option maxHeartbeats 4000000 in
theorem c_10_keeperX {l : Launch} {D : va_G} {K : Nat → ClassId} {A : Nat → Nat} {I : TI} {U : TU} {P : TP} {v : Int32} (h : ¬ v &&& (-63) = 0) : MM l yX10_keeper cX10_keeper 2 (some .boolean) 5 D K A (I) (U) (P) [.ref (A 0), .int v] (XE (some (.int (0))) (I) (U) (P)) := by
  refine MM.go (own := RX10) (lv0 := [some (.ref (A 0)), some (.int v)]) rfl (by decide) rfl (Nat.le_of_ble_eq_true rfl) rfl ?_
  intro p e s m args below meth c C
  refine jx_iload_n C dX10_keeper_0 rfl ?_
  refine jx_bipush (v := (-63)) C dX10_keeper_1 (by decide) ?_
  refine jx_iand C dX10_keeper_3 ?_
  refine jx_if_eqF (tgt := 9) C dX10_keeper_4 h (by decide) ?_
  refine jx_iconst (v := 0) C dX10_keeper_7 (by decide) ?_
  exact jx_zret C dX10_keeper_8 rfl ⟨rfl, rfl, rfl, rfl⟩
set_option maxRecDepth 100000 in
set_option maxHeartbeats 4000000 in
theorem c_10_keeper {l : Launch} {D : va_G} {K : Nat → ClassId} {A : Nat → Nat} {I : TI} {U : TU} {P : TP} {v : Int32} (h : v &&& (-63) = 0) : MM l yX10_keeper cX10_keeper 2 (some .boolean) 5 D K A (I) (U) (P) [.ref (A 0), .int v] (XE (some (.int (1))) (up2 I 0 5 v) (U) (P)) := by
  refine MM.go (own := RX10) (lv0 := [some (.ref (A 0)), some (.int v)]) rfl (by decide) rfl (Nat.le_of_ble_eq_true rfl) rfl ?_
  intro p e s m args below meth c C
  refine jx_iload_n C dX10_keeper_0 rfl ?_
  refine jx_bipush (v := (-63)) C dX10_keeper_1 (by decide) ?_
  refine jx_iand C dX10_keeper_3 ?_
  refine jx_if_eqT (tgt := 9) C dX10_keeper_4 (by decide) h ?_
  refine jx_aload_n C dX10_keeper_9 rfl ?_
  refine jx_iload_n C dX10_keeper_10 rfl ?_
  refine jx_putI C fp_10_44_9 dX10_keeper_11 (by decide) gg_0 (Nat.le_of_ble_eq_true rfl) rfl ?_
  refine jx_iconst (v := 1) C dX10_keeper_14 (by decide) ?_
  exact jx_zret C dX10_keeper_15 rfl ⟨rfl, rfl, rfl, rfl⟩
set_option maxRecDepth 100000 in
set_option maxHeartbeats 4000000 in
theorem c_10_toldF {l : Launch} {D : va_G} {K : Nat → ClassId} {A : Nat → Nat} {I : TI} {U : TU} {P : TP} {f : Nat} (h1 : 1 ≤ f) (h2 : f ≤ 5) : MM l yX10_told cX10_told 2 (some .int) 5 D K A (I) (U) (P) [.ref (A 0), .int (nI f)] (XE (some (.int (I 64 f))) (I) (U) (P)) := by
  refine MM.go (own := RX10) (lv0 := [some (.ref (A 0)), some (.int (nI f))]) rfl (by decide) rfl (Nat.le_of_ble_eq_true rfl) rfl ?_
  intro p e s m args below meth c C
  refine jx_iload_n C dX10_told_0 rfl ?_
  refine jx_iconst (v := 1) C dX10_told_1 (by decide) ?_
  refine jx_ic_ltF (tgt := 19) C dX10_told_2 (nI_nlt (a := f) (b := 1) (by omega) (by omega)) (by decide) ?_
  refine jx_iload_n C dX10_told_5 rfl ?_
  refine jx_iconst (v := 5) C dX10_told_6 (by decide) ?_
  refine jx_ic_gtF (tgt := 19) C dX10_told_7 (nI_nlt (a := 5) (b := f) (by omega) (by decide)) (by decide) ?_
  refine jx_aload_n C dX10_told_10 rfl ?_
  refine jx_get C fl_10_40_9 dX10_told_11 (by decide) gg_0 rfl ?_
  refine jx_iload_n C dX10_told_14 rfl ?_
  refine jx_one C (jr_V C (c_4_countOf h1 h2) vw_10_183 (by decide) gg_63 rfl rfl ⟨Nat.le_of_ble_eq_true rfl, Nat.le_of_ble_eq_true rfl⟩ ⟨Nat.le_of_ble_eq_true rfl, Nat.le_of_ble_eq_true rfl⟩ dX10_told_15 rfl (Nat.le_of_ble_eq_true rfl)) ?_
  exact jx_iret C dX10_told_18 ⟨rfl, rfl, rfl, rfl⟩
set_option maxRecDepth 100000 in
set_option maxHeartbeats 4000000 in
theorem c_10_told0 {l : Launch} {D : va_G} {K : Nat → ClassId} {A : Nat → Nat} {I : TI} {U : TU} {P : TP}  : MM l yX10_told cX10_told 2 (some .int) 5 D K A (I) (U) (P) [.ref (A 0), .int 0] (XE (some (.int (I 63 1))) (I) (U) (P)) := by
  refine MM.go (own := RX10) (lv0 := [some (.ref (A 0)), some (.int 0)]) rfl (by decide) rfl (Nat.le_of_ble_eq_true rfl) rfl ?_
  intro p e s m args below meth c C
  refine jx_iload_n C dX10_told_0 rfl ?_
  refine jx_iconst (v := 1) C dX10_told_1 (by decide) ?_
  refine jx_ic_ltT (tgt := 19) C dX10_told_2 (by decide) (by decide) ?_
  refine jx_iload_n C dX10_told_19 rfl ?_
  refine jx_tableIn (tgt := 76) C dX10_told_20 (by decide) (by decide) (off := 56) rfl (by decide) ?_
  refine jx_aload_n C dX10_told_76 rfl ?_
  refine jx_get C fl_10_40_9 dX10_told_77 (by decide) gg_0 rfl ?_
  refine jx_one C (jr_V C (c_4_latest) vw_10_177 (by decide) gg_63 rfl rfl ⟨Nat.le_of_ble_eq_true rfl, Nat.le_of_ble_eq_true rfl⟩ ⟨Nat.le_of_ble_eq_true rfl, Nat.le_of_ble_eq_true rfl⟩ dX10_told_80 rfl (Nat.le_of_ble_eq_true rfl)) ?_
  exact jx_iret C dX10_told_83 ⟨rfl, rfl, rfl, rfl⟩
set_option maxRecDepth 100000 in
set_option maxHeartbeats 4000000 in
theorem c_10_told6 {l : Launch} {D : va_G} {K : Nat → ClassId} {A : Nat → Nat} {I : TI} {U : TU} {P : TP}  : MM l yX10_told cX10_told 2 (some .int) 5 D K A (I) (U) (P) [.ref (A 0), .int 6] (XE (some (.int (I 44 2))) (I) (U) (P)) := by
  refine MM.go (own := RX10) (lv0 := [some (.ref (A 0)), some (.int 6)]) rfl (by decide) rfl (Nat.le_of_ble_eq_true rfl) rfl ?_
  intro p e s m args below meth c C
  refine jx_iload_n C dX10_told_0 rfl ?_
  refine jx_iconst (v := 1) C dX10_told_1 (by decide) ?_
  refine jx_ic_ltF (tgt := 19) C dX10_told_2 (by decide) (by decide) ?_
  refine jx_iload_n C dX10_told_5 rfl ?_
  refine jx_iconst (v := 5) C dX10_told_6 (by decide) ?_
  refine jx_ic_gtT (tgt := 19) C dX10_told_7 (by decide) (by decide) ?_
  refine jx_iload_n C dX10_told_19 rfl ?_
  refine jx_tableIn (tgt := 84) C dX10_told_20 (by decide) (by decide) (off := 64) rfl (by decide) ?_
  refine jx_aload_n C dX10_told_84 rfl ?_
  refine jx_get C fl_10_19_9 dX10_told_85 (by decide) gg_0 rfl ?_
  refine jx_one C (jr_V C (c_6_count) vw_10_99 (by decide) gg_44 rfl rfl ⟨Nat.le_of_ble_eq_true rfl, Nat.le_of_ble_eq_true rfl⟩ ⟨Nat.le_of_ble_eq_true rfl, Nat.le_of_ble_eq_true rfl⟩ dX10_told_88 rfl (Nat.le_of_ble_eq_true rfl)) ?_
  exact jx_iret C dX10_told_91 ⟨rfl, rfl, rfl, rfl⟩
set_option maxRecDepth 100000 in
set_option maxHeartbeats 4000000 in
theorem c_10_told7 {l : Launch} {D : va_G} {K : Nat → ClassId} {A : Nat → Nat} {I : TI} {U : TU} {P : TP}  : MM l yX10_told cX10_told 2 (some .int) 5 D K A (I) (U) (P) [.ref (A 0), .int 7] (XE (some (.int (I 49 1))) (I) (U) (P)) := by
  refine MM.go (own := RX10) (lv0 := [some (.ref (A 0)), some (.int 7)]) rfl (by decide) rfl (Nat.le_of_ble_eq_true rfl) rfl ?_
  intro p e s m args below meth c C
  refine jx_iload_n C dX10_told_0 rfl ?_
  refine jx_iconst (v := 1) C dX10_told_1 (by decide) ?_
  refine jx_ic_ltF (tgt := 19) C dX10_told_2 (by decide) (by decide) ?_
  refine jx_iload_n C dX10_told_5 rfl ?_
  refine jx_iconst (v := 5) C dX10_told_6 (by decide) ?_
  refine jx_ic_gtT (tgt := 19) C dX10_told_7 (by decide) (by decide) ?_
  refine jx_iload_n C dX10_told_19 rfl ?_
  refine jx_tableIn (tgt := 92) C dX10_told_20 (by decide) (by decide) (off := 72) rfl (by decide) ?_
  refine jx_aload_n C dX10_told_92 rfl ?_
  refine jx_get C fl_10_33_9 dX10_told_93 (by decide) gg_0 rfl ?_
  refine jx_one C (jr_V C (c_2_count) vw_10_152 (by decide) gg_49 rfl rfl ⟨Nat.le_of_ble_eq_true rfl, Nat.le_of_ble_eq_true rfl⟩ ⟨Nat.le_of_ble_eq_true rfl, Nat.le_of_ble_eq_true rfl⟩ dX10_told_96 rfl (Nat.le_of_ble_eq_true rfl)) ?_
  exact jx_iret C dX10_told_99 ⟨rfl, rfl, rfl, rfl⟩
set_option maxRecDepth 100000 in
set_option maxHeartbeats 4000000 in
theorem c_10_told8 {l : Launch} {D : va_G} {K : Nat → ClassId} {A : Nat → Nat} {I : TI} {U : TU} {P : TP}  : MM l yX10_told cX10_told 2 (some .int) 5 D K A (I) (U) (P) [.ref (A 0), .int 8] (XE (some (.int (I 0 6))) (I) (U) (P)) := by
  refine MM.go (own := RX10) (lv0 := [some (.ref (A 0)), some (.int 8)]) rfl (by decide) rfl (Nat.le_of_ble_eq_true rfl) rfl ?_
  intro p e s m args below meth c C
  refine jx_iload_n C dX10_told_0 rfl ?_
  refine jx_iconst (v := 1) C dX10_told_1 (by decide) ?_
  refine jx_ic_ltF (tgt := 19) C dX10_told_2 (by decide) (by decide) ?_
  refine jx_iload_n C dX10_told_5 rfl ?_
  refine jx_iconst (v := 5) C dX10_told_6 (by decide) ?_
  refine jx_ic_gtT (tgt := 19) C dX10_told_7 (by decide) (by decide) ?_
  refine jx_iload_n C dX10_told_19 rfl ?_
  refine jx_tableIn (tgt := 100) C dX10_told_20 (by decide) (by decide) (off := 80) rfl (by decide) ?_
  refine jx_aload_n C dX10_told_100 rfl ?_
  refine jx_get C fl_10_48_9 dX10_told_101 (by decide) gg_0 rfl ?_
  exact jx_iret C dX10_told_104 ⟨rfl, rfl, rfl, rfl⟩
set_option maxRecDepth 100000 in
set_option maxHeartbeats 4000000 in
theorem c_10_told9 {l : Launch} {D : va_G} {K : Nat → ClassId} {A : Nat → Nat} {I : TI} {U : TU} {P : TP}  : MM l yX10_told cX10_told 2 (some .int) 5 D K A (I) (U) (P) [.ref (A 0), .int 9] (XE (some (.int (I 0 7))) (I) (U) (P)) := by
  refine MM.go (own := RX10) (lv0 := [some (.ref (A 0)), some (.int 9)]) rfl (by decide) rfl (Nat.le_of_ble_eq_true rfl) rfl ?_
  intro p e s m args below meth c C
  refine jx_iload_n C dX10_told_0 rfl ?_
  refine jx_iconst (v := 1) C dX10_told_1 (by decide) ?_
  refine jx_ic_ltF (tgt := 19) C dX10_told_2 (by decide) (by decide) ?_
  refine jx_iload_n C dX10_told_5 rfl ?_
  refine jx_iconst (v := 5) C dX10_told_6 (by decide) ?_
  refine jx_ic_gtT (tgt := 19) C dX10_told_7 (by decide) (by decide) ?_
  refine jx_iload_n C dX10_told_19 rfl ?_
  refine jx_tableIn (tgt := 105) C dX10_told_20 (by decide) (by decide) (off := 85) rfl (by decide) ?_
  refine jx_aload_n C dX10_told_105 rfl ?_
  refine jx_get C fl_10_51_9 dX10_told_106 (by decide) gg_0 rfl ?_
  exact jx_iret C dX10_told_109 ⟨rfl, rfl, rfl, rfl⟩
set_option maxRecDepth 100000 in
set_option maxHeartbeats 4000000 in
theorem c_10_toldL {l : Launch} {D : va_G} {K : Nat → ClassId} {A : Nat → Nat} {I : TI} {U : TU} {P : TP} {v : Int32} (h : v < 1) (h0 : v.toInt < 0) : MM l yX10_told cX10_told 2 (some .int) 5 D K A (I) (U) (P) [.ref (A 0), .int v] (XE (some (.int ((-2147483648)))) (I) (U) (P)) := by
  refine MM.go (own := RX10) (lv0 := [some (.ref (A 0)), some (.int v)]) rfl (by decide) rfl (Nat.le_of_ble_eq_true rfl) rfl ?_
  intro p e s m args below meth c C
  refine jx_iload_n C dX10_told_0 rfl ?_
  refine jx_iconst (v := 1) C dX10_told_1 (by decide) ?_
  refine jx_ic_ltT (tgt := 19) C dX10_told_2 (by decide) h ?_
  refine jx_iload_n C dX10_told_19 rfl ?_
  refine jx_tableOut (tgt := 110) C dX10_told_20 (Or.inl h0) (by decide) ?_
  refine jx_ldc C dX10_told_110 qw_215 ?_
  exact jx_iret C dX10_told_112 ⟨rfl, rfl, rfl, rfl⟩
set_option maxRecDepth 100000 in
set_option maxHeartbeats 4000000 in
theorem c_10_toldH {l : Launch} {D : va_G} {K : Nat → ClassId} {A : Nat → Nat} {I : TI} {U : TU} {P : TP} {v : Int32} (h : ¬ v < 1) (h5 : 5 < v) (h0 : 9 < v.toInt) : MM l yX10_told cX10_told 2 (some .int) 5 D K A (I) (U) (P) [.ref (A 0), .int v] (XE (some (.int ((-2147483648)))) (I) (U) (P)) := by
  refine MM.go (own := RX10) (lv0 := [some (.ref (A 0)), some (.int v)]) rfl (by decide) rfl (Nat.le_of_ble_eq_true rfl) rfl ?_
  intro p e s m args below meth c C
  refine jx_iload_n C dX10_told_0 rfl ?_
  refine jx_iconst (v := 1) C dX10_told_1 (by decide) ?_
  refine jx_ic_ltF (tgt := 19) C dX10_told_2 h (by decide) ?_
  refine jx_iload_n C dX10_told_5 rfl ?_
  refine jx_iconst (v := 5) C dX10_told_6 (by decide) ?_
  refine jx_ic_gtT (tgt := 19) C dX10_told_7 (by decide) h5 ?_
  refine jx_iload_n C dX10_told_19 rfl ?_
  refine jx_tableOut (tgt := 110) C dX10_told_20 (Or.inr h0) (by decide) ?_
  refine jx_ldc C dX10_told_110 qw_215 ?_
  exact jx_iret C dX10_told_112 ⟨rfl, rfl, rfl, rfl⟩
end

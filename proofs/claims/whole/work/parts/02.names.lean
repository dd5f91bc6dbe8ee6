/-! ===== BEGIN words of one list among another's, by their places ===== -/
theorem goodIn_r {big : List Cond} (ws : List Cond) (ps : List Nat) (hp : ws = ps.filterMap (fun i => big[i]?)) (h : ws.all goodWord = true) : GoodIn big ws := by
  intro w hw
  have h1 := List.all_eq_true.mp h w hw
  rw [hp] at hw
  obtain ⟨i, -, hi⟩ := List.mem_filterMap.mp hw
  have hm : w ∈ big := by first | exact List.mem_of_getElem? hi | exact List.getElem?_mem hi
  exact ⟨hm, good_of_word h1⟩
theorem goodIn_app {big a b : List Cond} (ha : GoodIn big a) (hb : GoodIn big b) : GoodIn big (a ++ b) := fun w h => (List.mem_append.mp h).elim (ha w) (hb w)
theorem goodIn_ca {big a b : List Cond} {c : Cond} (ha : GoodIn big (c :: a)) (hb : GoodIn big b) : GoodIn big (c :: (a ++ b)) := fun w h => (List.mem_cons.mp h).elim (fun e => ha w (List.mem_cons.mpr (Or.inl e))) (fun h => (List.mem_append.mp h).elim (fun h => ha w (List.mem_cons.mpr (Or.inr h))) (hb w))
theorem goodIn_sub {big ws : List Cond} (hm : ∀ w ∈ ws, w ∈ big) (h : ws.all goodWord = true) : GoodIn big ws := fun w hw => ⟨hm w hw, good_of_word (List.all_eq_true.mp h w hw)⟩
/-! ===== END ===== -/
def RX0 : String := "HandLoom$Card"
def TX0 : u_T := fun k => match k with
  | 0 => ("HandLoom$Card", "kind", "I", false)
  | 1 => ("HandLoom$Card", "frame", "I", false)
  | 2 => ("HandLoom$Card", "sort", "I", false)
  | 3 => ("HandLoom$Card", "end", "I", false)
  | _ => ("HandLoom$Card", "v", "I", false)
def tyX0 : Nat → FieldType := fun k => match k with
  | 0 => .int
  | 1 => .int
  | 2 => .int
  | 3 => .int
  | _ => .int
abbrev wsX00 : List Cond := u_ws RX0 TX0 5
theorem nmX0 : ∀ a, a < 5 → ∀ b, b < 5 → a ≠ b → (TX0 a).2.1 ≠ (TX0 b).2.1 := by decide +kernel
theorem tyX0_ok : ∀ k, k < 5 → parseFieldDescriptor (TX0 k).2.2.1 = some (tyX0 k) := by decide +kernel
abbrev cX0_init : ByteArray := prog_2_method_1_code
def yX0_init : MethodName := ⟨RX0, "<init>", "()V"⟩
def RX1 : String := "HandLoom$Cloth"
def TX1 : u_T := fun k => match k with
  | 0 => ("HandLoom$Cloth", "cells", "[I", true)
  | 1 => ("HandLoom$Cloth", "rows", "[I", true)
  | 2 => ("HandLoom$Cloth", "there", "Z", false)
  | 3 => ("HandLoom$Cloth", "picks", "I", false)
  | _ => ("HandLoom$Cloth", "width", "I", false)
def tyX1 : Nat → FieldType := fun k => match k with
  | 0 => .array .int
  | 1 => .array .int
  | 2 => .boolean
  | 3 => .int
  | _ => .int
abbrev wsX10 : List Cond := u_ws RX1 TX1 5
theorem nmX1 : ∀ a, a < 5 → ∀ b, b < 5 → a ≠ b → (TX1 a).2.1 ≠ (TX1 b).2.1 := by decide +kernel
theorem tyX1_ok : ∀ k, k < 5 → parseFieldDescriptor (TX1 k).2.2.1 = some (tyX1 k) := by decide +kernel
abbrev cX1_init : ByteArray := prog_3_method_1_code
def yX1_init : MethodName := ⟨RX1, "<init>", "()V"⟩
abbrev cX1_width : ByteArray := prog_3_method_2_code
def yX1_width : MethodName := ⟨RX1, "width", "()I"⟩
abbrev cX1_renew : ByteArray := prog_3_method_3_code
def yX1_renew : MethodName := ⟨RX1, "renew", "(II)V"⟩
abbrev cX1_isPlace : ByteArray := prog_3_method_4_code
def yX1_isPlace : MethodName := ⟨RX1, "isPlace", "(I)Z"⟩
abbrev cX1_placeFault : ByteArray := prog_3_method_5_code
def yX1_placeFault : MethodName := ⟨RX1, "placeFault", "(I)I"⟩
abbrev cX1_pickFault : ByteArray := prog_3_method_6_code
def yX1_pickFault : MethodName := ⟨RX1, "pickFault", "(I)I"⟩
abbrev cX1_hasPick : ByteArray := prog_3_method_7_code
def yX1_hasPick : MethodName := ⟨RX1, "hasPick", "(I)Z"⟩
abbrev cX1_hasCell : ByteArray := prog_3_method_8_code
def yX1_hasCell : MethodName := ⟨RX1, "hasCell", "(I)Z"⟩
abbrev cX1_drop : ByteArray := prog_3_method_9_code
def yX1_drop : MethodName := ⟨RX1, "drop", "(I)V"⟩
abbrev cX1_join : ByteArray := prog_3_method_10_code
def yX1_join : MethodName := ⟨RX1, "join", "(II)V"⟩
abbrev cX1_get : ByteArray := prog_3_method_11_code
def yX1_get : MethodName := ⟨RX1, "get", "(II)I"⟩
abbrev cX1_set : ByteArray := prog_3_method_12_code
def yX1_set : MethodName := ⟨RX1, "set", "(III)V"⟩
def RX2 : String := "HandLoom$Deck"
def TX2 : u_T := fun k => match k with
  | 0 => ("HandLoom$Deck", "cards", "[LHandLoom$Card;", true)
  | _ => ("HandLoom$Deck", "count", "I", false)
def tyX2 : Nat → FieldType := fun k => match k with
  | 0 => .array (.object "HandLoom$Card")
  | _ => .int
abbrev wsX20 : List Cond := u_ws RX2 TX2 2
theorem nmX2 : ∀ a, a < 2 → ∀ b, b < 2 → a ≠ b → (TX2 a).2.1 ≠ (TX2 b).2.1 := by decide +kernel
theorem tyX2_ok : ∀ k, k < 2 → parseFieldDescriptor (TX2 k).2.2.1 = some (tyX2 k) := by decide +kernel
abbrev cX2_init : ByteArray := prog_4_method_1_code
def yX2_init : MethodName := ⟨RX2, "<init>", "()V"⟩
abbrev cX2_count : ByteArray := prog_4_method_2_code
def yX2_count : MethodName := ⟨RX2, "count", "()I"⟩
abbrev cX2_isFull : ByteArray := prog_4_method_3_code
def yX2_isFull : MethodName := ⟨RX2, "isFull", "()Z"⟩
abbrev cX2_clear : ByteArray := prog_4_method_4_code
def yX2_clear : MethodName := ⟨RX2, "clear", "()V"⟩
abbrev cX2_add : ByteArray := prog_4_method_5_code
def yX2_add : MethodName := ⟨RX2, "add", "(IIIII)V"⟩
abbrev cX2_at : ByteArray := prog_4_method_6_code
def yX2_at : MethodName := ⟨RX2, "at", "(I)LHandLoom$Card;"⟩
def RX3 : String := "HandLoom$Lane"
def TX3 : u_T := fun k => match k with
  | _ => ("", "", "", false)
def tyX3 : Nat → FieldType := fun k => match k with
  | _ => .int
abbrev wsX30 : List Cond := u_ws RX3 TX3 0
theorem nmX3 : ∀ a, a < 0 → ∀ b, b < 0 → a ≠ b → (TX3 a).2.1 ≠ (TX3 b).2.1 := by decide +kernel
theorem tyX3_ok : ∀ k, k < 0 → parseFieldDescriptor (TX3 k).2.2.1 = some (tyX3 k) := by decide +kernel
abbrev cX3_init : ByteArray := prog_5_method_1_code
def yX3_init : MethodName := ⟨RX3, "<init>", "()V"⟩
abbrev cX3_count : ByteArray := prog_5_method_2_code
def yX3_count : MethodName := ⟨RX3, "count", "()I"⟩
abbrev cX3_has : ByteArray := prog_5_method_3_code
def yX3_has : MethodName := ⟨RX3, "has", "(I)Z"⟩
abbrev cX3_restretch : ByteArray := prog_5_method_4_code
def yX3_restretch : MethodName := ⟨RX3, "restretch", "(I)V"⟩
def RX4 : String := "HandLoom$Ledger"
def TX4 : u_T := fun k => match k with
  | 0 => ("HandLoom$Ledger", "counts", "[I", true)
  | _ => ("HandLoom$Ledger", "latest", "I", false)
def tyX4 : Nat → FieldType := fun k => match k with
  | 0 => .array .int
  | _ => .int
abbrev wsX40 : List Cond := u_ws RX4 TX4 2
theorem nmX4 : ∀ a, a < 2 → ∀ b, b < 2 → a ≠ b → (TX4 a).2.1 ≠ (TX4 b).2.1 := by decide +kernel
theorem tyX4_ok : ∀ k, k < 2 → parseFieldDescriptor (TX4 k).2.2.1 = some (tyX4 k) := by decide +kernel
abbrev cX4_init : ByteArray := prog_6_method_1_code
def yX4_init : MethodName := ⟨RX4, "<init>", "()V"⟩
abbrev cX4_begin : ByteArray := prog_6_method_2_code
def yX4_begin : MethodName := ⟨RX4, "begin", "()V"⟩
abbrev cX4_tell : ByteArray := prog_6_method_3_code
def yX4_tell : MethodName := ⟨RX4, "tell", "(I)I"⟩
abbrev cX4_latest : ByteArray := prog_6_method_4_code
def yX4_latest : MethodName := ⟨RX4, "latest", "()I"⟩
abbrev cX4_countOf : ByteArray := prog_6_method_5_code
def yX4_countOf : MethodName := ⟨RX4, "countOf", "(I)I"⟩
def RX5 : String := "HandLoom$LiftLane"
def TX5 : u_T := fun k => match k with
  | 0 => ("HandLoom$Lane", "count", "I", false)
  | _ => ("HandLoom$LiftLane", "up", "[Z", true)
def tyX5 : Nat → FieldType := fun k => match k with
  | 0 => .int
  | _ => .array .boolean
abbrev wsX50 : List Cond := u_ws RX5 TX5 2
theorem nmX5 : ∀ a, a < 2 → ∀ b, b < 2 → a ≠ b → (TX5 a).2.1 ≠ (TX5 b).2.1 := by decide +kernel
theorem tyX5_ok : ∀ k, k < 2 → parseFieldDescriptor (TX5 k).2.2.1 = some (tyX5 k) := by decide +kernel
abbrev cX5_init : ByteArray := prog_7_method_1_code
def yX5_init : MethodName := ⟨RX5, "<init>", "()V"⟩
abbrev cX5_isOdd : ByteArray := prog_7_method_2_code
def yX5_isOdd : MethodName := ⟨RX5, "isOdd", "(I)Z"⟩
abbrev cX5_reset : ByteArray := prog_7_method_3_code
def yX5_reset : MethodName := ⟨RX5, "reset", "(I)V"⟩
abbrev cX5_tells : ByteArray := prog_7_method_4_code
def yX5_tells : MethodName := ⟨RX5, "tells", "(I)I"⟩
abbrev cX5_lay : ByteArray := prog_7_method_5_code
def yX5_lay : MethodName := ⟨RX5, "lay", "(II)V"⟩
abbrev cX5_pull : ByteArray := prog_7_method_6_code
def yX5_pull : MethodName := ⟨RX5, "pull", "(II)V"⟩
abbrev cX5_turn : ByteArray := prog_7_method_7_code
def yX5_turn : MethodName := ⟨RX5, "turn", "(I)V"⟩
abbrev cX5_part : ByteArray := prog_7_method_8_code
def yX5_part : MethodName := ⟨RX5, "part", "(II)Z"⟩
abbrev cX5_exchange : ByteArray := prog_7_method_9_code
def yX5_exchange : MethodName := ⟨RX5, "exchange", "(II)V"⟩
def RX6 : String := "HandLoom$Spool"
def TX6 : u_T := fun k => match k with
  | 0 => ("HandLoom$Spool", "ring", "[I", true)
  | 1 => ("HandLoom$Spool", "first", "I", false)
  | _ => ("HandLoom$Spool", "count", "I", false)
def tyX6 : Nat → FieldType := fun k => match k with
  | 0 => .array .int
  | 1 => .int
  | _ => .int
abbrev wsX60 : List Cond := u_ws RX6 TX6 3
theorem nmX6 : ∀ a, a < 3 → ∀ b, b < 3 → a ≠ b → (TX6 a).2.1 ≠ (TX6 b).2.1 := by decide +kernel
theorem tyX6_ok : ∀ k, k < 3 → parseFieldDescriptor (TX6 k).2.2.1 = some (tyX6 k) := by decide +kernel
abbrev cX6_init : ByteArray := prog_8_method_1_code
def yX6_init : MethodName := ⟨RX6, "<init>", "()V"⟩
abbrev cX6_count : ByteArray := prog_8_method_2_code
def yX6_count : MethodName := ⟨RX6, "count", "()I"⟩
abbrev cX6_isEmpty : ByteArray := prog_8_method_3_code
def yX6_isEmpty : MethodName := ⟨RX6, "isEmpty", "()Z"⟩
abbrev cX6_isFull : ByteArray := prog_8_method_4_code
def yX6_isFull : MethodName := ⟨RX6, "isFull", "()Z"⟩
abbrev cX6_wind : ByteArray := prog_8_method_5_code
def yX6_wind : MethodName := ⟨RX6, "wind", "(I)V"⟩
abbrev cX6_draw : ByteArray := prog_8_method_6_code
def yX6_draw : MethodName := ⟨RX6, "draw", "()I"⟩
def RX7 : String := "HandLoom$TensionLane"
def TX7 : u_T := fun k => match k with
  | 0 => ("HandLoom$Lane", "count", "I", false)
  | _ => ("HandLoom$TensionLane", "values", "[F", true)
def tyX7 : Nat → FieldType := fun k => match k with
  | 0 => .int
  | _ => .array .float
abbrev wsX70 : List Cond := u_ws RX7 TX7 2
theorem nmX7 : ∀ a, a < 2 → ∀ b, b < 2 → a ≠ b → (TX7 a).2.1 ≠ (TX7 b).2.1 := by decide +kernel
theorem tyX7_ok : ∀ k, k < 2 → parseFieldDescriptor (TX7 k).2.2.1 = some (tyX7 k) := by decide +kernel
abbrev cX7_init : ByteArray := prog_9_method_1_code
def yX7_init : MethodName := ⟨RX7, "<init>", "()V"⟩
abbrev cX7_hold : ByteArray := prog_9_method_2_code
def yX7_hold : MethodName := ⟨RX7, "hold", "(F)F"⟩
abbrev cX7_eighths : ByteArray := prog_9_method_3_code
def yX7_eighths : MethodName := ⟨RX7, "eighths", "(I)F"⟩
abbrev cX7_reset : ByteArray := prog_9_method_4_code
def yX7_reset : MethodName := ⟨RX7, "reset", "(I)V"⟩
abbrev cX7_tells : ByteArray := prog_9_method_5_code
def yX7_tells : MethodName := ⟨RX7, "tells", "(I)I"⟩
abbrev cX7_lay : ByteArray := prog_9_method_6_code
def yX7_lay : MethodName := ⟨RX7, "lay", "(II)V"⟩
abbrev cX7_pull : ByteArray := prog_9_method_7_code
def yX7_pull : MethodName := ⟨RX7, "pull", "(II)V"⟩
abbrev cX7_turn : ByteArray := prog_9_method_8_code
def yX7_turn : MethodName := ⟨RX7, "turn", "(I)V"⟩
abbrev cX7_part : ByteArray := prog_9_method_9_code
def yX7_part : MethodName := ⟨RX7, "part", "(II)Z"⟩
abbrev cX7_exchange : ByteArray := prog_9_method_10_code
def yX7_exchange : MethodName := ⟨RX7, "exchange", "(II)V"⟩
def RX8 : String := "HandLoom$Warp"
def TX8 : u_T := fun k => match k with
  | 0 => ("HandLoom$Warp", "store", "[LHandLoom$Lane;", true)
  | _ => ("HandLoom$Warp", "lanes", "[LHandLoom$Lane;", true)
def tyX8 : Nat → FieldType := fun k => match k with
  | 0 => .array (.object "HandLoom$Lane")
  | _ => .array (.object "HandLoom$Lane")
abbrev wsX80 : List Cond := u_ws RX8 TX8 2
theorem nmX8 : ∀ a, a < 2 → ∀ b, b < 2 → a ≠ b → (TX8 a).2.1 ≠ (TX8 b).2.1 := by decide +kernel
theorem tyX8_ok : ∀ k, k < 2 → parseFieldDescriptor (TX8 k).2.2.1 = some (tyX8 k) := by decide +kernel
abbrev cX8_init : ByteArray := prog_10_method_1_code
def yX8_init : MethodName := ⟨RX8, "<init>", "()V"⟩
abbrev cX8_newLane : ByteArray := prog_10_method_2_code
def yX8_newLane : MethodName := ⟨RX8, "newLane", "(I)LHandLoom$Lane;"⟩
abbrev cX8_isFrame : ByteArray := prog_10_method_3_code
def yX8_isFrame : MethodName := ⟨RX8, "isFrame", "(I)Z"⟩
abbrev cX8_isLane : ByteArray := prog_10_method_4_code
def yX8_isLane : MethodName := ⟨RX8, "isLane", "(II)Z"⟩
abbrev cX8_place : ByteArray := prog_10_method_5_code
def yX8_place : MethodName := ⟨RX8, "place", "(II)I"⟩
abbrev cX8_laneAt : ByteArray := prog_10_method_6_code
def yX8_laneAt : MethodName := ⟨RX8, "laneAt", "(II)LHandLoom$Lane;"⟩
abbrev cX8_loosen : ByteArray := prog_10_method_7_code
def yX8_loosen : MethodName := ⟨RX8, "loosen", "(II)V"⟩
abbrev cX8_join : ByteArray := prog_10_method_8_code
def yX8_join : MethodName := ⟨RX8, "join", "(III)V"⟩
abbrev cX8_stretch : ByteArray := prog_10_method_9_code
def yX8_stretch : MethodName := ⟨RX8, "stretch", "(III)V"⟩
abbrev cX8_spareLane : ByteArray := prog_10_method_10_code
def yX8_spareLane : MethodName := ⟨RX8, "spareLane", "(I)LHandLoom$Lane;"⟩
abbrev cX8_isHeld : ByteArray := prog_10_method_11_code
def yX8_isHeld : MethodName := ⟨RX8, "isHeld", "(LHandLoom$Lane;I)Z"⟩
def RX9 : String := "HandLoom$WholeLane"
def TX9 : u_T := fun k => match k with
  | 0 => ("HandLoom$Lane", "count", "I", false)
  | 1 => ("HandLoom$WholeLane", "sort", "I", true)
  | _ => ("HandLoom$WholeLane", "values", "[I", true)
def tyX9 : Nat → FieldType := fun k => match k with
  | 0 => .int
  | 1 => .int
  | _ => .array .int
abbrev wsX90 : List Cond := u_ws RX9 TX9 3
theorem nmX9 : ∀ a, a < 3 → ∀ b, b < 3 → a ≠ b → (TX9 a).2.1 ≠ (TX9 b).2.1 := by decide +kernel
theorem tyX9_ok : ∀ k, k < 3 → parseFieldDescriptor (TX9 k).2.2.1 = some (tyX9 k) := by decide +kernel
abbrev cX9_init : ByteArray := prog_11_method_1_code
def yX9_init : MethodName := ⟨RX9, "<init>", "(I)V"⟩
abbrev cX9_fit : ByteArray := prog_11_method_2_code
def yX9_fit : MethodName := ⟨RX9, "fit", "(I)I"⟩
abbrev cX9_reset : ByteArray := prog_11_method_3_code
def yX9_reset : MethodName := ⟨RX9, "reset", "(I)V"⟩
abbrev cX9_tells : ByteArray := prog_11_method_4_code
def yX9_tells : MethodName := ⟨RX9, "tells", "(I)I"⟩
abbrev cX9_lay : ByteArray := prog_11_method_5_code
def yX9_lay : MethodName := ⟨RX9, "lay", "(II)V"⟩
abbrev cX9_pull : ByteArray := prog_11_method_6_code
def yX9_pull : MethodName := ⟨RX9, "pull", "(II)V"⟩
abbrev cX9_turn : ByteArray := prog_11_method_7_code
def yX9_turn : MethodName := ⟨RX9, "turn", "(I)V"⟩
abbrev cX9_part : ByteArray := prog_11_method_8_code
def yX9_part : MethodName := ⟨RX9, "part", "(II)Z"⟩
abbrev cX9_exchange : ByteArray := prog_11_method_9_code
def yX9_exchange : MethodName := ⟨RX9, "exchange", "(II)V"⟩
def RX10 : String := "HandLoom"
def TX10 : u_T := fun k => match k with
  | 0 => ("HandLoom", "warp", "LHandLoom$Warp;", true)
  | 1 => ("HandLoom", "threads", "LHandLoom$Spool;", true)
  | 2 => ("HandLoom", "fabric", "LHandLoom$Cloth;", true)
  | 3 => ("HandLoom", "deck", "LHandLoom$Deck;", true)
  | 4 => ("HandLoom", "ledger", "LHandLoom$Ledger;", true)
  | 5 => ("HandLoom", "passedOver", "I", false)
  | 6 => ("HandLoom", "runSum", "I", false)
  | _ => ("HandLoom", "wovenToEnd", "I", false)
def tyX10 : Nat → FieldType := fun k => match k with
  | 0 => .object "HandLoom$Warp"
  | 1 => .object "HandLoom$Spool"
  | 2 => .object "HandLoom$Cloth"
  | 3 => .object "HandLoom$Deck"
  | 4 => .object "HandLoom$Ledger"
  | 5 => .int
  | 6 => .int
  | _ => .int
abbrev wsX100 : List Cond := u_ws RX10 TX10 8
theorem nmX10 : ∀ a, a < 8 → ∀ b, b < 8 → a ≠ b → (TX10 a).2.1 ≠ (TX10 b).2.1 := by decide +kernel
theorem tyX10_ok : ∀ k, k < 8 → parseFieldDescriptor (TX10 k).2.2.1 = some (tyX10 k) := by decide +kernel
abbrev cX10_init : ByteArray := prog_1_method_1_code
def yX10_init : MethodName := ⟨RX10, "<init>", "()V"⟩
abbrev cX10_thread : ByteArray := prog_1_method_2_code
def yX10_thread : MethodName := ⟨RX10, "thread", "(III)I"⟩
abbrev cX10_cut : ByteArray := prog_1_method_3_code
def yX10_cut : MethodName := ⟨RX10, "cut", "(II)I"⟩
abbrev cX10_tie : ByteArray := prog_1_method_4_code
def yX10_tie : MethodName := ⟨RX10, "tie", "(III)I"⟩
abbrev cX10_ends : ByteArray := prog_1_method_5_code
def yX10_ends : MethodName := ⟨RX10, "ends", "(II)I"⟩
abbrev cX10_spool : ByteArray := prog_1_method_6_code
def yX10_spool : MethodName := ⟨RX10, "spool", "(I)I"⟩
abbrev cX10_act : ByteArray := prog_1_method_7_code
def yX10_act : MethodName := ⟨RX10, "act", "(IIIII)I"⟩
abbrev cX10_swap : ByteArray := prog_1_method_8_code
def yX10_swap : MethodName := ⟨RX10, "swap", "(IIII)I"⟩
abbrev cX10_cloth : ByteArray := prog_1_method_9_code
def yX10_cloth : MethodName := ⟨RX10, "cloth", "(II)I"⟩
abbrev cX10_snip : ByteArray := prog_1_method_10_code
def yX10_snip : MethodName := ⟨RX10, "snip", "(I)I"⟩
abbrev cX10_hang : ByteArray := prog_1_method_11_code
def yX10_hang : MethodName := ⟨RX10, "hang", "(II)I"⟩
abbrev cX10_cell : ByteArray := prog_1_method_12_code
def yX10_cell : MethodName := ⟨RX10, "cell", "(II)I"⟩
abbrev cX10_weave : ByteArray := prog_1_method_13_code
def yX10_weave : MethodName := ⟨RX10, "weave", "(III)I"⟩
abbrev cX10_card : ByteArray := prog_1_method_14_code
def yX10_card : MethodName := ⟨RX10, "card", "(IIIII)I"⟩
abbrev cX10_unhook : ByteArray := prog_1_method_15_code
def yX10_unhook : MethodName := ⟨RX10, "unhook", "()I"⟩
abbrev cX10_keeper : ByteArray := prog_1_method_16_code
def yX10_keeper : MethodName := ⟨RX10, "keeper", "(I)Z"⟩
abbrev cX10_run : ByteArray := prog_1_method_17_code
def yX10_run : MethodName := ⟨RX10, "run", "(I)I"⟩
abbrev cX10_told : ByteArray := prog_1_method_18_code
def yX10_told : MethodName := ⟨RX10, "told", "(I)I"⟩
abbrev cX10_isAct : ByteArray := prog_1_method_19_code
def yX10_isAct : MethodName := ⟨RX10, "isAct", "(I)Z"⟩
abbrev cX10_isEndedBy : ByteArray := prog_1_method_20_code
def yX10_isEndedBy : MethodName := ⟨RX10, "isEndedBy", "(I)Z"⟩
abbrev cX10_work : ByteArray := prog_1_method_21_code
def yX10_work : MethodName := ⟨RX10, "work", "(ILHandLoom$Lane;II)I"⟩
abbrev cX10_change : ByteArray := prog_1_method_22_code
def yX10_change : MethodName := ⟨RX10, "change", "(ILHandLoom$Lane;II)I"⟩
abbrev cX10_weaveCell : ByteArray := prog_1_method_23_code
def yX10_weaveCell : MethodName := ⟨RX10, "weaveCell", "(IIII)I"⟩
abbrev cX10_faultAtEnd : ByteArray := prog_1_method_24_code
def yX10_faultAtEnd : MethodName := ⟨RX10, "faultAtEnd", "(LHandLoom$Lane;)I"⟩
def RX11 : String := "HandLoomModel"
def TX11 : u_T := fun k => match k with
  | 0 => ("HandLoomModel", "rowOf", "[I", true)
  | 1 => ("HandLoomModel", "ends", "[I", true)
  | 2 => ("HandLoomModel", "has", "[I", true)
  | 3 => ("HandLoomModel", "pulls", "[F", true)
  | 4 => ("HandLoomModel", "thread", "[I", true)
  | 5 => ("HandLoomModel", "threads", "I", false)
  | 6 => ("HandLoomModel", "isCloth", "Z", false)
  | 7 => ("HandLoomModel", "picks", "I", false)
  | 8 => ("HandLoomModel", "wide", "I", false)
  | 9 => ("HandLoomModel", "pickOf", "[I", true)
  | 10 => ("HandLoomModel", "cells", "[I", true)
  | 11 => ("HandLoomModel", "card", "[I", true)
  | 12 => ("HandLoomModel", "cards", "I", false)
  | 13 => ("HandLoomModel", "passed", "I", false)
  | 14 => ("HandLoomModel", "fault", "I", false)
  | 15 => ("HandLoomModel", "faults", "[I", true)
  | 16 => ("HandLoomModel", "sum", "I", false)
  | _ => ("HandLoomModel", "woven", "I", false)
def tyX11 : Nat → FieldType := fun k => match k with
  | 0 => .array .int
  | 1 => .array .int
  | 2 => .array .int
  | 3 => .array .float
  | 4 => .array .int
  | 5 => .int
  | 6 => .boolean
  | 7 => .int
  | 8 => .int
  | 9 => .array .int
  | 10 => .array .int
  | 11 => .array .int
  | 12 => .int
  | 13 => .int
  | 14 => .int
  | 15 => .array .int
  | 16 => .int
  | _ => .int
abbrev wsX110 : List Cond := u_ws RX11 TX11 18
theorem nmX11 : ∀ a, a < 18 → ∀ b, b < 18 → a ≠ b → (TX11 a).2.1 ≠ (TX11 b).2.1 := by decide +kernel
theorem tyX11_ok : ∀ k, k < 18 → parseFieldDescriptor (TX11 k).2.2.1 = some (tyX11 k) := by decide +kernel
abbrev cX11_init : ByteArray := prog_13_method_1_code
def yX11_init : MethodName := ⟨RX11, "<init>", "()V"⟩
abbrev cX11_isFrame : ByteArray := prog_13_method_2_code
def yX11_isFrame : MethodName := ⟨RX11, "isFrame", "(I)Z"⟩
abbrev cX11_isLane : ByteArray := prog_13_method_3_code
def yX11_isLane : MethodName := ⟨RX11, "isLane", "(II)Z"⟩
abbrev cX11_bad : ByteArray := prog_13_method_4_code
def yX11_bad : MethodName := ⟨RX11, "bad", "(I)I"⟩
abbrev cX11_good : ByteArray := prog_13_method_5_code
def yX11_good : MethodName := ⟨RX11, "good", "(I)I"⟩
abbrev cX11_wrong : ByteArray := prog_13_method_6_code
def yX11_wrong : MethodName := ⟨RX11, "wrong", "(II)I"⟩
abbrev cX11_thread : ByteArray := prog_13_method_7_code
def yX11_thread : MethodName := ⟨RX11, "thread", "(III)I"⟩
abbrev cX11_isUsed : ByteArray := prog_13_method_8_code
def yX11_isUsed : MethodName := ⟨RX11, "isUsed", "(I)Z"⟩
abbrev cX11_cut : ByteArray := prog_13_method_9_code
def yX11_cut : MethodName := ⟨RX11, "cut", "(II)I"⟩
abbrev cX11_tie : ByteArray := prog_13_method_10_code
def yX11_tie : MethodName := ⟨RX11, "tie", "(III)I"⟩
abbrev cX11_ends : ByteArray := prog_13_method_11_code
def yX11_ends : MethodName := ⟨RX11, "ends", "(II)I"⟩
abbrev cX11_spool : ByteArray := prog_13_method_12_code
def yX11_spool : MethodName := ⟨RX11, "spool", "(I)I"⟩
abbrev cX11_drawn : ByteArray := prog_13_method_13_code
def yX11_drawn : MethodName := ⟨RX11, "drawn", "()I"⟩
abbrev cX11_cutTo : ByteArray := prog_13_method_14_code
def yX11_cutTo : MethodName := ⟨RX11, "cutTo", "(II)I"⟩
abbrev cX11_held : ByteArray := prog_13_method_15_code
def yX11_held : MethodName := ⟨RX11, "held", "(F)F"⟩
abbrev cX11_eighths : ByteArray := prog_13_method_16_code
def yX11_eighths : MethodName := ⟨RX11, "eighths", "(I)F"⟩
abbrev cX11_tells : ByteArray := prog_13_method_17_code
def yX11_tells : MethodName := ⟨RX11, "tells", "(II)I"⟩
abbrev cX11_lay : ByteArray := prog_13_method_18_code
def yX11_lay : MethodName := ⟨RX11, "lay", "(III)V"⟩
abbrev cX11_pull : ByteArray := prog_13_method_19_code
def yX11_pull : MethodName := ⟨RX11, "pull", "(III)V"⟩
abbrev cX11_part : ByteArray := prog_13_method_20_code
def yX11_part : MethodName := ⟨RX11, "part", "(III)V"⟩
abbrev cX11_done : ByteArray := prog_13_method_21_code
def yX11_done : MethodName := ⟨RX11, "done", "(IIIII)I"⟩
abbrev cX11_act : ByteArray := prog_13_method_22_code
def yX11_act : MethodName := ⟨RX11, "act", "(IIIII)I"⟩
abbrev cX11_swap : ByteArray := prog_13_method_23_code
def yX11_swap : MethodName := ⟨RX11, "swap", "(IIII)I"⟩
abbrev cX11_cloth : ByteArray := prog_13_method_24_code
def yX11_cloth : MethodName := ⟨RX11, "cloth", "(II)I"⟩
abbrev cX11_wrongPick : ByteArray := prog_13_method_25_code
def yX11_wrongPick : MethodName := ⟨RX11, "wrongPick", "(I)I"⟩
abbrev cX11_goneOrWrong : ByteArray := prog_13_method_26_code
def yX11_goneOrWrong : MethodName := ⟨RX11, "goneOrWrong", "(I)I"⟩
abbrev cX11_snip : ByteArray := prog_13_method_27_code
def yX11_snip : MethodName := ⟨RX11, "snip", "(I)I"⟩
abbrev cX11_hang : ByteArray := prog_13_method_28_code
def yX11_hang : MethodName := ⟨RX11, "hang", "(II)I"⟩
abbrev cX11_cell : ByteArray := prog_13_method_29_code
def yX11_cell : MethodName := ⟨RX11, "cell", "(II)I"⟩
abbrev cX11_weave : ByteArray := prog_13_method_30_code
def yX11_weave : MethodName := ⟨RX11, "weave", "(III)I"⟩
abbrev cX11_isUp : ByteArray := prog_13_method_31_code
def yX11_isUp : MethodName := ⟨RX11, "isUp", "(II)Z"⟩
abbrev cX11_card : ByteArray := prog_13_method_32_code
def yX11_card : MethodName := ⟨RX11, "card", "(IIIII)I"⟩
abbrev cX11_unhook : ByteArray := prog_13_method_33_code
def yX11_unhook : MethodName := ⟨RX11, "unhook", "()I"⟩
abbrev cX11_keeper : ByteArray := prog_13_method_34_code
def yX11_keeper : MethodName := ⟨RX11, "keeper", "(I)Z"⟩
abbrev cX11_run : ByteArray := prog_13_method_35_code
def yX11_run : MethodName := ⟨RX11, "run", "(I)I"⟩
abbrev cX11_told : ByteArray := prog_13_method_36_code
def yX11_told : MethodName := ⟨RX11, "told", "(I)I"⟩
def RL : String := "HandLoomLaw"
theorem dX0_init_0 : decode cX0_init 0 = .ok (.aload_n 0, 1) := by decide +kernel
theorem dX0_init_1 : decode cX0_init 1 = .ok (.invokespecial 3, 3) := by decide +kernel
theorem dX0_init_4 : decode cX0_init 4 = .ok (.aload_n 0, 1) := by decide +kernel
theorem dX0_init_5 : decode cX0_init 5 = .ok (.iconst 0, 1) := by decide +kernel
theorem dX0_init_6 : decode cX0_init 6 = .ok (.putfield 9, 3) := by decide +kernel
theorem dX0_init_9 : decode cX0_init 9 = .ok (.aload_n 0, 1) := by decide +kernel
theorem dX0_init_10 : decode cX0_init 10 = .ok (.iconst 0, 1) := by decide +kernel
theorem dX0_init_11 : decode cX0_init 11 = .ok (.putfield 15, 3) := by decide +kernel
theorem dX0_init_14 : decode cX0_init 14 = .ok (.aload_n 0, 1) := by decide +kernel
theorem dX0_init_15 : decode cX0_init 15 = .ok (.iconst 0, 1) := by decide +kernel
theorem dX0_init_16 : decode cX0_init 16 = .ok (.putfield 18, 3) := by decide +kernel
theorem dX0_init_19 : decode cX0_init 19 = .ok (.aload_n 0, 1) := by decide +kernel
theorem dX0_init_20 : decode cX0_init 20 = .ok (.iconst 0, 1) := by decide +kernel
theorem dX0_init_21 : decode cX0_init 21 = .ok (.putfield 21, 3) := by decide +kernel
theorem dX0_init_24 : decode cX0_init 24 = .ok (.aload_n 0, 1) := by decide +kernel
theorem dX0_init_25 : decode cX0_init 25 = .ok (.iconst 0, 1) := by decide +kernel
theorem dX0_init_26 : decode cX0_init 26 = .ok (.putfield 24, 3) := by decide +kernel
theorem dX0_init_29 : decode cX0_init 29 = .ok (.return_, 1) := by decide +kernel
theorem dX1_init_0 : decode cX1_init 0 = .ok (.aload_n 0, 1) := by decide +kernel
theorem dX1_init_1 : decode cX1_init 1 = .ok (.invokespecial 3, 3) := by decide +kernel
theorem dX1_init_4 : decode cX1_init 4 = .ok (.aload_n 0, 1) := by decide +kernel
theorem dX1_init_5 : decode cX1_init 5 = .ok (.sipush 576, 3) := by decide +kernel
theorem dX1_init_8 : decode cX1_init 8 = .ok (.newarray .int, 2) := by decide +kernel
theorem dX1_init_10 : decode cX1_init 10 = .ok (.putfield 9, 3) := by decide +kernel
theorem dX1_init_13 : decode cX1_init 13 = .ok (.aload_n 0, 1) := by decide +kernel
theorem dX1_init_14 : decode cX1_init 14 = .ok (.bipush 24, 2) := by decide +kernel
theorem dX1_init_16 : decode cX1_init 16 = .ok (.newarray .int, 2) := by decide +kernel
theorem dX1_init_18 : decode cX1_init 18 = .ok (.putfield 15, 3) := by decide +kernel
theorem dX1_init_21 : decode cX1_init 21 = .ok (.aload_n 0, 1) := by decide +kernel
theorem dX1_init_22 : decode cX1_init 22 = .ok (.iconst 0, 1) := by decide +kernel
theorem dX1_init_23 : decode cX1_init 23 = .ok (.putfield 18, 3) := by decide +kernel
theorem dX1_init_26 : decode cX1_init 26 = .ok (.aload_n 0, 1) := by decide +kernel
theorem dX1_init_27 : decode cX1_init 27 = .ok (.iconst 0, 1) := by decide +kernel
theorem dX1_init_28 : decode cX1_init 28 = .ok (.putfield 22, 3) := by decide +kernel
theorem dX1_init_31 : decode cX1_init 31 = .ok (.aload_n 0, 1) := by decide +kernel
theorem dX1_init_32 : decode cX1_init 32 = .ok (.iconst 0, 1) := by decide +kernel
theorem dX1_init_33 : decode cX1_init 33 = .ok (.putfield 26, 3) := by decide +kernel
theorem dX1_init_36 : decode cX1_init 36 = .ok (.return_, 1) := by decide +kernel
theorem dX1_width_0 : decode cX1_width 0 = .ok (.aload_n 0, 1) := by decide +kernel
theorem dX1_width_1 : decode cX1_width 1 = .ok (.getfield 26, 3) := by decide +kernel
theorem dX1_width_4 : decode cX1_width 4 = .ok (.ireturn, 1) := by decide +kernel
theorem dX1_renew_0 : decode cX1_renew 0 = .ok (.iload_n 1, 1) := by decide +kernel
theorem dX1_renew_1 : decode cX1_renew 1 = .ok (.ifCond .lt 19, 3) := by decide +kernel
theorem dX1_renew_4 : decode cX1_renew 4 = .ok (.iload_n 1, 1) := by decide +kernel
theorem dX1_renew_5 : decode cX1_renew 5 = .ok (.bipush 24, 2) := by decide +kernel
theorem dX1_renew_7 : decode cX1_renew 7 = .ok (.if_icmp .gt 13, 3) := by decide +kernel
theorem dX1_renew_10 : decode cX1_renew 10 = .ok (.iload_n 2, 1) := by decide +kernel
theorem dX1_renew_11 : decode cX1_renew 11 = .ok (.ifCond .lt 9, 3) := by decide +kernel
theorem dX1_renew_14 : decode cX1_renew 14 = .ok (.iload_n 2, 1) := by decide +kernel
theorem dX1_renew_15 : decode cX1_renew 15 = .ok (.bipush 24, 2) := by decide +kernel
theorem dX1_renew_17 : decode cX1_renew 17 = .ok (.if_icmp .le 4, 3) := by decide +kernel
theorem dX1_renew_20 : decode cX1_renew 20 = .ok (.return_, 1) := by decide +kernel
theorem dX1_renew_21 : decode cX1_renew 21 = .ok (.aload_n 0, 1) := by decide +kernel
theorem dX1_renew_22 : decode cX1_renew 22 = .ok (.iconst 1, 1) := by decide +kernel
theorem dX1_renew_23 : decode cX1_renew 23 = .ok (.putfield 18, 3) := by decide +kernel
theorem dX1_renew_26 : decode cX1_renew 26 = .ok (.aload_n 0, 1) := by decide +kernel
theorem dX1_renew_27 : decode cX1_renew 27 = .ok (.iload_n 1, 1) := by decide +kernel
theorem dX1_renew_28 : decode cX1_renew 28 = .ok (.putfield 22, 3) := by decide +kernel
theorem dX1_renew_31 : decode cX1_renew 31 = .ok (.aload_n 0, 1) := by decide +kernel
theorem dX1_renew_32 : decode cX1_renew 32 = .ok (.iload_n 2, 1) := by decide +kernel
theorem dX1_renew_33 : decode cX1_renew 33 = .ok (.putfield 26, 3) := by decide +kernel
theorem dX1_renew_36 : decode cX1_renew 36 = .ok (.iconst 0, 1) := by decide +kernel
theorem dX1_renew_37 : decode cX1_renew 37 = .ok (.istore_n 3, 1) := by decide +kernel
theorem dX1_renew_38 : decode cX1_renew 38 = .ok (.iload_n 3, 1) := by decide +kernel
theorem dX1_renew_39 : decode cX1_renew 39 = .ok (.iload_n 1, 1) := by decide +kernel
theorem dX1_renew_40 : decode cX1_renew 40 = .ok (.if_icmp .ge 44, 3) := by decide +kernel
theorem dX1_renew_43 : decode cX1_renew 43 = .ok (.aload_n 0, 1) := by decide +kernel
theorem dX1_renew_44 : decode cX1_renew 44 = .ok (.getfield 15, 3) := by decide +kernel
theorem dX1_renew_47 : decode cX1_renew 47 = .ok (.iload_n 3, 1) := by decide +kernel
theorem dX1_renew_48 : decode cX1_renew 48 = .ok (.iload_n 3, 1) := by decide +kernel
theorem dX1_renew_49 : decode cX1_renew 49 = .ok (.iastore, 1) := by decide +kernel
theorem dX1_renew_50 : decode cX1_renew 50 = .ok (.iconst 0, 1) := by decide +kernel
theorem dX1_renew_51 : decode cX1_renew 51 = .ok (.istore 4, 2) := by decide +kernel
theorem dX1_renew_53 : decode cX1_renew 53 = .ok (.iload 4, 2) := by decide +kernel
theorem dX1_renew_55 : decode cX1_renew 55 = .ok (.iload_n 2, 1) := by decide +kernel
theorem dX1_renew_56 : decode cX1_renew 56 = .ok (.if_icmp .ge 22, 3) := by decide +kernel
theorem dX1_renew_59 : decode cX1_renew 59 = .ok (.aload_n 0, 1) := by decide +kernel
theorem dX1_renew_60 : decode cX1_renew 60 = .ok (.getfield 9, 3) := by decide +kernel
theorem dX1_renew_63 : decode cX1_renew 63 = .ok (.iload_n 3, 1) := by decide +kernel
theorem dX1_renew_64 : decode cX1_renew 64 = .ok (.bipush 24, 2) := by decide +kernel
theorem dX1_renew_66 : decode cX1_renew 66 = .ok (.imul, 1) := by decide +kernel
theorem dX1_renew_67 : decode cX1_renew 67 = .ok (.iload 4, 2) := by decide +kernel
theorem dX1_renew_69 : decode cX1_renew 69 = .ok (.iadd, 1) := by decide +kernel
theorem dX1_renew_70 : decode cX1_renew 70 = .ok (.iconst 0, 1) := by decide +kernel
theorem dX1_renew_71 : decode cX1_renew 71 = .ok (.iastore, 1) := by decide +kernel
theorem dX1_renew_72 : decode cX1_renew 72 = .ok (.iinc 4 1, 3) := by decide +kernel
theorem dX1_renew_75 : decode cX1_renew 75 = .ok (.goto (-22), 3) := by decide +kernel
theorem dX1_renew_78 : decode cX1_renew 78 = .ok (.iinc 3 1, 3) := by decide +kernel
theorem dX1_renew_81 : decode cX1_renew 81 = .ok (.goto (-43), 3) := by decide +kernel
theorem dX1_renew_84 : decode cX1_renew 84 = .ok (.return_, 1) := by decide +kernel
theorem dX1_isPlace_0 : decode cX1_isPlace 0 = .ok (.iload_n 1, 1) := by decide +kernel
theorem dX1_isPlace_1 : decode cX1_isPlace 1 = .ok (.ifCond .lt 15, 3) := by decide +kernel
theorem dX1_isPlace_4 : decode cX1_isPlace 4 = .ok (.iload_n 1, 1) := by decide +kernel
theorem dX1_isPlace_5 : decode cX1_isPlace 5 = .ok (.aload_n 0, 1) := by decide +kernel
theorem dX1_isPlace_6 : decode cX1_isPlace 6 = .ok (.getfield 22, 3) := by decide +kernel
theorem dX1_isPlace_9 : decode cX1_isPlace 9 = .ok (.if_icmp .ge 7, 3) := by decide +kernel
theorem dX1_isPlace_12 : decode cX1_isPlace 12 = .ok (.iconst 1, 1) := by decide +kernel
theorem dX1_isPlace_13 : decode cX1_isPlace 13 = .ok (.goto 4, 3) := by decide +kernel
theorem dX1_isPlace_16 : decode cX1_isPlace 16 = .ok (.iconst 0, 1) := by decide +kernel
theorem dX1_isPlace_17 : decode cX1_isPlace 17 = .ok (.ireturn, 1) := by decide +kernel
theorem dX1_placeFault_0 : decode cX1_placeFault 0 = .ok (.aload_n 0, 1) := by decide +kernel
theorem dX1_placeFault_1 : decode cX1_placeFault 1 = .ok (.getfield 18, 3) := by decide +kernel
theorem dX1_placeFault_4 : decode cX1_placeFault 4 = .ok (.ifCond .ne 5, 3) := by decide +kernel
theorem dX1_placeFault_7 : decode cX1_placeFault 7 = .ok (.iconst 1, 1) := by decide +kernel
theorem dX1_placeFault_8 : decode cX1_placeFault 8 = .ok (.ireturn, 1) := by decide +kernel
theorem dX1_placeFault_9 : decode cX1_placeFault 9 = .ok (.aload_n 0, 1) := by decide +kernel
theorem dX1_placeFault_10 : decode cX1_placeFault 10 = .ok (.iload_n 1, 1) := by decide +kernel
theorem dX1_placeFault_11 : decode cX1_placeFault 11 = .ok (.invokevirtual 29, 3) := by decide +kernel
theorem dX1_placeFault_14 : decode cX1_placeFault 14 = .ok (.ifCond .eq 7, 3) := by decide +kernel
theorem dX1_placeFault_17 : decode cX1_placeFault 17 = .ok (.iconst 0, 1) := by decide +kernel
theorem dX1_placeFault_18 : decode cX1_placeFault 18 = .ok (.goto 4, 3) := by decide +kernel
theorem dX1_placeFault_21 : decode cX1_placeFault 21 = .ok (.iconst 2, 1) := by decide +kernel
theorem dX1_placeFault_22 : decode cX1_placeFault 22 = .ok (.ireturn, 1) := by decide +kernel
theorem dX1_pickFault_0 : decode cX1_pickFault 0 = .ok (.aload_n 0, 1) := by decide +kernel
theorem dX1_pickFault_1 : decode cX1_pickFault 1 = .ok (.iload_n 1, 1) := by decide +kernel
theorem dX1_pickFault_2 : decode cX1_pickFault 2 = .ok (.invokevirtual 33, 3) := by decide +kernel
theorem dX1_pickFault_5 : decode cX1_pickFault 5 = .ok (.istore_n 2, 1) := by decide +kernel
theorem dX1_pickFault_6 : decode cX1_pickFault 6 = .ok (.iload_n 2, 1) := by decide +kernel
theorem dX1_pickFault_7 : decode cX1_pickFault 7 = .ok (.ifCond .ne 15, 3) := by decide +kernel
theorem dX1_pickFault_10 : decode cX1_pickFault 10 = .ok (.aload_n 0, 1) := by decide +kernel
theorem dX1_pickFault_11 : decode cX1_pickFault 11 = .ok (.iload_n 1, 1) := by decide +kernel
theorem dX1_pickFault_12 : decode cX1_pickFault 12 = .ok (.invokevirtual 37, 3) := by decide +kernel
theorem dX1_pickFault_15 : decode cX1_pickFault 15 = .ok (.ifCond .ne 7, 3) := by decide +kernel
theorem dX1_pickFault_18 : decode cX1_pickFault 18 = .ok (.iconst 1, 1) := by decide +kernel
theorem dX1_pickFault_19 : decode cX1_pickFault 19 = .ok (.goto 4, 3) := by decide +kernel
theorem dX1_pickFault_22 : decode cX1_pickFault 22 = .ok (.iload_n 2, 1) := by decide +kernel
theorem dX1_pickFault_23 : decode cX1_pickFault 23 = .ok (.ireturn, 1) := by decide +kernel
theorem dX1_hasPick_0 : decode cX1_hasPick 0 = .ok (.aload_n 0, 1) := by decide +kernel
theorem dX1_hasPick_1 : decode cX1_hasPick 1 = .ok (.iload_n 1, 1) := by decide +kernel
theorem dX1_hasPick_2 : decode cX1_hasPick 2 = .ok (.invokevirtual 29, 3) := by decide +kernel
theorem dX1_hasPick_5 : decode cX1_hasPick 5 = .ok (.ifCond .eq 17, 3) := by decide +kernel
theorem dX1_hasPick_8 : decode cX1_hasPick 8 = .ok (.aload_n 0, 1) := by decide +kernel
theorem dX1_hasPick_9 : decode cX1_hasPick 9 = .ok (.getfield 15, 3) := by decide +kernel
theorem dX1_hasPick_12 : decode cX1_hasPick 12 = .ok (.iload_n 1, 1) := by decide +kernel
theorem dX1_hasPick_13 : decode cX1_hasPick 13 = .ok (.iaload, 1) := by decide +kernel
theorem dX1_hasPick_14 : decode cX1_hasPick 14 = .ok (.iconst (-1), 1) := by decide +kernel
theorem dX1_hasPick_15 : decode cX1_hasPick 15 = .ok (.if_icmp .eq 7, 3) := by decide +kernel
theorem dX1_hasPick_18 : decode cX1_hasPick 18 = .ok (.iconst 1, 1) := by decide +kernel
theorem dX1_hasPick_19 : decode cX1_hasPick 19 = .ok (.goto 4, 3) := by decide +kernel
theorem dX1_hasPick_22 : decode cX1_hasPick 22 = .ok (.iconst 0, 1) := by decide +kernel
theorem dX1_hasPick_23 : decode cX1_hasPick 23 = .ok (.ireturn, 1) := by decide +kernel
theorem dX1_hasCell_0 : decode cX1_hasCell 0 = .ok (.iload_n 1, 1) := by decide +kernel
theorem dX1_hasCell_1 : decode cX1_hasCell 1 = .ok (.ifCond .lt 15, 3) := by decide +kernel
theorem dX1_hasCell_4 : decode cX1_hasCell 4 = .ok (.iload_n 1, 1) := by decide +kernel
theorem dX1_hasCell_5 : decode cX1_hasCell 5 = .ok (.aload_n 0, 1) := by decide +kernel
theorem dX1_hasCell_6 : decode cX1_hasCell 6 = .ok (.getfield 26, 3) := by decide +kernel
theorem dX1_hasCell_9 : decode cX1_hasCell 9 = .ok (.if_icmp .ge 7, 3) := by decide +kernel
theorem dX1_hasCell_12 : decode cX1_hasCell 12 = .ok (.iconst 1, 1) := by decide +kernel
theorem dX1_hasCell_13 : decode cX1_hasCell 13 = .ok (.goto 4, 3) := by decide +kernel
theorem dX1_hasCell_16 : decode cX1_hasCell 16 = .ok (.iconst 0, 1) := by decide +kernel
theorem dX1_hasCell_17 : decode cX1_hasCell 17 = .ok (.ireturn, 1) := by decide +kernel
theorem dX1_drop_0 : decode cX1_drop 0 = .ok (.aload_n 0, 1) := by decide +kernel
theorem dX1_drop_1 : decode cX1_drop 1 = .ok (.iload_n 1, 1) := by decide +kernel
theorem dX1_drop_2 : decode cX1_drop 2 = .ok (.invokevirtual 29, 3) := by decide +kernel
theorem dX1_drop_5 : decode cX1_drop 5 = .ok (.ifCond .eq 10, 3) := by decide +kernel
theorem dX1_drop_8 : decode cX1_drop 8 = .ok (.aload_n 0, 1) := by decide +kernel
theorem dX1_drop_9 : decode cX1_drop 9 = .ok (.getfield 15, 3) := by decide +kernel
theorem dX1_drop_12 : decode cX1_drop 12 = .ok (.iload_n 1, 1) := by decide +kernel
theorem dX1_drop_13 : decode cX1_drop 13 = .ok (.iconst (-1), 1) := by decide +kernel
theorem dX1_drop_14 : decode cX1_drop 14 = .ok (.iastore, 1) := by decide +kernel
theorem dX1_drop_15 : decode cX1_drop 15 = .ok (.return_, 1) := by decide +kernel
theorem dX1_join_0 : decode cX1_join 0 = .ok (.aload_n 0, 1) := by decide +kernel
theorem dX1_join_1 : decode cX1_join 1 = .ok (.iload_n 1, 1) := by decide +kernel
theorem dX1_join_2 : decode cX1_join 2 = .ok (.invokevirtual 29, 3) := by decide +kernel
theorem dX1_join_5 : decode cX1_join 5 = .ok (.ifCond .eq 23, 3) := by decide +kernel
theorem dX1_join_8 : decode cX1_join 8 = .ok (.aload_n 0, 1) := by decide +kernel
theorem dX1_join_9 : decode cX1_join 9 = .ok (.iload_n 2, 1) := by decide +kernel
theorem dX1_join_10 : decode cX1_join 10 = .ok (.invokevirtual 29, 3) := by decide +kernel
theorem dX1_join_13 : decode cX1_join 13 = .ok (.ifCond .eq 15, 3) := by decide +kernel
theorem dX1_join_16 : decode cX1_join 16 = .ok (.aload_n 0, 1) := by decide +kernel
theorem dX1_join_17 : decode cX1_join 17 = .ok (.getfield 15, 3) := by decide +kernel
theorem dX1_join_20 : decode cX1_join 20 = .ok (.iload_n 1, 1) := by decide +kernel
theorem dX1_join_21 : decode cX1_join 21 = .ok (.aload_n 0, 1) := by decide +kernel
theorem dX1_join_22 : decode cX1_join 22 = .ok (.getfield 15, 3) := by decide +kernel
theorem dX1_join_25 : decode cX1_join 25 = .ok (.iload_n 2, 1) := by decide +kernel
theorem dX1_join_26 : decode cX1_join 26 = .ok (.iaload, 1) := by decide +kernel
theorem dX1_join_27 : decode cX1_join 27 = .ok (.iastore, 1) := by decide +kernel
theorem dX1_join_28 : decode cX1_join 28 = .ok (.return_, 1) := by decide +kernel
theorem dX1_get_0 : decode cX1_get 0 = .ok (.aload_n 0, 1) := by decide +kernel
theorem dX1_get_1 : decode cX1_get 1 = .ok (.iload_n 1, 1) := by decide +kernel
theorem dX1_get_2 : decode cX1_get 2 = .ok (.invokevirtual 37, 3) := by decide +kernel
theorem dX1_get_5 : decode cX1_get 5 = .ok (.ifCond .eq 30, 3) := by decide +kernel
theorem dX1_get_8 : decode cX1_get 8 = .ok (.aload_n 0, 1) := by decide +kernel
theorem dX1_get_9 : decode cX1_get 9 = .ok (.iload_n 2, 1) := by decide +kernel
theorem dX1_get_10 : decode cX1_get 10 = .ok (.invokevirtual 40, 3) := by decide +kernel
theorem dX1_get_13 : decode cX1_get 13 = .ok (.ifCond .eq 22, 3) := by decide +kernel
theorem dX1_get_16 : decode cX1_get 16 = .ok (.aload_n 0, 1) := by decide +kernel
theorem dX1_get_17 : decode cX1_get 17 = .ok (.getfield 9, 3) := by decide +kernel
theorem dX1_get_20 : decode cX1_get 20 = .ok (.aload_n 0, 1) := by decide +kernel
theorem dX1_get_21 : decode cX1_get 21 = .ok (.getfield 15, 3) := by decide +kernel
theorem dX1_get_24 : decode cX1_get 24 = .ok (.iload_n 1, 1) := by decide +kernel
theorem dX1_get_25 : decode cX1_get 25 = .ok (.iaload, 1) := by decide +kernel
theorem dX1_get_26 : decode cX1_get 26 = .ok (.bipush 24, 2) := by decide +kernel
theorem dX1_get_28 : decode cX1_get 28 = .ok (.imul, 1) := by decide +kernel
theorem dX1_get_29 : decode cX1_get 29 = .ok (.iload_n 2, 1) := by decide +kernel
theorem dX1_get_30 : decode cX1_get 30 = .ok (.iadd, 1) := by decide +kernel
theorem dX1_get_31 : decode cX1_get 31 = .ok (.iaload, 1) := by decide +kernel
theorem dX1_get_32 : decode cX1_get 32 = .ok (.goto 4, 3) := by decide +kernel
theorem dX1_get_35 : decode cX1_get 35 = .ok (.iconst 0, 1) := by decide +kernel
theorem dX1_get_36 : decode cX1_get 36 = .ok (.ireturn, 1) := by decide +kernel
theorem dX1_set_0 : decode cX1_set 0 = .ok (.aload_n 0, 1) := by decide +kernel
theorem dX1_set_1 : decode cX1_set 1 = .ok (.iload_n 1, 1) := by decide +kernel
theorem dX1_set_2 : decode cX1_set 2 = .ok (.invokevirtual 37, 3) := by decide +kernel
theorem dX1_set_5 : decode cX1_set 5 = .ok (.ifCond .eq 28, 3) := by decide +kernel
theorem dX1_set_8 : decode cX1_set 8 = .ok (.aload_n 0, 1) := by decide +kernel
theorem dX1_set_9 : decode cX1_set 9 = .ok (.iload_n 2, 1) := by decide +kernel
theorem dX1_set_10 : decode cX1_set 10 = .ok (.invokevirtual 40, 3) := by decide +kernel
theorem dX1_set_13 : decode cX1_set 13 = .ok (.ifCond .eq 20, 3) := by decide +kernel
theorem dX1_set_16 : decode cX1_set 16 = .ok (.aload_n 0, 1) := by decide +kernel
theorem dX1_set_17 : decode cX1_set 17 = .ok (.getfield 9, 3) := by decide +kernel
theorem dX1_set_20 : decode cX1_set 20 = .ok (.aload_n 0, 1) := by decide +kernel
theorem dX1_set_21 : decode cX1_set 21 = .ok (.getfield 15, 3) := by decide +kernel
theorem dX1_set_24 : decode cX1_set 24 = .ok (.iload_n 1, 1) := by decide +kernel
theorem dX1_set_25 : decode cX1_set 25 = .ok (.iaload, 1) := by decide +kernel
theorem dX1_set_26 : decode cX1_set 26 = .ok (.bipush 24, 2) := by decide +kernel
theorem dX1_set_28 : decode cX1_set 28 = .ok (.imul, 1) := by decide +kernel
theorem dX1_set_29 : decode cX1_set 29 = .ok (.iload_n 2, 1) := by decide +kernel
theorem dX1_set_30 : decode cX1_set 30 = .ok (.iadd, 1) := by decide +kernel
theorem dX1_set_31 : decode cX1_set 31 = .ok (.iload_n 3, 1) := by decide +kernel
theorem dX1_set_32 : decode cX1_set 32 = .ok (.iastore, 1) := by decide +kernel
theorem dX1_set_33 : decode cX1_set 33 = .ok (.return_, 1) := by decide +kernel
theorem dX2_init_0 : decode cX2_init 0 = .ok (.aload_n 0, 1) := by decide +kernel
theorem dX2_init_1 : decode cX2_init 1 = .ok (.invokespecial 3, 3) := by decide +kernel
theorem dX2_init_4 : decode cX2_init 4 = .ok (.aload_n 0, 1) := by decide +kernel
theorem dX2_init_5 : decode cX2_init 5 = .ok (.bipush 12, 2) := by decide +kernel
theorem dX2_init_7 : decode cX2_init 7 = .ok (.anewarray 9, 3) := by decide +kernel
theorem dX2_init_10 : decode cX2_init 10 = .ok (.putfield 11, 3) := by decide +kernel
theorem dX2_init_13 : decode cX2_init 13 = .ok (.aload_n 0, 1) := by decide +kernel
theorem dX2_init_14 : decode cX2_init 14 = .ok (.iconst 0, 1) := by decide +kernel
theorem dX2_init_15 : decode cX2_init 15 = .ok (.putfield 17, 3) := by decide +kernel
theorem dX2_init_18 : decode cX2_init 18 = .ok (.iconst 0, 1) := by decide +kernel
theorem dX2_init_19 : decode cX2_init 19 = .ok (.istore_n 1, 1) := by decide +kernel
theorem dX2_init_20 : decode cX2_init 20 = .ok (.iload_n 1, 1) := by decide +kernel
theorem dX2_init_21 : decode cX2_init 21 = .ok (.aload_n 0, 1) := by decide +kernel
theorem dX2_init_22 : decode cX2_init 22 = .ok (.getfield 11, 3) := by decide +kernel
theorem dX2_init_25 : decode cX2_init 25 = .ok (.arraylength, 1) := by decide +kernel
theorem dX2_init_26 : decode cX2_init 26 = .ok (.if_icmp .ge 22, 3) := by decide +kernel
theorem dX2_init_29 : decode cX2_init 29 = .ok (.aload_n 0, 1) := by decide +kernel
theorem dX2_init_30 : decode cX2_init 30 = .ok (.getfield 11, 3) := by decide +kernel
theorem dX2_init_33 : decode cX2_init 33 = .ok (.iload_n 1, 1) := by decide +kernel
theorem dX2_init_34 : decode cX2_init 34 = .ok (.new 9, 3) := by decide +kernel
theorem dX2_init_37 : decode cX2_init 37 = .ok (.dup, 1) := by decide +kernel
theorem dX2_init_38 : decode cX2_init 38 = .ok (.invokespecial 21, 3) := by decide +kernel
theorem dX2_init_41 : decode cX2_init 41 = .ok (.aastore, 1) := by decide +kernel
theorem dX2_init_42 : decode cX2_init 42 = .ok (.iinc 1 1, 3) := by decide +kernel
theorem dX2_init_45 : decode cX2_init 45 = .ok (.goto (-25), 3) := by decide +kernel
theorem dX2_init_48 : decode cX2_init 48 = .ok (.return_, 1) := by decide +kernel
theorem dX2_count_0 : decode cX2_count 0 = .ok (.aload_n 0, 1) := by decide +kernel
theorem dX2_count_1 : decode cX2_count 1 = .ok (.getfield 17, 3) := by decide +kernel
theorem dX2_count_4 : decode cX2_count 4 = .ok (.ireturn, 1) := by decide +kernel
theorem dX2_isFull_0 : decode cX2_isFull 0 = .ok (.aload_n 0, 1) := by decide +kernel
theorem dX2_isFull_1 : decode cX2_isFull 1 = .ok (.getfield 17, 3) := by decide +kernel
theorem dX2_isFull_4 : decode cX2_isFull 4 = .ok (.bipush 12, 2) := by decide +kernel
theorem dX2_isFull_6 : decode cX2_isFull 6 = .ok (.if_icmp .ne 7, 3) := by decide +kernel
theorem dX2_isFull_9 : decode cX2_isFull 9 = .ok (.iconst 1, 1) := by decide +kernel
theorem dX2_isFull_10 : decode cX2_isFull 10 = .ok (.goto 4, 3) := by decide +kernel
theorem dX2_isFull_13 : decode cX2_isFull 13 = .ok (.iconst 0, 1) := by decide +kernel
theorem dX2_isFull_14 : decode cX2_isFull 14 = .ok (.ireturn, 1) := by decide +kernel
theorem dX2_clear_0 : decode cX2_clear 0 = .ok (.aload_n 0, 1) := by decide +kernel
theorem dX2_clear_1 : decode cX2_clear 1 = .ok (.iconst 0, 1) := by decide +kernel
theorem dX2_clear_2 : decode cX2_clear 2 = .ok (.putfield 17, 3) := by decide +kernel
theorem dX2_clear_5 : decode cX2_clear 5 = .ok (.return_, 1) := by decide +kernel
theorem dX2_add_0 : decode cX2_add 0 = .ok (.aload_n 0, 1) := by decide +kernel
theorem dX2_add_1 : decode cX2_add 1 = .ok (.invokevirtual 22, 3) := by decide +kernel
theorem dX2_add_4 : decode cX2_add 4 = .ok (.ifCond .eq 4, 3) := by decide +kernel
theorem dX2_add_7 : decode cX2_add 7 = .ok (.return_, 1) := by decide +kernel
theorem dX2_add_8 : decode cX2_add 8 = .ok (.aload_n 0, 1) := by decide +kernel
theorem dX2_add_9 : decode cX2_add 9 = .ok (.getfield 11, 3) := by decide +kernel
theorem dX2_add_12 : decode cX2_add 12 = .ok (.aload_n 0, 1) := by decide +kernel
theorem dX2_add_13 : decode cX2_add 13 = .ok (.getfield 17, 3) := by decide +kernel
theorem dX2_add_16 : decode cX2_add 16 = .ok (.aaload, 1) := by decide +kernel
theorem dX2_add_17 : decode cX2_add 17 = .ok (.astore 6, 2) := by decide +kernel
theorem dX2_add_19 : decode cX2_add 19 = .ok (.aload 6, 2) := by decide +kernel
theorem dX2_add_21 : decode cX2_add 21 = .ok (.iload_n 1, 1) := by decide +kernel
theorem dX2_add_22 : decode cX2_add 22 = .ok (.putfield 26, 3) := by decide +kernel
theorem dX2_add_25 : decode cX2_add 25 = .ok (.aload 6, 2) := by decide +kernel
theorem dX2_add_27 : decode cX2_add 27 = .ok (.iload_n 2, 1) := by decide +kernel
theorem dX2_add_28 : decode cX2_add 28 = .ok (.putfield 29, 3) := by decide +kernel
theorem dX2_add_31 : decode cX2_add 31 = .ok (.aload 6, 2) := by decide +kernel
theorem dX2_add_33 : decode cX2_add 33 = .ok (.iload_n 3, 1) := by decide +kernel
theorem dX2_add_34 : decode cX2_add 34 = .ok (.putfield 32, 3) := by decide +kernel
theorem dX2_add_37 : decode cX2_add 37 = .ok (.aload 6, 2) := by decide +kernel
theorem dX2_add_39 : decode cX2_add 39 = .ok (.iload 4, 2) := by decide +kernel
theorem dX2_add_41 : decode cX2_add 41 = .ok (.putfield 35, 3) := by decide +kernel
theorem dX2_add_44 : decode cX2_add 44 = .ok (.aload 6, 2) := by decide +kernel
theorem dX2_add_46 : decode cX2_add 46 = .ok (.iload 5, 2) := by decide +kernel
theorem dX2_add_48 : decode cX2_add 48 = .ok (.putfield 38, 3) := by decide +kernel
theorem dX2_add_51 : decode cX2_add 51 = .ok (.aload_n 0, 1) := by decide +kernel
theorem dX2_add_52 : decode cX2_add 52 = .ok (.dup, 1) := by decide +kernel
theorem dX2_add_53 : decode cX2_add 53 = .ok (.getfield 17, 3) := by decide +kernel
theorem dX2_add_56 : decode cX2_add 56 = .ok (.iconst 1, 1) := by decide +kernel
theorem dX2_add_57 : decode cX2_add 57 = .ok (.iadd, 1) := by decide +kernel
theorem dX2_add_58 : decode cX2_add 58 = .ok (.putfield 17, 3) := by decide +kernel
theorem dX2_add_61 : decode cX2_add 61 = .ok (.return_, 1) := by decide +kernel
theorem dX2_at_0 : decode cX2_at 0 = .ok (.aload_n 0, 1) := by decide +kernel
theorem dX2_at_1 : decode cX2_at 1 = .ok (.getfield 11, 3) := by decide +kernel
theorem dX2_at_4 : decode cX2_at 4 = .ok (.iload_n 1, 1) := by decide +kernel
theorem dX2_at_5 : decode cX2_at 5 = .ok (.aaload, 1) := by decide +kernel
theorem dX2_at_6 : decode cX2_at 6 = .ok (.areturn, 1) := by decide +kernel
theorem dX3_init_0 : decode cX3_init 0 = .ok (.aload_n 0, 1) := by decide +kernel
theorem dX3_init_1 : decode cX3_init 1 = .ok (.invokespecial 3, 3) := by decide +kernel
theorem dX3_init_4 : decode cX3_init 4 = .ok (.aload_n 0, 1) := by decide +kernel
theorem dX3_init_5 : decode cX3_init 5 = .ok (.iconst 0, 1) := by decide +kernel
theorem dX3_init_6 : decode cX3_init 6 = .ok (.putfield 9, 3) := by decide +kernel
theorem dX3_init_9 : decode cX3_init 9 = .ok (.return_, 1) := by decide +kernel
theorem dX3_count_0 : decode cX3_count 0 = .ok (.aload_n 0, 1) := by decide +kernel
theorem dX3_count_1 : decode cX3_count 1 = .ok (.getfield 9, 3) := by decide +kernel
theorem dX3_count_4 : decode cX3_count 4 = .ok (.ireturn, 1) := by decide +kernel
theorem dX3_has_0 : decode cX3_has 0 = .ok (.iload_n 1, 1) := by decide +kernel
theorem dX3_has_1 : decode cX3_has 1 = .ok (.ifCond .lt 15, 3) := by decide +kernel
theorem dX3_has_4 : decode cX3_has 4 = .ok (.iload_n 1, 1) := by decide +kernel
theorem dX3_has_5 : decode cX3_has 5 = .ok (.aload_n 0, 1) := by decide +kernel
theorem dX3_has_6 : decode cX3_has 6 = .ok (.getfield 9, 3) := by decide +kernel
theorem dX3_has_9 : decode cX3_has 9 = .ok (.if_icmp .ge 7, 3) := by decide +kernel
theorem dX3_has_12 : decode cX3_has 12 = .ok (.iconst 1, 1) := by decide +kernel
theorem dX3_has_13 : decode cX3_has 13 = .ok (.goto 4, 3) := by decide +kernel
theorem dX3_has_16 : decode cX3_has 16 = .ok (.iconst 0, 1) := by decide +kernel
theorem dX3_has_17 : decode cX3_has 17 = .ok (.ireturn, 1) := by decide +kernel
theorem dX3_restretch_0 : decode cX3_restretch 0 = .ok (.aload_n 0, 1) := by decide +kernel
theorem dX3_restretch_1 : decode cX3_restretch 1 = .ok (.iload_n 1, 1) := by decide +kernel
theorem dX3_restretch_2 : decode cX3_restretch 2 = .ok (.ifCond .lt 13, 3) := by decide +kernel
theorem dX3_restretch_5 : decode cX3_restretch 5 = .ok (.iload_n 1, 1) := by decide +kernel
theorem dX3_restretch_6 : decode cX3_restretch 6 = .ok (.bipush 24, 2) := by decide +kernel
theorem dX3_restretch_8 : decode cX3_restretch 8 = .ok (.if_icmp .gt 7, 3) := by decide +kernel
theorem dX3_restretch_11 : decode cX3_restretch 11 = .ok (.iload_n 1, 1) := by decide +kernel
theorem dX3_restretch_12 : decode cX3_restretch 12 = .ok (.goto 4, 3) := by decide +kernel
theorem dX3_restretch_15 : decode cX3_restretch 15 = .ok (.iconst 0, 1) := by decide +kernel
theorem dX3_restretch_16 : decode cX3_restretch 16 = .ok (.putfield 9, 3) := by decide +kernel
theorem dX3_restretch_19 : decode cX3_restretch 19 = .ok (.iconst 0, 1) := by decide +kernel
theorem dX3_restretch_20 : decode cX3_restretch 20 = .ok (.istore_n 2, 1) := by decide +kernel
theorem dX3_restretch_21 : decode cX3_restretch 21 = .ok (.iload_n 2, 1) := by decide +kernel
theorem dX3_restretch_22 : decode cX3_restretch 22 = .ok (.aload_n 0, 1) := by decide +kernel
theorem dX3_restretch_23 : decode cX3_restretch 23 = .ok (.getfield 9, 3) := by decide +kernel
theorem dX3_restretch_26 : decode cX3_restretch 26 = .ok (.if_icmp .ge 14, 3) := by decide +kernel
theorem dX3_restretch_29 : decode cX3_restretch 29 = .ok (.aload_n 0, 1) := by decide +kernel
theorem dX3_restretch_30 : decode cX3_restretch 30 = .ok (.iload_n 2, 1) := by decide +kernel
theorem dX3_restretch_31 : decode cX3_restretch 31 = .ok (.invokevirtual 15, 3) := by decide +kernel
theorem dX3_restretch_34 : decode cX3_restretch 34 = .ok (.iinc 2 1, 3) := by decide +kernel
theorem dX3_restretch_37 : decode cX3_restretch 37 = .ok (.goto (-16), 3) := by decide +kernel
theorem dX3_restretch_40 : decode cX3_restretch 40 = .ok (.return_, 1) := by decide +kernel
theorem dX4_init_0 : decode cX4_init 0 = .ok (.aload_n 0, 1) := by decide +kernel
theorem dX4_init_1 : decode cX4_init 1 = .ok (.invokespecial 3, 3) := by decide +kernel
theorem dX4_init_4 : decode cX4_init 4 = .ok (.aload_n 0, 1) := by decide +kernel
theorem dX4_init_5 : decode cX4_init 5 = .ok (.bipush 6, 2) := by decide +kernel
theorem dX4_init_7 : decode cX4_init 7 = .ok (.newarray .int, 2) := by decide +kernel
theorem dX4_init_9 : decode cX4_init 9 = .ok (.putfield 9, 3) := by decide +kernel
theorem dX4_init_12 : decode cX4_init 12 = .ok (.aload_n 0, 1) := by decide +kernel
theorem dX4_init_13 : decode cX4_init 13 = .ok (.iconst 0, 1) := by decide +kernel
theorem dX4_init_14 : decode cX4_init 14 = .ok (.putfield 15, 3) := by decide +kernel
theorem dX4_init_17 : decode cX4_init 17 = .ok (.return_, 1) := by decide +kernel
theorem dX4_begin_0 : decode cX4_begin 0 = .ok (.aload_n 0, 1) := by decide +kernel
theorem dX4_begin_1 : decode cX4_begin 1 = .ok (.iconst 0, 1) := by decide +kernel
theorem dX4_begin_2 : decode cX4_begin 2 = .ok (.putfield 15, 3) := by decide +kernel
theorem dX4_begin_5 : decode cX4_begin 5 = .ok (.return_, 1) := by decide +kernel
theorem dX4_tell_0 : decode cX4_tell 0 = .ok (.iload_n 1, 1) := by decide +kernel
theorem dX4_tell_1 : decode cX4_tell 1 = .ok (.iconst 1, 1) := by decide +kernel
theorem dX4_tell_2 : decode cX4_tell 2 = .ok (.if_icmp .lt 23, 3) := by decide +kernel
theorem dX4_tell_5 : decode cX4_tell 5 = .ok (.iload_n 1, 1) := by decide +kernel
theorem dX4_tell_6 : decode cX4_tell 6 = .ok (.iconst 5, 1) := by decide +kernel
theorem dX4_tell_7 : decode cX4_tell 7 = .ok (.if_icmp .gt 18, 3) := by decide +kernel
theorem dX4_tell_10 : decode cX4_tell 10 = .ok (.aload_n 0, 1) := by decide +kernel
theorem dX4_tell_11 : decode cX4_tell 11 = .ok (.iload_n 1, 1) := by decide +kernel
theorem dX4_tell_12 : decode cX4_tell 12 = .ok (.putfield 15, 3) := by decide +kernel
theorem dX4_tell_15 : decode cX4_tell 15 = .ok (.aload_n 0, 1) := by decide +kernel
theorem dX4_tell_16 : decode cX4_tell 16 = .ok (.getfield 9, 3) := by decide +kernel
theorem dX4_tell_19 : decode cX4_tell 19 = .ok (.iload_n 1, 1) := by decide +kernel
theorem dX4_tell_20 : decode cX4_tell 20 = .ok (.dup2, 1) := by decide +kernel
theorem dX4_tell_21 : decode cX4_tell 21 = .ok (.iaload, 1) := by decide +kernel
theorem dX4_tell_22 : decode cX4_tell 22 = .ok (.iconst 1, 1) := by decide +kernel
theorem dX4_tell_23 : decode cX4_tell 23 = .ok (.iadd, 1) := by decide +kernel
theorem dX4_tell_24 : decode cX4_tell 24 = .ok (.iastore, 1) := by decide +kernel
theorem dX4_tell_25 : decode cX4_tell 25 = .ok (.iconst 0, 1) := by decide +kernel
theorem dX4_tell_26 : decode cX4_tell 26 = .ok (.ireturn, 1) := by decide +kernel
theorem dX4_latest_0 : decode cX4_latest 0 = .ok (.aload_n 0, 1) := by decide +kernel
theorem dX4_latest_1 : decode cX4_latest 1 = .ok (.getfield 15, 3) := by decide +kernel
theorem dX4_latest_4 : decode cX4_latest 4 = .ok (.ireturn, 1) := by decide +kernel
theorem dX4_countOf_0 : decode cX4_countOf 0 = .ok (.iload_n 1, 1) := by decide +kernel
theorem dX4_countOf_1 : decode cX4_countOf 1 = .ok (.iconst 1, 1) := by decide +kernel
theorem dX4_countOf_2 : decode cX4_countOf 2 = .ok (.if_icmp .lt 17, 3) := by decide +kernel
theorem dX4_countOf_5 : decode cX4_countOf 5 = .ok (.iload_n 1, 1) := by decide +kernel
theorem dX4_countOf_6 : decode cX4_countOf 6 = .ok (.iconst 5, 1) := by decide +kernel
theorem dX4_countOf_7 : decode cX4_countOf 7 = .ok (.if_icmp .gt 12, 3) := by decide +kernel
theorem dX4_countOf_10 : decode cX4_countOf 10 = .ok (.aload_n 0, 1) := by decide +kernel
theorem dX4_countOf_11 : decode cX4_countOf 11 = .ok (.getfield 9, 3) := by decide +kernel
theorem dX4_countOf_14 : decode cX4_countOf 14 = .ok (.iload_n 1, 1) := by decide +kernel
theorem dX4_countOf_15 : decode cX4_countOf 15 = .ok (.iaload, 1) := by decide +kernel
theorem dX4_countOf_16 : decode cX4_countOf 16 = .ok (.goto 4, 3) := by decide +kernel
theorem dX4_countOf_19 : decode cX4_countOf 19 = .ok (.iconst 0, 1) := by decide +kernel
theorem dX4_countOf_20 : decode cX4_countOf 20 = .ok (.ireturn, 1) := by decide +kernel
theorem dX5_init_0 : decode cX5_init 0 = .ok (.aload_n 0, 1) := by decide +kernel
theorem dX5_init_1 : decode cX5_init 1 = .ok (.invokespecial 3, 3) := by decide +kernel
theorem dX5_init_4 : decode cX5_init 4 = .ok (.aload_n 0, 1) := by decide +kernel
theorem dX5_init_5 : decode cX5_init 5 = .ok (.bipush 24, 2) := by decide +kernel
theorem dX5_init_7 : decode cX5_init 7 = .ok (.newarray .boolean, 2) := by decide +kernel
theorem dX5_init_9 : decode cX5_init 9 = .ok (.putfield 9, 3) := by decide +kernel
theorem dX5_init_12 : decode cX5_init 12 = .ok (.return_, 1) := by decide +kernel
theorem dX5_isOdd_0 : decode cX5_isOdd 0 = .ok (.iload_n 0, 1) := by decide +kernel
theorem dX5_isOdd_1 : decode cX5_isOdd 1 = .ok (.iconst 1, 1) := by decide +kernel
theorem dX5_isOdd_2 : decode cX5_isOdd 2 = .ok (.iand, 1) := by decide +kernel
theorem dX5_isOdd_3 : decode cX5_isOdd 3 = .ok (.ifCond .eq 7, 3) := by decide +kernel
theorem dX5_isOdd_6 : decode cX5_isOdd 6 = .ok (.iconst 1, 1) := by decide +kernel
theorem dX5_isOdd_7 : decode cX5_isOdd 7 = .ok (.goto 4, 3) := by decide +kernel
theorem dX5_isOdd_10 : decode cX5_isOdd 10 = .ok (.iconst 0, 1) := by decide +kernel
theorem dX5_isOdd_11 : decode cX5_isOdd 11 = .ok (.ireturn, 1) := by decide +kernel
theorem dX5_reset_0 : decode cX5_reset 0 = .ok (.aload_n 0, 1) := by decide +kernel
theorem dX5_reset_1 : decode cX5_reset 1 = .ok (.getfield 9, 3) := by decide +kernel
theorem dX5_reset_4 : decode cX5_reset 4 = .ok (.iload_n 1, 1) := by decide +kernel
theorem dX5_reset_5 : decode cX5_reset 5 = .ok (.iconst 0, 1) := by decide +kernel
theorem dX5_reset_6 : decode cX5_reset 6 = .ok (.bastore, 1) := by decide +kernel
theorem dX5_reset_7 : decode cX5_reset 7 = .ok (.return_, 1) := by decide +kernel
theorem dX5_tells_0 : decode cX5_tells 0 = .ok (.aload_n 0, 1) := by decide +kernel
theorem dX5_tells_1 : decode cX5_tells 1 = .ok (.getfield 9, 3) := by decide +kernel
theorem dX5_tells_4 : decode cX5_tells 4 = .ok (.iload_n 1, 1) := by decide +kernel
theorem dX5_tells_5 : decode cX5_tells 5 = .ok (.baload, 1) := by decide +kernel
theorem dX5_tells_6 : decode cX5_tells 6 = .ok (.ifCond .eq 7, 3) := by decide +kernel
theorem dX5_tells_9 : decode cX5_tells 9 = .ok (.iconst 1, 1) := by decide +kernel
theorem dX5_tells_10 : decode cX5_tells 10 = .ok (.goto 4, 3) := by decide +kernel
theorem dX5_tells_13 : decode cX5_tells 13 = .ok (.iconst 0, 1) := by decide +kernel
theorem dX5_tells_14 : decode cX5_tells 14 = .ok (.ireturn, 1) := by decide +kernel
theorem dX5_lay_0 : decode cX5_lay 0 = .ok (.aload_n 0, 1) := by decide +kernel
theorem dX5_lay_1 : decode cX5_lay 1 = .ok (.getfield 9, 3) := by decide +kernel
theorem dX5_lay_4 : decode cX5_lay 4 = .ok (.iload_n 1, 1) := by decide +kernel
theorem dX5_lay_5 : decode cX5_lay 5 = .ok (.iload_n 2, 1) := by decide +kernel
theorem dX5_lay_6 : decode cX5_lay 6 = .ok (.invokestatic 15, 3) := by decide +kernel
theorem dX5_lay_9 : decode cX5_lay 9 = .ok (.bastore, 1) := by decide +kernel
theorem dX5_lay_10 : decode cX5_lay 10 = .ok (.return_, 1) := by decide +kernel
theorem dX5_pull_0 : decode cX5_pull 0 = .ok (.iload_n 2, 1) := by decide +kernel
theorem dX5_pull_1 : decode cX5_pull 1 = .ok (.invokestatic 15, 3) := by decide +kernel
theorem dX5_pull_4 : decode cX5_pull 4 = .ok (.ifCond .eq 8, 3) := by decide +kernel
theorem dX5_pull_7 : decode cX5_pull 7 = .ok (.aload_n 0, 1) := by decide +kernel
theorem dX5_pull_8 : decode cX5_pull 8 = .ok (.iload_n 1, 1) := by decide +kernel
theorem dX5_pull_9 : decode cX5_pull 9 = .ok (.invokevirtual 19, 3) := by decide +kernel
theorem dX5_pull_12 : decode cX5_pull 12 = .ok (.return_, 1) := by decide +kernel
theorem dX5_turn_0 : decode cX5_turn 0 = .ok (.aload_n 0, 1) := by decide +kernel
theorem dX5_turn_1 : decode cX5_turn 1 = .ok (.getfield 9, 3) := by decide +kernel
theorem dX5_turn_4 : decode cX5_turn 4 = .ok (.iload_n 1, 1) := by decide +kernel
theorem dX5_turn_5 : decode cX5_turn 5 = .ok (.aload_n 0, 1) := by decide +kernel
theorem dX5_turn_6 : decode cX5_turn 6 = .ok (.getfield 9, 3) := by decide +kernel
theorem dX5_turn_9 : decode cX5_turn 9 = .ok (.iload_n 1, 1) := by decide +kernel
theorem dX5_turn_10 : decode cX5_turn 10 = .ok (.baload, 1) := by decide +kernel
theorem dX5_turn_11 : decode cX5_turn 11 = .ok (.ifCond .ne 7, 3) := by decide +kernel
theorem dX5_turn_14 : decode cX5_turn 14 = .ok (.iconst 1, 1) := by decide +kernel
theorem dX5_turn_15 : decode cX5_turn 15 = .ok (.goto 4, 3) := by decide +kernel
theorem dX5_turn_18 : decode cX5_turn 18 = .ok (.iconst 0, 1) := by decide +kernel
theorem dX5_turn_19 : decode cX5_turn 19 = .ok (.bastore, 1) := by decide +kernel
theorem dX5_turn_20 : decode cX5_turn 20 = .ok (.return_, 1) := by decide +kernel
theorem dX5_part_0 : decode cX5_part 0 = .ok (.iload_n 2, 1) := by decide +kernel
theorem dX5_part_1 : decode cX5_part 1 = .ok (.invokestatic 15, 3) := by decide +kernel
theorem dX5_part_4 : decode cX5_part 4 = .ok (.ifCond .ne 10, 3) := by decide +kernel
theorem dX5_part_7 : decode cX5_part 7 = .ok (.aload_n 0, 1) := by decide +kernel
theorem dX5_part_8 : decode cX5_part 8 = .ok (.getfield 9, 3) := by decide +kernel
theorem dX5_part_11 : decode cX5_part 11 = .ok (.iload_n 1, 1) := by decide +kernel
theorem dX5_part_12 : decode cX5_part 12 = .ok (.iconst 0, 1) := by decide +kernel
theorem dX5_part_13 : decode cX5_part 13 = .ok (.bastore, 1) := by decide +kernel
theorem dX5_part_14 : decode cX5_part 14 = .ok (.iconst 1, 1) := by decide +kernel
theorem dX5_part_15 : decode cX5_part 15 = .ok (.ireturn, 1) := by decide +kernel
theorem dX5_exchange_0 : decode cX5_exchange 0 = .ok (.aload_n 0, 1) := by decide +kernel
theorem dX5_exchange_1 : decode cX5_exchange 1 = .ok (.getfield 9, 3) := by decide +kernel
theorem dX5_exchange_4 : decode cX5_exchange 4 = .ok (.iload_n 1, 1) := by decide +kernel
theorem dX5_exchange_5 : decode cX5_exchange 5 = .ok (.baload, 1) := by decide +kernel
theorem dX5_exchange_6 : decode cX5_exchange 6 = .ok (.istore_n 3, 1) := by decide +kernel
theorem dX5_exchange_7 : decode cX5_exchange 7 = .ok (.aload_n 0, 1) := by decide +kernel
theorem dX5_exchange_8 : decode cX5_exchange 8 = .ok (.getfield 9, 3) := by decide +kernel
theorem dX5_exchange_11 : decode cX5_exchange 11 = .ok (.iload_n 1, 1) := by decide +kernel
theorem dX5_exchange_12 : decode cX5_exchange 12 = .ok (.aload_n 0, 1) := by decide +kernel
theorem dX5_exchange_13 : decode cX5_exchange 13 = .ok (.getfield 9, 3) := by decide +kernel
theorem dX5_exchange_16 : decode cX5_exchange 16 = .ok (.iload_n 2, 1) := by decide +kernel
theorem dX5_exchange_17 : decode cX5_exchange 17 = .ok (.baload, 1) := by decide +kernel
theorem dX5_exchange_18 : decode cX5_exchange 18 = .ok (.bastore, 1) := by decide +kernel
theorem dX5_exchange_19 : decode cX5_exchange 19 = .ok (.aload_n 0, 1) := by decide +kernel
theorem dX5_exchange_20 : decode cX5_exchange 20 = .ok (.getfield 9, 3) := by decide +kernel
theorem dX5_exchange_23 : decode cX5_exchange 23 = .ok (.iload_n 2, 1) := by decide +kernel
theorem dX5_exchange_24 : decode cX5_exchange 24 = .ok (.iload_n 3, 1) := by decide +kernel
theorem dX5_exchange_25 : decode cX5_exchange 25 = .ok (.bastore, 1) := by decide +kernel
theorem dX5_exchange_26 : decode cX5_exchange 26 = .ok (.return_, 1) := by decide +kernel
theorem dX6_init_0 : decode cX6_init 0 = .ok (.aload_n 0, 1) := by decide +kernel
theorem dX6_init_1 : decode cX6_init 1 = .ok (.invokespecial 3, 3) := by decide +kernel
theorem dX6_init_4 : decode cX6_init 4 = .ok (.aload_n 0, 1) := by decide +kernel
theorem dX6_init_5 : decode cX6_init 5 = .ok (.bipush 16, 2) := by decide +kernel
theorem dX6_init_7 : decode cX6_init 7 = .ok (.newarray .int, 2) := by decide +kernel
theorem dX6_init_9 : decode cX6_init 9 = .ok (.putfield 9, 3) := by decide +kernel
theorem dX6_init_12 : decode cX6_init 12 = .ok (.aload_n 0, 1) := by decide +kernel
theorem dX6_init_13 : decode cX6_init 13 = .ok (.iconst 0, 1) := by decide +kernel
theorem dX6_init_14 : decode cX6_init 14 = .ok (.putfield 15, 3) := by decide +kernel
theorem dX6_init_17 : decode cX6_init 17 = .ok (.aload_n 0, 1) := by decide +kernel
theorem dX6_init_18 : decode cX6_init 18 = .ok (.iconst 0, 1) := by decide +kernel
theorem dX6_init_19 : decode cX6_init 19 = .ok (.putfield 19, 3) := by decide +kernel
theorem dX6_init_22 : decode cX6_init 22 = .ok (.return_, 1) := by decide +kernel
theorem dX6_count_0 : decode cX6_count 0 = .ok (.aload_n 0, 1) := by decide +kernel
theorem dX6_count_1 : decode cX6_count 1 = .ok (.getfield 19, 3) := by decide +kernel
theorem dX6_count_4 : decode cX6_count 4 = .ok (.ireturn, 1) := by decide +kernel
theorem dX6_isEmpty_0 : decode cX6_isEmpty 0 = .ok (.aload_n 0, 1) := by decide +kernel
theorem dX6_isEmpty_1 : decode cX6_isEmpty 1 = .ok (.getfield 19, 3) := by decide +kernel
theorem dX6_isEmpty_4 : decode cX6_isEmpty 4 = .ok (.ifCond .ne 7, 3) := by decide +kernel
theorem dX6_isEmpty_7 : decode cX6_isEmpty 7 = .ok (.iconst 1, 1) := by decide +kernel
theorem dX6_isEmpty_8 : decode cX6_isEmpty 8 = .ok (.goto 4, 3) := by decide +kernel
theorem dX6_isEmpty_11 : decode cX6_isEmpty 11 = .ok (.iconst 0, 1) := by decide +kernel
theorem dX6_isEmpty_12 : decode cX6_isEmpty 12 = .ok (.ireturn, 1) := by decide +kernel
theorem dX6_isFull_0 : decode cX6_isFull 0 = .ok (.aload_n 0, 1) := by decide +kernel
theorem dX6_isFull_1 : decode cX6_isFull 1 = .ok (.getfield 19, 3) := by decide +kernel
theorem dX6_isFull_4 : decode cX6_isFull 4 = .ok (.bipush 16, 2) := by decide +kernel
theorem dX6_isFull_6 : decode cX6_isFull 6 = .ok (.if_icmp .ne 7, 3) := by decide +kernel
theorem dX6_isFull_9 : decode cX6_isFull 9 = .ok (.iconst 1, 1) := by decide +kernel
theorem dX6_isFull_10 : decode cX6_isFull 10 = .ok (.goto 4, 3) := by decide +kernel
theorem dX6_isFull_13 : decode cX6_isFull 13 = .ok (.iconst 0, 1) := by decide +kernel
theorem dX6_isFull_14 : decode cX6_isFull 14 = .ok (.ireturn, 1) := by decide +kernel
theorem dX6_wind_0 : decode cX6_wind 0 = .ok (.aload_n 0, 1) := by decide +kernel
theorem dX6_wind_1 : decode cX6_wind 1 = .ok (.invokevirtual 22, 3) := by decide +kernel
theorem dX6_wind_4 : decode cX6_wind 4 = .ok (.ifCond .ne 31, 3) := by decide +kernel
theorem dX6_wind_7 : decode cX6_wind 7 = .ok (.aload_n 0, 1) := by decide +kernel
theorem dX6_wind_8 : decode cX6_wind 8 = .ok (.getfield 9, 3) := by decide +kernel
theorem dX6_wind_11 : decode cX6_wind 11 = .ok (.aload_n 0, 1) := by decide +kernel
theorem dX6_wind_12 : decode cX6_wind 12 = .ok (.getfield 15, 3) := by decide +kernel
theorem dX6_wind_15 : decode cX6_wind 15 = .ok (.aload_n 0, 1) := by decide +kernel
theorem dX6_wind_16 : decode cX6_wind 16 = .ok (.getfield 19, 3) := by decide +kernel
theorem dX6_wind_19 : decode cX6_wind 19 = .ok (.iadd, 1) := by decide +kernel
theorem dX6_wind_20 : decode cX6_wind 20 = .ok (.bipush 16, 2) := by decide +kernel
theorem dX6_wind_22 : decode cX6_wind 22 = .ok (.irem, 1) := by decide +kernel
theorem dX6_wind_23 : decode cX6_wind 23 = .ok (.iload_n 1, 1) := by decide +kernel
theorem dX6_wind_24 : decode cX6_wind 24 = .ok (.iastore, 1) := by decide +kernel
theorem dX6_wind_25 : decode cX6_wind 25 = .ok (.aload_n 0, 1) := by decide +kernel
theorem dX6_wind_26 : decode cX6_wind 26 = .ok (.dup, 1) := by decide +kernel
theorem dX6_wind_27 : decode cX6_wind 27 = .ok (.getfield 19, 3) := by decide +kernel
theorem dX6_wind_30 : decode cX6_wind 30 = .ok (.iconst 1, 1) := by decide +kernel
theorem dX6_wind_31 : decode cX6_wind 31 = .ok (.iadd, 1) := by decide +kernel
theorem dX6_wind_32 : decode cX6_wind 32 = .ok (.putfield 19, 3) := by decide +kernel
theorem dX6_wind_35 : decode cX6_wind 35 = .ok (.return_, 1) := by decide +kernel
theorem dX6_draw_0 : decode cX6_draw 0 = .ok (.aload_n 0, 1) := by decide +kernel
theorem dX6_draw_1 : decode cX6_draw 1 = .ok (.invokevirtual 26, 3) := by decide +kernel
theorem dX6_draw_4 : decode cX6_draw 4 = .ok (.ifCond .eq 5, 3) := by decide +kernel
theorem dX6_draw_7 : decode cX6_draw 7 = .ok (.iconst 0, 1) := by decide +kernel
theorem dX6_draw_8 : decode cX6_draw 8 = .ok (.ireturn, 1) := by decide +kernel
theorem dX6_draw_9 : decode cX6_draw 9 = .ok (.aload_n 0, 1) := by decide +kernel
theorem dX6_draw_10 : decode cX6_draw 10 = .ok (.getfield 9, 3) := by decide +kernel
theorem dX6_draw_13 : decode cX6_draw 13 = .ok (.aload_n 0, 1) := by decide +kernel
theorem dX6_draw_14 : decode cX6_draw 14 = .ok (.getfield 15, 3) := by decide +kernel
theorem dX6_draw_17 : decode cX6_draw 17 = .ok (.iaload, 1) := by decide +kernel
theorem dX6_draw_18 : decode cX6_draw 18 = .ok (.istore_n 1, 1) := by decide +kernel
theorem dX6_draw_19 : decode cX6_draw 19 = .ok (.aload_n 0, 1) := by decide +kernel
theorem dX6_draw_20 : decode cX6_draw 20 = .ok (.aload_n 0, 1) := by decide +kernel
theorem dX6_draw_21 : decode cX6_draw 21 = .ok (.getfield 15, 3) := by decide +kernel
theorem dX6_draw_24 : decode cX6_draw 24 = .ok (.iconst 1, 1) := by decide +kernel
theorem dX6_draw_25 : decode cX6_draw 25 = .ok (.iadd, 1) := by decide +kernel
theorem dX6_draw_26 : decode cX6_draw 26 = .ok (.bipush 16, 2) := by decide +kernel
theorem dX6_draw_28 : decode cX6_draw 28 = .ok (.irem, 1) := by decide +kernel
theorem dX6_draw_29 : decode cX6_draw 29 = .ok (.putfield 15, 3) := by decide +kernel
theorem dX6_draw_32 : decode cX6_draw 32 = .ok (.aload_n 0, 1) := by decide +kernel
theorem dX6_draw_33 : decode cX6_draw 33 = .ok (.dup, 1) := by decide +kernel
theorem dX6_draw_34 : decode cX6_draw 34 = .ok (.getfield 19, 3) := by decide +kernel
theorem dX6_draw_37 : decode cX6_draw 37 = .ok (.iconst 1, 1) := by decide +kernel
theorem dX6_draw_38 : decode cX6_draw 38 = .ok (.isub, 1) := by decide +kernel
theorem dX6_draw_39 : decode cX6_draw 39 = .ok (.putfield 19, 3) := by decide +kernel
theorem dX6_draw_42 : decode cX6_draw 42 = .ok (.iload_n 1, 1) := by decide +kernel
theorem dX6_draw_43 : decode cX6_draw 43 = .ok (.ireturn, 1) := by decide +kernel
theorem dX7_init_0 : decode cX7_init 0 = .ok (.aload_n 0, 1) := by decide +kernel
theorem dX7_init_1 : decode cX7_init 1 = .ok (.invokespecial 3, 3) := by decide +kernel
theorem dX7_init_4 : decode cX7_init 4 = .ok (.aload_n 0, 1) := by decide +kernel
theorem dX7_init_5 : decode cX7_init 5 = .ok (.bipush 24, 2) := by decide +kernel
theorem dX7_init_7 : decode cX7_init 7 = .ok (.newarray .float, 2) := by decide +kernel
theorem dX7_init_9 : decode cX7_init 9 = .ok (.putfield 9, 3) := by decide +kernel
theorem dX7_init_12 : decode cX7_init 12 = .ok (.return_, 1) := by decide +kernel
theorem dX7_hold_0 : decode cX7_hold 0 = .ok (.fload_n 0, 1) := by decide +kernel
theorem dX7_hold_1 : decode cX7_hold 1 = .ok (.ldc 15, 2) := by decide +kernel
theorem dX7_hold_3 : decode cX7_hold 3 = .ok (.fcmp .g, 1) := by decide +kernel
theorem dX7_hold_4 : decode cX7_hold 4 = .ok (.ifCond .ge 6, 3) := by decide +kernel
theorem dX7_hold_7 : decode cX7_hold 7 = .ok (.ldc 15, 2) := by decide +kernel
theorem dX7_hold_9 : decode cX7_hold 9 = .ok (.freturn, 1) := by decide +kernel
theorem dX7_hold_10 : decode cX7_hold 10 = .ok (.fload_n 0, 1) := by decide +kernel
theorem dX7_hold_11 : decode cX7_hold 11 = .ok (.ldc 16, 2) := by decide +kernel
theorem dX7_hold_13 : decode cX7_hold 13 = .ok (.fcmp .l, 1) := by decide +kernel
theorem dX7_hold_14 : decode cX7_hold 14 = .ok (.ifCond .le 8, 3) := by decide +kernel
theorem dX7_hold_17 : decode cX7_hold 17 = .ok (.ldc 16, 2) := by decide +kernel
theorem dX7_hold_19 : decode cX7_hold 19 = .ok (.goto 4, 3) := by decide +kernel
theorem dX7_hold_22 : decode cX7_hold 22 = .ok (.fload_n 0, 1) := by decide +kernel
theorem dX7_hold_23 : decode cX7_hold 23 = .ok (.freturn, 1) := by decide +kernel
theorem dX7_eighths_0 : decode cX7_eighths 0 = .ok (.iload_n 0, 1) := by decide +kernel
theorem dX7_eighths_1 : decode cX7_eighths 1 = .ok (.i2f, 1) := by decide +kernel
theorem dX7_eighths_2 : decode cX7_eighths 2 = .ok (.ldc 17, 2) := by decide +kernel
theorem dX7_eighths_4 : decode cX7_eighths 4 = .ok (.fdiv, 1) := by decide +kernel
theorem dX7_eighths_5 : decode cX7_eighths 5 = .ok (.freturn, 1) := by decide +kernel
theorem dX7_reset_0 : decode cX7_reset 0 = .ok (.aload_n 0, 1) := by decide +kernel
theorem dX7_reset_1 : decode cX7_reset 1 = .ok (.getfield 9, 3) := by decide +kernel
theorem dX7_reset_4 : decode cX7_reset 4 = .ok (.iload_n 1, 1) := by decide +kernel
theorem dX7_reset_5 : decode cX7_reset 5 = .ok (.fconst 0, 1) := by decide +kernel
theorem dX7_reset_6 : decode cX7_reset 6 = .ok (.fastore, 1) := by decide +kernel
theorem dX7_reset_7 : decode cX7_reset 7 = .ok (.return_, 1) := by decide +kernel
theorem dX7_tells_0 : decode cX7_tells 0 = .ok (.aload_n 0, 1) := by decide +kernel
theorem dX7_tells_1 : decode cX7_tells 1 = .ok (.getfield 9, 3) := by decide +kernel
theorem dX7_tells_4 : decode cX7_tells 4 = .ok (.iload_n 1, 1) := by decide +kernel
theorem dX7_tells_5 : decode cX7_tells 5 = .ok (.faload, 1) := by decide +kernel
theorem dX7_tells_6 : decode cX7_tells 6 = .ok (.ldc 17, 2) := by decide +kernel
theorem dX7_tells_8 : decode cX7_tells 8 = .ok (.fmul, 1) := by decide +kernel
theorem dX7_tells_9 : decode cX7_tells 9 = .ok (.f2i, 1) := by decide +kernel
theorem dX7_tells_10 : decode cX7_tells 10 = .ok (.ireturn, 1) := by decide +kernel
theorem dX7_lay_0 : decode cX7_lay 0 = .ok (.aload_n 0, 1) := by decide +kernel
theorem dX7_lay_1 : decode cX7_lay 1 = .ok (.getfield 9, 3) := by decide +kernel
theorem dX7_lay_4 : decode cX7_lay 4 = .ok (.iload_n 1, 1) := by decide +kernel
theorem dX7_lay_5 : decode cX7_lay 5 = .ok (.iload_n 2, 1) := by decide +kernel
theorem dX7_lay_6 : decode cX7_lay 6 = .ok (.invokestatic 18, 3) := by decide +kernel
theorem dX7_lay_9 : decode cX7_lay 9 = .ok (.invokestatic 22, 3) := by decide +kernel
theorem dX7_lay_12 : decode cX7_lay 12 = .ok (.fastore, 1) := by decide +kernel
theorem dX7_lay_13 : decode cX7_lay 13 = .ok (.return_, 1) := by decide +kernel
theorem dX7_pull_0 : decode cX7_pull 0 = .ok (.aload_n 0, 1) := by decide +kernel
theorem dX7_pull_1 : decode cX7_pull 1 = .ok (.getfield 9, 3) := by decide +kernel
theorem dX7_pull_4 : decode cX7_pull 4 = .ok (.iload_n 1, 1) := by decide +kernel
theorem dX7_pull_5 : decode cX7_pull 5 = .ok (.aload_n 0, 1) := by decide +kernel
theorem dX7_pull_6 : decode cX7_pull 6 = .ok (.getfield 9, 3) := by decide +kernel
theorem dX7_pull_9 : decode cX7_pull 9 = .ok (.iload_n 1, 1) := by decide +kernel
theorem dX7_pull_10 : decode cX7_pull 10 = .ok (.faload, 1) := by decide +kernel
theorem dX7_pull_11 : decode cX7_pull 11 = .ok (.iload_n 2, 1) := by decide +kernel
theorem dX7_pull_12 : decode cX7_pull 12 = .ok (.invokestatic 18, 3) := by decide +kernel
theorem dX7_pull_15 : decode cX7_pull 15 = .ok (.fadd, 1) := by decide +kernel
theorem dX7_pull_16 : decode cX7_pull 16 = .ok (.invokestatic 22, 3) := by decide +kernel
theorem dX7_pull_19 : decode cX7_pull 19 = .ok (.fastore, 1) := by decide +kernel
theorem dX7_pull_20 : decode cX7_pull 20 = .ok (.return_, 1) := by decide +kernel
theorem dX7_turn_0 : decode cX7_turn 0 = .ok (.aload_n 0, 1) := by decide +kernel
theorem dX7_turn_1 : decode cX7_turn 1 = .ok (.getfield 9, 3) := by decide +kernel
theorem dX7_turn_4 : decode cX7_turn 4 = .ok (.iload_n 1, 1) := by decide +kernel
theorem dX7_turn_5 : decode cX7_turn 5 = .ok (.aload_n 0, 1) := by decide +kernel
theorem dX7_turn_6 : decode cX7_turn 6 = .ok (.getfield 9, 3) := by decide +kernel
theorem dX7_turn_9 : decode cX7_turn 9 = .ok (.iload_n 1, 1) := by decide +kernel
theorem dX7_turn_10 : decode cX7_turn 10 = .ok (.faload, 1) := by decide +kernel
theorem dX7_turn_11 : decode cX7_turn 11 = .ok (.fconst 1, 1) := by decide +kernel
theorem dX7_turn_12 : decode cX7_turn 12 = .ok (.fadd, 1) := by decide +kernel
theorem dX7_turn_13 : decode cX7_turn 13 = .ok (.invokestatic 22, 3) := by decide +kernel
theorem dX7_turn_16 : decode cX7_turn 16 = .ok (.fastore, 1) := by decide +kernel
theorem dX7_turn_17 : decode cX7_turn 17 = .ok (.return_, 1) := by decide +kernel
theorem dX7_part_0 : decode cX7_part 0 = .ok (.iload_n 2, 1) := by decide +kernel
theorem dX7_part_1 : decode cX7_part 1 = .ok (.ifCond .ne 5, 3) := by decide +kernel
theorem dX7_part_4 : decode cX7_part 4 = .ok (.iconst 0, 1) := by decide +kernel
theorem dX7_part_5 : decode cX7_part 5 = .ok (.ireturn, 1) := by decide +kernel
theorem dX7_part_6 : decode cX7_part 6 = .ok (.aload_n 0, 1) := by decide +kernel
theorem dX7_part_7 : decode cX7_part 7 = .ok (.getfield 9, 3) := by decide +kernel
theorem dX7_part_10 : decode cX7_part 10 = .ok (.iload_n 1, 1) := by decide +kernel
theorem dX7_part_11 : decode cX7_part 11 = .ok (.aload_n 0, 1) := by decide +kernel
theorem dX7_part_12 : decode cX7_part 12 = .ok (.getfield 9, 3) := by decide +kernel
theorem dX7_part_15 : decode cX7_part 15 = .ok (.iload_n 1, 1) := by decide +kernel
theorem dX7_part_16 : decode cX7_part 16 = .ok (.faload, 1) := by decide +kernel
theorem dX7_part_17 : decode cX7_part 17 = .ok (.iload_n 2, 1) := by decide +kernel
theorem dX7_part_18 : decode cX7_part 18 = .ok (.i2f, 1) := by decide +kernel
theorem dX7_part_19 : decode cX7_part 19 = .ok (.fdiv, 1) := by decide +kernel
theorem dX7_part_20 : decode cX7_part 20 = .ok (.fastore, 1) := by decide +kernel
theorem dX7_part_21 : decode cX7_part 21 = .ok (.iconst 1, 1) := by decide +kernel
theorem dX7_part_22 : decode cX7_part 22 = .ok (.ireturn, 1) := by decide +kernel
theorem dX7_exchange_0 : decode cX7_exchange 0 = .ok (.aload_n 0, 1) := by decide +kernel
theorem dX7_exchange_1 : decode cX7_exchange 1 = .ok (.getfield 9, 3) := by decide +kernel
theorem dX7_exchange_4 : decode cX7_exchange 4 = .ok (.iload_n 1, 1) := by decide +kernel
theorem dX7_exchange_5 : decode cX7_exchange 5 = .ok (.faload, 1) := by decide +kernel
theorem dX7_exchange_6 : decode cX7_exchange 6 = .ok (.fstore_n 3, 1) := by decide +kernel
theorem dX7_exchange_7 : decode cX7_exchange 7 = .ok (.aload_n 0, 1) := by decide +kernel
theorem dX7_exchange_8 : decode cX7_exchange 8 = .ok (.getfield 9, 3) := by decide +kernel
theorem dX7_exchange_11 : decode cX7_exchange 11 = .ok (.iload_n 1, 1) := by decide +kernel
theorem dX7_exchange_12 : decode cX7_exchange 12 = .ok (.aload_n 0, 1) := by decide +kernel
theorem dX7_exchange_13 : decode cX7_exchange 13 = .ok (.getfield 9, 3) := by decide +kernel
theorem dX7_exchange_16 : decode cX7_exchange 16 = .ok (.iload_n 2, 1) := by decide +kernel
theorem dX7_exchange_17 : decode cX7_exchange 17 = .ok (.faload, 1) := by decide +kernel
theorem dX7_exchange_18 : decode cX7_exchange 18 = .ok (.fastore, 1) := by decide +kernel
theorem dX7_exchange_19 : decode cX7_exchange 19 = .ok (.aload_n 0, 1) := by decide +kernel
theorem dX7_exchange_20 : decode cX7_exchange 20 = .ok (.getfield 9, 3) := by decide +kernel
theorem dX7_exchange_23 : decode cX7_exchange 23 = .ok (.iload_n 2, 1) := by decide +kernel
theorem dX7_exchange_24 : decode cX7_exchange 24 = .ok (.fload_n 3, 1) := by decide +kernel
theorem dX7_exchange_25 : decode cX7_exchange 25 = .ok (.fastore, 1) := by decide +kernel
theorem dX7_exchange_26 : decode cX7_exchange 26 = .ok (.return_, 1) := by decide +kernel
theorem dX8_init_0 : decode cX8_init 0 = .ok (.aload_n 0, 1) := by decide +kernel
theorem dX8_init_1 : decode cX8_init 1 = .ok (.invokespecial 3, 3) := by decide +kernel
theorem dX8_init_4 : decode cX8_init 4 = .ok (.aload_n 0, 1) := by decide +kernel
theorem dX8_init_5 : decode cX8_init 5 = .ok (.bipush 20, 2) := by decide +kernel
theorem dX8_init_7 : decode cX8_init 7 = .ok (.anewarray 9, 3) := by decide +kernel
theorem dX8_init_10 : decode cX8_init 10 = .ok (.putfield 11, 3) := by decide +kernel
theorem dX8_init_13 : decode cX8_init 13 = .ok (.aload_n 0, 1) := by decide +kernel
theorem dX8_init_14 : decode cX8_init 14 = .ok (.bipush 20, 2) := by decide +kernel
theorem dX8_init_16 : decode cX8_init 16 = .ok (.anewarray 9, 3) := by decide +kernel
theorem dX8_init_19 : decode cX8_init 19 = .ok (.putfield 17, 3) := by decide +kernel
theorem dX8_init_22 : decode cX8_init 22 = .ok (.iconst 0, 1) := by decide +kernel
theorem dX8_init_23 : decode cX8_init 23 = .ok (.istore_n 1, 1) := by decide +kernel
theorem dX8_init_24 : decode cX8_init 24 = .ok (.iload_n 1, 1) := by decide +kernel
theorem dX8_init_25 : decode cX8_init 25 = .ok (.aload_n 0, 1) := by decide +kernel
theorem dX8_init_26 : decode cX8_init 26 = .ok (.getfield 11, 3) := by decide +kernel
theorem dX8_init_29 : decode cX8_init 29 = .ok (.arraylength, 1) := by decide +kernel
theorem dX8_init_30 : decode cX8_init 30 = .ok (.if_icmp .ge 21, 3) := by decide +kernel
theorem dX8_init_33 : decode cX8_init 33 = .ok (.aload_n 0, 1) := by decide +kernel
theorem dX8_init_34 : decode cX8_init 34 = .ok (.getfield 11, 3) := by decide +kernel
theorem dX8_init_37 : decode cX8_init 37 = .ok (.iload_n 1, 1) := by decide +kernel
theorem dX8_init_38 : decode cX8_init 38 = .ok (.iload_n 1, 1) := by decide +kernel
theorem dX8_init_39 : decode cX8_init 39 = .ok (.iconst 5, 1) := by decide +kernel
theorem dX8_init_40 : decode cX8_init 40 = .ok (.irem, 1) := by decide +kernel
theorem dX8_init_41 : decode cX8_init 41 = .ok (.invokestatic 20, 3) := by decide +kernel
theorem dX8_init_44 : decode cX8_init 44 = .ok (.aastore, 1) := by decide +kernel
theorem dX8_init_45 : decode cX8_init 45 = .ok (.iinc 1 1, 3) := by decide +kernel
theorem dX8_init_48 : decode cX8_init 48 = .ok (.goto (-24), 3) := by decide +kernel
theorem dX8_init_51 : decode cX8_init 51 = .ok (.return_, 1) := by decide +kernel
theorem dX8_newLane_0 : decode cX8_newLane 0 = .ok (.iload_n 0, 1) := by decide +kernel
theorem dX8_newLane_1 : decode cX8_newLane 1 = .ok (.lookupswitch 43 #[(2, 27), (3, 35)], 27) := by decide +kernel
theorem dX8_newLane_28 : decode cX8_newLane 28 = .ok (.new 24, 3) := by decide +kernel
theorem dX8_newLane_31 : decode cX8_newLane 31 = .ok (.dup, 1) := by decide +kernel
theorem dX8_newLane_32 : decode cX8_newLane 32 = .ok (.invokespecial 26, 3) := by decide +kernel
theorem dX8_newLane_35 : decode cX8_newLane 35 = .ok (.areturn, 1) := by decide +kernel
theorem dX8_newLane_36 : decode cX8_newLane 36 = .ok (.new 27, 3) := by decide +kernel
theorem dX8_newLane_39 : decode cX8_newLane 39 = .ok (.dup, 1) := by decide +kernel
theorem dX8_newLane_40 : decode cX8_newLane 40 = .ok (.invokespecial 29, 3) := by decide +kernel
theorem dX8_newLane_43 : decode cX8_newLane 43 = .ok (.areturn, 1) := by decide +kernel
theorem dX8_newLane_44 : decode cX8_newLane 44 = .ok (.new 30, 3) := by decide +kernel
theorem dX8_newLane_47 : decode cX8_newLane 47 = .ok (.dup, 1) := by decide +kernel
theorem dX8_newLane_48 : decode cX8_newLane 48 = .ok (.iload_n 0, 1) := by decide +kernel
theorem dX8_newLane_49 : decode cX8_newLane 49 = .ok (.invokespecial 32, 3) := by decide +kernel
theorem dX8_newLane_52 : decode cX8_newLane 52 = .ok (.areturn, 1) := by decide +kernel
theorem dX8_isFrame_0 : decode cX8_isFrame 0 = .ok (.iload_n 0, 1) := by decide +kernel
theorem dX8_isFrame_1 : decode cX8_isFrame 1 = .ok (.ifCond .lt 12, 3) := by decide +kernel
theorem dX8_isFrame_4 : decode cX8_isFrame 4 = .ok (.iload_n 0, 1) := by decide +kernel
theorem dX8_isFrame_5 : decode cX8_isFrame 5 = .ok (.iconst 4, 1) := by decide +kernel
theorem dX8_isFrame_6 : decode cX8_isFrame 6 = .ok (.if_icmp .ge 7, 3) := by decide +kernel
theorem dX8_isFrame_9 : decode cX8_isFrame 9 = .ok (.iconst 1, 1) := by decide +kernel
theorem dX8_isFrame_10 : decode cX8_isFrame 10 = .ok (.goto 4, 3) := by decide +kernel
theorem dX8_isFrame_13 : decode cX8_isFrame 13 = .ok (.iconst 0, 1) := by decide +kernel
theorem dX8_isFrame_14 : decode cX8_isFrame 14 = .ok (.ireturn, 1) := by decide +kernel
theorem dX8_isLane_0 : decode cX8_isLane 0 = .ok (.iload_n 0, 1) := by decide +kernel
theorem dX8_isLane_1 : decode cX8_isLane 1 = .ok (.invokestatic 35, 3) := by decide +kernel
theorem dX8_isLane_4 : decode cX8_isLane 4 = .ok (.ifCond .eq 16, 3) := by decide +kernel
theorem dX8_isLane_7 : decode cX8_isLane 7 = .ok (.iload_n 1, 1) := by decide +kernel
theorem dX8_isLane_8 : decode cX8_isLane 8 = .ok (.ifCond .lt 12, 3) := by decide +kernel
theorem dX8_isLane_11 : decode cX8_isLane 11 = .ok (.iload_n 1, 1) := by decide +kernel
theorem dX8_isLane_12 : decode cX8_isLane 12 = .ok (.iconst 5, 1) := by decide +kernel
theorem dX8_isLane_13 : decode cX8_isLane 13 = .ok (.if_icmp .ge 7, 3) := by decide +kernel
theorem dX8_isLane_16 : decode cX8_isLane 16 = .ok (.iconst 1, 1) := by decide +kernel
theorem dX8_isLane_17 : decode cX8_isLane 17 = .ok (.goto 4, 3) := by decide +kernel
theorem dX8_isLane_20 : decode cX8_isLane 20 = .ok (.iconst 0, 1) := by decide +kernel
theorem dX8_isLane_21 : decode cX8_isLane 21 = .ok (.ireturn, 1) := by decide +kernel
theorem dX8_place_0 : decode cX8_place 0 = .ok (.iload_n 0, 1) := by decide +kernel
theorem dX8_place_1 : decode cX8_place 1 = .ok (.iconst 5, 1) := by decide +kernel
theorem dX8_place_2 : decode cX8_place 2 = .ok (.imul, 1) := by decide +kernel
theorem dX8_place_3 : decode cX8_place 3 = .ok (.iload_n 1, 1) := by decide +kernel
theorem dX8_place_4 : decode cX8_place 4 = .ok (.iadd, 1) := by decide +kernel
theorem dX8_place_5 : decode cX8_place 5 = .ok (.ireturn, 1) := by decide +kernel
theorem dX8_laneAt_0 : decode cX8_laneAt 0 = .ok (.iload_n 1, 1) := by decide +kernel
theorem dX8_laneAt_1 : decode cX8_laneAt 1 = .ok (.iload_n 2, 1) := by decide +kernel
theorem dX8_laneAt_2 : decode cX8_laneAt 2 = .ok (.invokestatic 39, 3) := by decide +kernel
theorem dX8_laneAt_5 : decode cX8_laneAt 5 = .ok (.ifCond .eq 16, 3) := by decide +kernel
theorem dX8_laneAt_8 : decode cX8_laneAt 8 = .ok (.aload_n 0, 1) := by decide +kernel
theorem dX8_laneAt_9 : decode cX8_laneAt 9 = .ok (.getfield 17, 3) := by decide +kernel
theorem dX8_laneAt_12 : decode cX8_laneAt 12 = .ok (.iload_n 1, 1) := by decide +kernel
theorem dX8_laneAt_13 : decode cX8_laneAt 13 = .ok (.iload_n 2, 1) := by decide +kernel
theorem dX8_laneAt_14 : decode cX8_laneAt 14 = .ok (.invokestatic 43, 3) := by decide +kernel
theorem dX8_laneAt_17 : decode cX8_laneAt 17 = .ok (.aaload, 1) := by decide +kernel
theorem dX8_laneAt_18 : decode cX8_laneAt 18 = .ok (.goto 4, 3) := by decide +kernel
theorem dX8_laneAt_21 : decode cX8_laneAt 21 = .ok (.aconst_null, 1) := by decide +kernel
theorem dX8_laneAt_22 : decode cX8_laneAt 22 = .ok (.areturn, 1) := by decide +kernel
theorem dX8_loosen_0 : decode cX8_loosen 0 = .ok (.iload_n 1, 1) := by decide +kernel
theorem dX8_loosen_1 : decode cX8_loosen 1 = .ok (.iload_n 2, 1) := by decide +kernel
theorem dX8_loosen_2 : decode cX8_loosen 2 = .ok (.invokestatic 39, 3) := by decide +kernel
theorem dX8_loosen_5 : decode cX8_loosen 5 = .ok (.ifCond .eq 14, 3) := by decide +kernel
theorem dX8_loosen_8 : decode cX8_loosen 8 = .ok (.aload_n 0, 1) := by decide +kernel
theorem dX8_loosen_9 : decode cX8_loosen 9 = .ok (.getfield 17, 3) := by decide +kernel
theorem dX8_loosen_12 : decode cX8_loosen 12 = .ok (.iload_n 1, 1) := by decide +kernel
theorem dX8_loosen_13 : decode cX8_loosen 13 = .ok (.iload_n 2, 1) := by decide +kernel
theorem dX8_loosen_14 : decode cX8_loosen 14 = .ok (.invokestatic 43, 3) := by decide +kernel
theorem dX8_loosen_17 : decode cX8_loosen 17 = .ok (.aconst_null, 1) := by decide +kernel
theorem dX8_loosen_18 : decode cX8_loosen 18 = .ok (.aastore, 1) := by decide +kernel
theorem dX8_loosen_19 : decode cX8_loosen 19 = .ok (.return_, 1) := by decide +kernel
theorem dX8_join_0 : decode cX8_join 0 = .ok (.iload_n 1, 1) := by decide +kernel
theorem dX8_join_1 : decode cX8_join 1 = .ok (.iload_n 2, 1) := by decide +kernel
theorem dX8_join_2 : decode cX8_join 2 = .ok (.invokestatic 39, 3) := by decide +kernel
theorem dX8_join_5 : decode cX8_join 5 = .ok (.ifCond .eq 19, 3) := by decide +kernel
theorem dX8_join_8 : decode cX8_join 8 = .ok (.aload_n 0, 1) := by decide +kernel
theorem dX8_join_9 : decode cX8_join 9 = .ok (.getfield 17, 3) := by decide +kernel
theorem dX8_join_12 : decode cX8_join 12 = .ok (.iload_n 1, 1) := by decide +kernel
theorem dX8_join_13 : decode cX8_join 13 = .ok (.iload_n 2, 1) := by decide +kernel
theorem dX8_join_14 : decode cX8_join 14 = .ok (.invokestatic 43, 3) := by decide +kernel
theorem dX8_join_17 : decode cX8_join 17 = .ok (.aload_n 0, 1) := by decide +kernel
theorem dX8_join_18 : decode cX8_join 18 = .ok (.iload_n 3, 1) := by decide +kernel
theorem dX8_join_19 : decode cX8_join 19 = .ok (.iload_n 2, 1) := by decide +kernel
theorem dX8_join_20 : decode cX8_join 20 = .ok (.invokevirtual 47, 3) := by decide +kernel
theorem dX8_join_23 : decode cX8_join 23 = .ok (.aastore, 1) := by decide +kernel
theorem dX8_join_24 : decode cX8_join 24 = .ok (.return_, 1) := by decide +kernel
theorem dX8_stretch_0 : decode cX8_stretch 0 = .ok (.iload_n 1, 1) := by decide +kernel
theorem dX8_stretch_1 : decode cX8_stretch 1 = .ok (.iload_n 2, 1) := by decide +kernel
theorem dX8_stretch_2 : decode cX8_stretch 2 = .ok (.invokestatic 39, 3) := by decide +kernel
theorem dX8_stretch_5 : decode cX8_stretch 5 = .ok (.ifCond .ne 4, 3) := by decide +kernel
theorem dX8_stretch_8 : decode cX8_stretch 8 = .ok (.return_, 1) := by decide +kernel
theorem dX8_stretch_9 : decode cX8_stretch 9 = .ok (.aload_n 0, 1) := by decide +kernel
theorem dX8_stretch_10 : decode cX8_stretch 10 = .ok (.iload_n 1, 1) := by decide +kernel
theorem dX8_stretch_11 : decode cX8_stretch 11 = .ok (.iload_n 2, 1) := by decide +kernel
theorem dX8_stretch_12 : decode cX8_stretch 12 = .ok (.invokevirtual 51, 3) := by decide +kernel
theorem dX8_stretch_15 : decode cX8_stretch 15 = .ok (.aload_n 0, 1) := by decide +kernel
theorem dX8_stretch_16 : decode cX8_stretch 16 = .ok (.iload_n 2, 1) := by decide +kernel
theorem dX8_stretch_17 : decode cX8_stretch 17 = .ok (.invokevirtual 55, 3) := by decide +kernel
theorem dX8_stretch_20 : decode cX8_stretch 20 = .ok (.astore 4, 2) := by decide +kernel
theorem dX8_stretch_22 : decode cX8_stretch 22 = .ok (.aload 4, 2) := by decide +kernel
theorem dX8_stretch_24 : decode cX8_stretch 24 = .ok (.ifnull 9, 3) := by decide +kernel
theorem dX8_stretch_27 : decode cX8_stretch 27 = .ok (.aload 4, 2) := by decide +kernel
theorem dX8_stretch_29 : decode cX8_stretch 29 = .ok (.iload_n 3, 1) := by decide +kernel
theorem dX8_stretch_30 : decode cX8_stretch 30 = .ok (.invokevirtual 58, 3) := by decide +kernel
theorem dX8_stretch_33 : decode cX8_stretch 33 = .ok (.aload_n 0, 1) := by decide +kernel
theorem dX8_stretch_34 : decode cX8_stretch 34 = .ok (.getfield 17, 3) := by decide +kernel
theorem dX8_stretch_37 : decode cX8_stretch 37 = .ok (.iload_n 1, 1) := by decide +kernel
theorem dX8_stretch_38 : decode cX8_stretch 38 = .ok (.iload_n 2, 1) := by decide +kernel
theorem dX8_stretch_39 : decode cX8_stretch 39 = .ok (.invokestatic 43, 3) := by decide +kernel
theorem dX8_stretch_42 : decode cX8_stretch 42 = .ok (.aload 4, 2) := by decide +kernel
theorem dX8_stretch_44 : decode cX8_stretch 44 = .ok (.aastore, 1) := by decide +kernel
theorem dX8_stretch_45 : decode cX8_stretch 45 = .ok (.return_, 1) := by decide +kernel
theorem dX8_spareLane_0 : decode cX8_spareLane 0 = .ok (.iconst 0, 1) := by decide +kernel
theorem dX8_spareLane_1 : decode cX8_spareLane 1 = .ok (.istore_n 2, 1) := by decide +kernel
theorem dX8_spareLane_2 : decode cX8_spareLane 2 = .ok (.iload_n 2, 1) := by decide +kernel
theorem dX8_spareLane_3 : decode cX8_spareLane 3 = .ok (.iconst 4, 1) := by decide +kernel
theorem dX8_spareLane_4 : decode cX8_spareLane 4 = .ok (.if_icmp .ge 31, 3) := by decide +kernel
theorem dX8_spareLane_7 : decode cX8_spareLane 7 = .ok (.aload_n 0, 1) := by decide +kernel
theorem dX8_spareLane_8 : decode cX8_spareLane 8 = .ok (.getfield 11, 3) := by decide +kernel
theorem dX8_spareLane_11 : decode cX8_spareLane 11 = .ok (.iload_n 2, 1) := by decide +kernel
theorem dX8_spareLane_12 : decode cX8_spareLane 12 = .ok (.iload_n 1, 1) := by decide +kernel
theorem dX8_spareLane_13 : decode cX8_spareLane 13 = .ok (.invokestatic 43, 3) := by decide +kernel
theorem dX8_spareLane_16 : decode cX8_spareLane 16 = .ok (.aaload, 1) := by decide +kernel
theorem dX8_spareLane_17 : decode cX8_spareLane 17 = .ok (.astore_n 3, 1) := by decide +kernel
theorem dX8_spareLane_18 : decode cX8_spareLane 18 = .ok (.aload_n 0, 1) := by decide +kernel
theorem dX8_spareLane_19 : decode cX8_spareLane 19 = .ok (.aload_n 3, 1) := by decide +kernel
theorem dX8_spareLane_20 : decode cX8_spareLane 20 = .ok (.iload_n 1, 1) := by decide +kernel
theorem dX8_spareLane_21 : decode cX8_spareLane 21 = .ok (.invokevirtual 61, 3) := by decide +kernel
theorem dX8_spareLane_24 : decode cX8_spareLane 24 = .ok (.ifCond .ne 5, 3) := by decide +kernel
theorem dX8_spareLane_27 : decode cX8_spareLane 27 = .ok (.aload_n 3, 1) := by decide +kernel
theorem dX8_spareLane_28 : decode cX8_spareLane 28 = .ok (.areturn, 1) := by decide +kernel
theorem dX8_spareLane_29 : decode cX8_spareLane 29 = .ok (.iinc 2 1, 3) := by decide +kernel
theorem dX8_spareLane_32 : decode cX8_spareLane 32 = .ok (.goto (-30), 3) := by decide +kernel
theorem dX8_spareLane_35 : decode cX8_spareLane 35 = .ok (.aconst_null, 1) := by decide +kernel
theorem dX8_spareLane_36 : decode cX8_spareLane 36 = .ok (.areturn, 1) := by decide +kernel
theorem dX8_isHeld_0 : decode cX8_isHeld 0 = .ok (.iconst 0, 1) := by decide +kernel
theorem dX8_isHeld_1 : decode cX8_isHeld 1 = .ok (.istore_n 3, 1) := by decide +kernel
theorem dX8_isHeld_2 : decode cX8_isHeld 2 = .ok (.iload_n 3, 1) := by decide +kernel
theorem dX8_isHeld_3 : decode cX8_isHeld 3 = .ok (.iconst 4, 1) := by decide +kernel
theorem dX8_isHeld_4 : decode cX8_isHeld 4 = .ok (.if_icmp .ge 25, 3) := by decide +kernel
theorem dX8_isHeld_7 : decode cX8_isHeld 7 = .ok (.aload_n 0, 1) := by decide +kernel
theorem dX8_isHeld_8 : decode cX8_isHeld 8 = .ok (.getfield 17, 3) := by decide +kernel
theorem dX8_isHeld_11 : decode cX8_isHeld 11 = .ok (.iload_n 3, 1) := by decide +kernel
theorem dX8_isHeld_12 : decode cX8_isHeld 12 = .ok (.iload_n 2, 1) := by decide +kernel
theorem dX8_isHeld_13 : decode cX8_isHeld 13 = .ok (.invokestatic 43, 3) := by decide +kernel
theorem dX8_isHeld_16 : decode cX8_isHeld 16 = .ok (.aaload, 1) := by decide +kernel
theorem dX8_isHeld_17 : decode cX8_isHeld 17 = .ok (.aload_n 1, 1) := by decide +kernel
theorem dX8_isHeld_18 : decode cX8_isHeld 18 = .ok (.if_acmp .ne 5, 3) := by decide +kernel
theorem dX8_isHeld_21 : decode cX8_isHeld 21 = .ok (.iconst 1, 1) := by decide +kernel
theorem dX8_isHeld_22 : decode cX8_isHeld 22 = .ok (.ireturn, 1) := by decide +kernel
theorem dX8_isHeld_23 : decode cX8_isHeld 23 = .ok (.iinc 3 1, 3) := by decide +kernel
theorem dX8_isHeld_26 : decode cX8_isHeld 26 = .ok (.goto (-24), 3) := by decide +kernel
theorem dX8_isHeld_29 : decode cX8_isHeld 29 = .ok (.iconst 0, 1) := by decide +kernel
theorem dX8_isHeld_30 : decode cX8_isHeld 30 = .ok (.ireturn, 1) := by decide +kernel
theorem dX9_init_0 : decode cX9_init 0 = .ok (.aload_n 0, 1) := by decide +kernel
theorem dX9_init_1 : decode cX9_init 1 = .ok (.invokespecial 3, 3) := by decide +kernel
theorem dX9_init_4 : decode cX9_init 4 = .ok (.aload_n 0, 1) := by decide +kernel
theorem dX9_init_5 : decode cX9_init 5 = .ok (.bipush 24, 2) := by decide +kernel
theorem dX9_init_7 : decode cX9_init 7 = .ok (.newarray .int, 2) := by decide +kernel
theorem dX9_init_9 : decode cX9_init 9 = .ok (.putfield 9, 3) := by decide +kernel
theorem dX9_init_12 : decode cX9_init 12 = .ok (.aload_n 0, 1) := by decide +kernel
theorem dX9_init_13 : decode cX9_init 13 = .ok (.iload_n 1, 1) := by decide +kernel
theorem dX9_init_14 : decode cX9_init 14 = .ok (.putfield 15, 3) := by decide +kernel
theorem dX9_init_17 : decode cX9_init 17 = .ok (.return_, 1) := by decide +kernel
theorem dX9_fit_0 : decode cX9_fit 0 = .ok (.aload_n 0, 1) := by decide +kernel
theorem dX9_fit_1 : decode cX9_fit 1 = .ok (.getfield 15, 3) := by decide +kernel
theorem dX9_fit_4 : decode cX9_fit 4 = .ok (.lookupswitch 34 #[(0, 28), (1, 31)], 28) := by decide +kernel
theorem dX9_fit_32 : decode cX9_fit 32 = .ok (.iload_n 1, 1) := by decide +kernel
theorem dX9_fit_33 : decode cX9_fit 33 = .ok (.i2c, 1) := by decide +kernel
theorem dX9_fit_34 : decode cX9_fit 34 = .ok (.ireturn, 1) := by decide +kernel
theorem dX9_fit_35 : decode cX9_fit 35 = .ok (.iload_n 1, 1) := by decide +kernel
theorem dX9_fit_36 : decode cX9_fit 36 = .ok (.i2s, 1) := by decide +kernel
theorem dX9_fit_37 : decode cX9_fit 37 = .ok (.ireturn, 1) := by decide +kernel
theorem dX9_fit_38 : decode cX9_fit 38 = .ok (.iload_n 1, 1) := by decide +kernel
theorem dX9_fit_39 : decode cX9_fit 39 = .ok (.i2b, 1) := by decide +kernel
theorem dX9_fit_40 : decode cX9_fit 40 = .ok (.ireturn, 1) := by decide +kernel
theorem dX9_reset_0 : decode cX9_reset 0 = .ok (.aload_n 0, 1) := by decide +kernel
theorem dX9_reset_1 : decode cX9_reset 1 = .ok (.getfield 9, 3) := by decide +kernel
theorem dX9_reset_4 : decode cX9_reset 4 = .ok (.iload_n 1, 1) := by decide +kernel
theorem dX9_reset_5 : decode cX9_reset 5 = .ok (.iconst 0, 1) := by decide +kernel
theorem dX9_reset_6 : decode cX9_reset 6 = .ok (.iastore, 1) := by decide +kernel
theorem dX9_reset_7 : decode cX9_reset 7 = .ok (.return_, 1) := by decide +kernel
theorem dX9_tells_0 : decode cX9_tells 0 = .ok (.aload_n 0, 1) := by decide +kernel
theorem dX9_tells_1 : decode cX9_tells 1 = .ok (.getfield 9, 3) := by decide +kernel
theorem dX9_tells_4 : decode cX9_tells 4 = .ok (.iload_n 1, 1) := by decide +kernel
theorem dX9_tells_5 : decode cX9_tells 5 = .ok (.iaload, 1) := by decide +kernel
theorem dX9_tells_6 : decode cX9_tells 6 = .ok (.ireturn, 1) := by decide +kernel
theorem dX9_lay_0 : decode cX9_lay 0 = .ok (.aload_n 0, 1) := by decide +kernel
theorem dX9_lay_1 : decode cX9_lay 1 = .ok (.getfield 9, 3) := by decide +kernel
theorem dX9_lay_4 : decode cX9_lay 4 = .ok (.iload_n 1, 1) := by decide +kernel
theorem dX9_lay_5 : decode cX9_lay 5 = .ok (.aload_n 0, 1) := by decide +kernel
theorem dX9_lay_6 : decode cX9_lay 6 = .ok (.iload_n 2, 1) := by decide +kernel
theorem dX9_lay_7 : decode cX9_lay 7 = .ok (.invokevirtual 19, 3) := by decide +kernel
theorem dX9_lay_10 : decode cX9_lay 10 = .ok (.iastore, 1) := by decide +kernel
theorem dX9_lay_11 : decode cX9_lay 11 = .ok (.return_, 1) := by decide +kernel
theorem dX9_pull_0 : decode cX9_pull 0 = .ok (.aload_n 0, 1) := by decide +kernel
theorem dX9_pull_1 : decode cX9_pull 1 = .ok (.getfield 9, 3) := by decide +kernel
theorem dX9_pull_4 : decode cX9_pull 4 = .ok (.iload_n 1, 1) := by decide +kernel
theorem dX9_pull_5 : decode cX9_pull 5 = .ok (.aload_n 0, 1) := by decide +kernel
theorem dX9_pull_6 : decode cX9_pull 6 = .ok (.aload_n 0, 1) := by decide +kernel
theorem dX9_pull_7 : decode cX9_pull 7 = .ok (.getfield 9, 3) := by decide +kernel
theorem dX9_pull_10 : decode cX9_pull 10 = .ok (.iload_n 1, 1) := by decide +kernel
theorem dX9_pull_11 : decode cX9_pull 11 = .ok (.iaload, 1) := by decide +kernel
theorem dX9_pull_12 : decode cX9_pull 12 = .ok (.iload_n 2, 1) := by decide +kernel
theorem dX9_pull_13 : decode cX9_pull 13 = .ok (.iadd, 1) := by decide +kernel
theorem dX9_pull_14 : decode cX9_pull 14 = .ok (.invokevirtual 19, 3) := by decide +kernel
theorem dX9_pull_17 : decode cX9_pull 17 = .ok (.iastore, 1) := by decide +kernel
theorem dX9_pull_18 : decode cX9_pull 18 = .ok (.return_, 1) := by decide +kernel
theorem dX9_turn_0 : decode cX9_turn 0 = .ok (.aload_n 0, 1) := by decide +kernel
theorem dX9_turn_1 : decode cX9_turn 1 = .ok (.getfield 9, 3) := by decide +kernel
theorem dX9_turn_4 : decode cX9_turn 4 = .ok (.iload_n 1, 1) := by decide +kernel
theorem dX9_turn_5 : decode cX9_turn 5 = .ok (.aload_n 0, 1) := by decide +kernel
theorem dX9_turn_6 : decode cX9_turn 6 = .ok (.aload_n 0, 1) := by decide +kernel
theorem dX9_turn_7 : decode cX9_turn 7 = .ok (.getfield 9, 3) := by decide +kernel
theorem dX9_turn_10 : decode cX9_turn 10 = .ok (.iload_n 1, 1) := by decide +kernel
theorem dX9_turn_11 : decode cX9_turn 11 = .ok (.iaload, 1) := by decide +kernel
theorem dX9_turn_12 : decode cX9_turn 12 = .ok (.iconst 1, 1) := by decide +kernel
theorem dX9_turn_13 : decode cX9_turn 13 = .ok (.iadd, 1) := by decide +kernel
theorem dX9_turn_14 : decode cX9_turn 14 = .ok (.invokevirtual 19, 3) := by decide +kernel
theorem dX9_turn_17 : decode cX9_turn 17 = .ok (.iastore, 1) := by decide +kernel
theorem dX9_turn_18 : decode cX9_turn 18 = .ok (.return_, 1) := by decide +kernel
theorem dX9_part_0 : decode cX9_part 0 = .ok (.iload_n 2, 1) := by decide +kernel
theorem dX9_part_1 : decode cX9_part 1 = .ok (.ifCond .ne 5, 3) := by decide +kernel
theorem dX9_part_4 : decode cX9_part 4 = .ok (.iconst 0, 1) := by decide +kernel
theorem dX9_part_5 : decode cX9_part 5 = .ok (.ireturn, 1) := by decide +kernel
theorem dX9_part_6 : decode cX9_part 6 = .ok (.aload_n 0, 1) := by decide +kernel
theorem dX9_part_7 : decode cX9_part 7 = .ok (.getfield 9, 3) := by decide +kernel
theorem dX9_part_10 : decode cX9_part 10 = .ok (.iload_n 1, 1) := by decide +kernel
theorem dX9_part_11 : decode cX9_part 11 = .ok (.aload_n 0, 1) := by decide +kernel
theorem dX9_part_12 : decode cX9_part 12 = .ok (.aload_n 0, 1) := by decide +kernel
theorem dX9_part_13 : decode cX9_part 13 = .ok (.getfield 9, 3) := by decide +kernel
theorem dX9_part_16 : decode cX9_part 16 = .ok (.iload_n 1, 1) := by decide +kernel
theorem dX9_part_17 : decode cX9_part 17 = .ok (.iaload, 1) := by decide +kernel
theorem dX9_part_18 : decode cX9_part 18 = .ok (.iload_n 2, 1) := by decide +kernel
theorem dX9_part_19 : decode cX9_part 19 = .ok (.idiv, 1) := by decide +kernel
theorem dX9_part_20 : decode cX9_part 20 = .ok (.invokevirtual 19, 3) := by decide +kernel
theorem dX9_part_23 : decode cX9_part 23 = .ok (.iastore, 1) := by decide +kernel
theorem dX9_part_24 : decode cX9_part 24 = .ok (.iconst 1, 1) := by decide +kernel
theorem dX9_part_25 : decode cX9_part 25 = .ok (.ireturn, 1) := by decide +kernel
theorem dX9_exchange_0 : decode cX9_exchange 0 = .ok (.aload_n 0, 1) := by decide +kernel
theorem dX9_exchange_1 : decode cX9_exchange 1 = .ok (.getfield 9, 3) := by decide +kernel
theorem dX9_exchange_4 : decode cX9_exchange 4 = .ok (.iload_n 1, 1) := by decide +kernel
theorem dX9_exchange_5 : decode cX9_exchange 5 = .ok (.iaload, 1) := by decide +kernel
theorem dX9_exchange_6 : decode cX9_exchange 6 = .ok (.istore_n 3, 1) := by decide +kernel
theorem dX9_exchange_7 : decode cX9_exchange 7 = .ok (.aload_n 0, 1) := by decide +kernel
theorem dX9_exchange_8 : decode cX9_exchange 8 = .ok (.getfield 9, 3) := by decide +kernel
theorem dX9_exchange_11 : decode cX9_exchange 11 = .ok (.iload_n 1, 1) := by decide +kernel
theorem dX9_exchange_12 : decode cX9_exchange 12 = .ok (.aload_n 0, 1) := by decide +kernel
theorem dX9_exchange_13 : decode cX9_exchange 13 = .ok (.getfield 9, 3) := by decide +kernel
theorem dX9_exchange_16 : decode cX9_exchange 16 = .ok (.iload_n 2, 1) := by decide +kernel
theorem dX9_exchange_17 : decode cX9_exchange 17 = .ok (.iaload, 1) := by decide +kernel
theorem dX9_exchange_18 : decode cX9_exchange 18 = .ok (.iastore, 1) := by decide +kernel
theorem dX9_exchange_19 : decode cX9_exchange 19 = .ok (.aload_n 0, 1) := by decide +kernel
theorem dX9_exchange_20 : decode cX9_exchange 20 = .ok (.getfield 9, 3) := by decide +kernel
theorem dX9_exchange_23 : decode cX9_exchange 23 = .ok (.iload_n 2, 1) := by decide +kernel
theorem dX9_exchange_24 : decode cX9_exchange 24 = .ok (.iload_n 3, 1) := by decide +kernel
theorem dX9_exchange_25 : decode cX9_exchange 25 = .ok (.iastore, 1) := by decide +kernel
theorem dX9_exchange_26 : decode cX9_exchange 26 = .ok (.return_, 1) := by decide +kernel
theorem dX10_init_0 : decode cX10_init 0 = .ok (.aload_n 0, 1) := by decide +kernel
theorem dX10_init_1 : decode cX10_init 1 = .ok (.invokespecial 1, 3) := by decide +kernel
theorem dX10_init_4 : decode cX10_init 4 = .ok (.aload_n 0, 1) := by decide +kernel
theorem dX10_init_5 : decode cX10_init 5 = .ok (.new 7, 3) := by decide +kernel
theorem dX10_init_8 : decode cX10_init 8 = .ok (.dup, 1) := by decide +kernel
theorem dX10_init_9 : decode cX10_init 9 = .ok (.invokespecial 9, 3) := by decide +kernel
theorem dX10_init_12 : decode cX10_init 12 = .ok (.putfield 10, 3) := by decide +kernel
theorem dX10_init_15 : decode cX10_init 15 = .ok (.aload_n 0, 1) := by decide +kernel
theorem dX10_init_16 : decode cX10_init 16 = .ok (.new 16, 3) := by decide +kernel
theorem dX10_init_19 : decode cX10_init 19 = .ok (.dup, 1) := by decide +kernel
theorem dX10_init_20 : decode cX10_init 20 = .ok (.invokespecial 18, 3) := by decide +kernel
theorem dX10_init_23 : decode cX10_init 23 = .ok (.putfield 19, 3) := by decide +kernel
theorem dX10_init_26 : decode cX10_init 26 = .ok (.aload_n 0, 1) := by decide +kernel
theorem dX10_init_27 : decode cX10_init 27 = .ok (.new 23, 3) := by decide +kernel
theorem dX10_init_30 : decode cX10_init 30 = .ok (.dup, 1) := by decide +kernel
theorem dX10_init_31 : decode cX10_init 31 = .ok (.invokespecial 25, 3) := by decide +kernel
theorem dX10_init_34 : decode cX10_init 34 = .ok (.putfield 26, 3) := by decide +kernel
theorem dX10_init_37 : decode cX10_init 37 = .ok (.aload_n 0, 1) := by decide +kernel
theorem dX10_init_38 : decode cX10_init 38 = .ok (.new 30, 3) := by decide +kernel
theorem dX10_init_41 : decode cX10_init 41 = .ok (.dup, 1) := by decide +kernel
theorem dX10_init_42 : decode cX10_init 42 = .ok (.invokespecial 32, 3) := by decide +kernel
theorem dX10_init_45 : decode cX10_init 45 = .ok (.putfield 33, 3) := by decide +kernel
theorem dX10_init_48 : decode cX10_init 48 = .ok (.aload_n 0, 1) := by decide +kernel
theorem dX10_init_49 : decode cX10_init 49 = .ok (.new 37, 3) := by decide +kernel
theorem dX10_init_52 : decode cX10_init 52 = .ok (.dup, 1) := by decide +kernel
theorem dX10_init_53 : decode cX10_init 53 = .ok (.invokespecial 39, 3) := by decide +kernel
theorem dX10_init_56 : decode cX10_init 56 = .ok (.putfield 40, 3) := by decide +kernel
theorem dX10_init_59 : decode cX10_init 59 = .ok (.aload_n 0, 1) := by decide +kernel
theorem dX10_init_60 : decode cX10_init 60 = .ok (.iconst 0, 1) := by decide +kernel
theorem dX10_init_61 : decode cX10_init 61 = .ok (.putfield 44, 3) := by decide +kernel
theorem dX10_init_64 : decode cX10_init 64 = .ok (.aload_n 0, 1) := by decide +kernel
theorem dX10_init_65 : decode cX10_init 65 = .ok (.iconst 0, 1) := by decide +kernel
theorem dX10_init_66 : decode cX10_init 66 = .ok (.putfield 48, 3) := by decide +kernel
theorem dX10_init_69 : decode cX10_init 69 = .ok (.aload_n 0, 1) := by decide +kernel
theorem dX10_init_70 : decode cX10_init 70 = .ok (.iconst 0, 1) := by decide +kernel
theorem dX10_init_71 : decode cX10_init 71 = .ok (.putfield 51, 3) := by decide +kernel
theorem dX10_init_74 : decode cX10_init 74 = .ok (.return_, 1) := by decide +kernel
theorem dX10_thread_0 : decode cX10_thread 0 = .ok (.iload_n 1, 1) := by decide +kernel
theorem dX10_thread_1 : decode cX10_thread 1 = .ok (.iload_n 2, 1) := by decide +kernel
theorem dX10_thread_2 : decode cX10_thread 2 = .ok (.invokestatic 54, 3) := by decide +kernel
theorem dX10_thread_5 : decode cX10_thread 5 = .ok (.ifCond .eq 9, 3) := by decide +kernel
theorem dX10_thread_8 : decode cX10_thread 8 = .ok (.iload_n 3, 1) := by decide +kernel
theorem dX10_thread_9 : decode cX10_thread 9 = .ok (.bipush 24, 2) := by decide +kernel
theorem dX10_thread_11 : decode cX10_thread 11 = .ok (.if_icmp .le 6, 3) := by decide +kernel
theorem dX10_thread_14 : decode cX10_thread 14 = .ok (.ldc 58, 2) := by decide +kernel
theorem dX10_thread_16 : decode cX10_thread 16 = .ok (.ireturn, 1) := by decide +kernel
theorem dX10_thread_17 : decode cX10_thread 17 = .ok (.aload_n 0, 1) := by decide +kernel
theorem dX10_thread_18 : decode cX10_thread 18 = .ok (.getfield 40, 3) := by decide +kernel
theorem dX10_thread_21 : decode cX10_thread 21 = .ok (.invokevirtual 59, 3) := by decide +kernel
theorem dX10_thread_24 : decode cX10_thread 24 = .ok (.iload_n 3, 1) := by decide +kernel
theorem dX10_thread_25 : decode cX10_thread 25 = .ok (.ifCond .ge 12, 3) := by decide +kernel
theorem dX10_thread_28 : decode cX10_thread 28 = .ok (.aload_n 0, 1) := by decide +kernel
theorem dX10_thread_29 : decode cX10_thread 29 = .ok (.getfield 40, 3) := by decide +kernel
theorem dX10_thread_32 : decode cX10_thread 32 = .ok (.iconst 3, 1) := by decide +kernel
theorem dX10_thread_33 : decode cX10_thread 33 = .ok (.invokevirtual 62, 3) := by decide +kernel
theorem dX10_thread_36 : decode cX10_thread 36 = .ok (.ireturn, 1) := by decide +kernel
theorem dX10_thread_37 : decode cX10_thread 37 = .ok (.aload_n 0, 1) := by decide +kernel
theorem dX10_thread_38 : decode cX10_thread 38 = .ok (.getfield 10, 3) := by decide +kernel
theorem dX10_thread_41 : decode cX10_thread 41 = .ok (.iload_n 1, 1) := by decide +kernel
theorem dX10_thread_42 : decode cX10_thread 42 = .ok (.iload_n 2, 1) := by decide +kernel
theorem dX10_thread_43 : decode cX10_thread 43 = .ok (.iload_n 3, 1) := by decide +kernel
theorem dX10_thread_44 : decode cX10_thread 44 = .ok (.invokevirtual 66, 3) := by decide +kernel
theorem dX10_thread_47 : decode cX10_thread 47 = .ok (.iload_n 3, 1) := by decide +kernel
theorem dX10_thread_48 : decode cX10_thread 48 = .ok (.ireturn, 1) := by decide +kernel
theorem dX10_cut_0 : decode cX10_cut 0 = .ok (.iload_n 1, 1) := by decide +kernel
theorem dX10_cut_1 : decode cX10_cut 1 = .ok (.iload_n 2, 1) := by decide +kernel
theorem dX10_cut_2 : decode cX10_cut 2 = .ok (.invokestatic 54, 3) := by decide +kernel
theorem dX10_cut_5 : decode cX10_cut 5 = .ok (.ifCond .ne 6, 3) := by decide +kernel
theorem dX10_cut_8 : decode cX10_cut 8 = .ok (.ldc 58, 2) := by decide +kernel
theorem dX10_cut_10 : decode cX10_cut 10 = .ok (.ireturn, 1) := by decide +kernel
theorem dX10_cut_11 : decode cX10_cut 11 = .ok (.aload_n 0, 1) := by decide +kernel
theorem dX10_cut_12 : decode cX10_cut 12 = .ok (.getfield 10, 3) := by decide +kernel
theorem dX10_cut_15 : decode cX10_cut 15 = .ok (.iload_n 1, 1) := by decide +kernel
theorem dX10_cut_16 : decode cX10_cut 16 = .ok (.iload_n 2, 1) := by decide +kernel
theorem dX10_cut_17 : decode cX10_cut 17 = .ok (.invokevirtual 70, 3) := by decide +kernel
theorem dX10_cut_20 : decode cX10_cut 20 = .ok (.ifnull 7, 3) := by decide +kernel
theorem dX10_cut_23 : decode cX10_cut 23 = .ok (.iconst 1, 1) := by decide +kernel
theorem dX10_cut_24 : decode cX10_cut 24 = .ok (.goto 4, 3) := by decide +kernel
theorem dX10_cut_27 : decode cX10_cut 27 = .ok (.iconst 0, 1) := by decide +kernel
theorem dX10_cut_28 : decode cX10_cut 28 = .ok (.istore_n 3, 1) := by decide +kernel
theorem dX10_cut_29 : decode cX10_cut 29 = .ok (.aload_n 0, 1) := by decide +kernel
theorem dX10_cut_30 : decode cX10_cut 30 = .ok (.getfield 10, 3) := by decide +kernel
theorem dX10_cut_33 : decode cX10_cut 33 = .ok (.iload_n 1, 1) := by decide +kernel
theorem dX10_cut_34 : decode cX10_cut 34 = .ok (.iload_n 2, 1) := by decide +kernel
theorem dX10_cut_35 : decode cX10_cut 35 = .ok (.invokevirtual 74, 3) := by decide +kernel
theorem dX10_cut_38 : decode cX10_cut 38 = .ok (.iload_n 3, 1) := by decide +kernel
theorem dX10_cut_39 : decode cX10_cut 39 = .ok (.ifCond .eq 7, 3) := by decide +kernel
theorem dX10_cut_42 : decode cX10_cut 42 = .ok (.iconst 1, 1) := by decide +kernel
theorem dX10_cut_43 : decode cX10_cut 43 = .ok (.goto 4, 3) := by decide +kernel
theorem dX10_cut_46 : decode cX10_cut 46 = .ok (.iconst 0, 1) := by decide +kernel
theorem dX10_cut_47 : decode cX10_cut 47 = .ok (.ireturn, 1) := by decide +kernel
theorem dX10_tie_0 : decode cX10_tie 0 = .ok (.iload_n 1, 1) := by decide +kernel
theorem dX10_tie_1 : decode cX10_tie 1 = .ok (.iload_n 2, 1) := by decide +kernel
theorem dX10_tie_2 : decode cX10_tie 2 = .ok (.invokestatic 54, 3) := by decide +kernel
theorem dX10_tie_5 : decode cX10_tie 5 = .ok (.ifCond .eq 10, 3) := by decide +kernel
theorem dX10_tie_8 : decode cX10_tie 8 = .ok (.iload_n 3, 1) := by decide +kernel
theorem dX10_tie_9 : decode cX10_tie 9 = .ok (.invokestatic 78, 3) := by decide +kernel
theorem dX10_tie_12 : decode cX10_tie 12 = .ok (.ifCond .ne 6, 3) := by decide +kernel
theorem dX10_tie_15 : decode cX10_tie 15 = .ok (.ldc 58, 2) := by decide +kernel
theorem dX10_tie_17 : decode cX10_tie 17 = .ok (.ireturn, 1) := by decide +kernel
theorem dX10_tie_18 : decode cX10_tie 18 = .ok (.aload_n 0, 1) := by decide +kernel
theorem dX10_tie_19 : decode cX10_tie 19 = .ok (.getfield 40, 3) := by decide +kernel
theorem dX10_tie_22 : decode cX10_tie 22 = .ok (.invokevirtual 59, 3) := by decide +kernel
theorem dX10_tie_25 : decode cX10_tie 25 = .ok (.aload_n 0, 1) := by decide +kernel
theorem dX10_tie_26 : decode cX10_tie 26 = .ok (.getfield 10, 3) := by decide +kernel
theorem dX10_tie_29 : decode cX10_tie 29 = .ok (.iload_n 1, 1) := by decide +kernel
theorem dX10_tie_30 : decode cX10_tie 30 = .ok (.iload_n 2, 1) := by decide +kernel
theorem dX10_tie_31 : decode cX10_tie 31 = .ok (.iload_n 3, 1) := by decide +kernel
theorem dX10_tie_32 : decode cX10_tie 32 = .ok (.invokevirtual 82, 3) := by decide +kernel
theorem dX10_tie_35 : decode cX10_tie 35 = .ok (.aload_n 0, 1) := by decide +kernel
theorem dX10_tie_36 : decode cX10_tie 36 = .ok (.getfield 10, 3) := by decide +kernel
theorem dX10_tie_39 : decode cX10_tie 39 = .ok (.iload_n 1, 1) := by decide +kernel
theorem dX10_tie_40 : decode cX10_tie 40 = .ok (.iload_n 2, 1) := by decide +kernel
theorem dX10_tie_41 : decode cX10_tie 41 = .ok (.invokevirtual 70, 3) := by decide +kernel
theorem dX10_tie_44 : decode cX10_tie 44 = .ok (.astore 4, 2) := by decide +kernel
theorem dX10_tie_46 : decode cX10_tie 46 = .ok (.aload 4, 2) := by decide +kernel
theorem dX10_tie_48 : decode cX10_tie 48 = .ok (.ifnonnull 7, 3) := by decide +kernel
theorem dX10_tie_51 : decode cX10_tie 51 = .ok (.iconst 0, 1) := by decide +kernel
theorem dX10_tie_52 : decode cX10_tie 52 = .ok (.goto 8, 3) := by decide +kernel
theorem dX10_tie_55 : decode cX10_tie 55 = .ok (.aload 4, 2) := by decide +kernel
theorem dX10_tie_57 : decode cX10_tie 57 = .ok (.invokevirtual 85, 3) := by decide +kernel
theorem dX10_tie_60 : decode cX10_tie 60 = .ok (.ireturn, 1) := by decide +kernel
theorem dX10_ends_0 : decode cX10_ends 0 = .ok (.iload_n 1, 1) := by decide +kernel
theorem dX10_ends_1 : decode cX10_ends 1 = .ok (.iload_n 2, 1) := by decide +kernel
theorem dX10_ends_2 : decode cX10_ends 2 = .ok (.invokestatic 54, 3) := by decide +kernel
theorem dX10_ends_5 : decode cX10_ends 5 = .ok (.ifCond .ne 6, 3) := by decide +kernel
theorem dX10_ends_8 : decode cX10_ends 8 = .ok (.ldc 58, 2) := by decide +kernel
theorem dX10_ends_10 : decode cX10_ends 10 = .ok (.ireturn, 1) := by decide +kernel
theorem dX10_ends_11 : decode cX10_ends 11 = .ok (.aload_n 0, 1) := by decide +kernel
theorem dX10_ends_12 : decode cX10_ends 12 = .ok (.getfield 40, 3) := by decide +kernel
theorem dX10_ends_15 : decode cX10_ends 15 = .ok (.invokevirtual 59, 3) := by decide +kernel
theorem dX10_ends_18 : decode cX10_ends 18 = .ok (.aload_n 0, 1) := by decide +kernel
theorem dX10_ends_19 : decode cX10_ends 19 = .ok (.getfield 10, 3) := by decide +kernel
theorem dX10_ends_22 : decode cX10_ends 22 = .ok (.iload_n 1, 1) := by decide +kernel
theorem dX10_ends_23 : decode cX10_ends 23 = .ok (.iload_n 2, 1) := by decide +kernel
theorem dX10_ends_24 : decode cX10_ends 24 = .ok (.invokevirtual 70, 3) := by decide +kernel
theorem dX10_ends_27 : decode cX10_ends 27 = .ok (.astore_n 3, 1) := by decide +kernel
theorem dX10_ends_28 : decode cX10_ends 28 = .ok (.aload_n 3, 1) := by decide +kernel
theorem dX10_ends_29 : decode cX10_ends 29 = .ok (.ifnonnull 14, 3) := by decide +kernel
theorem dX10_ends_32 : decode cX10_ends 32 = .ok (.aload_n 0, 1) := by decide +kernel
theorem dX10_ends_33 : decode cX10_ends 33 = .ok (.getfield 40, 3) := by decide +kernel
theorem dX10_ends_36 : decode cX10_ends 36 = .ok (.iconst 1, 1) := by decide +kernel
theorem dX10_ends_37 : decode cX10_ends 37 = .ok (.invokevirtual 62, 3) := by decide +kernel
theorem dX10_ends_40 : decode cX10_ends 40 = .ok (.goto 7, 3) := by decide +kernel
theorem dX10_ends_43 : decode cX10_ends 43 = .ok (.aload_n 3, 1) := by decide +kernel
theorem dX10_ends_44 : decode cX10_ends 44 = .ok (.invokevirtual 85, 3) := by decide +kernel
theorem dX10_ends_47 : decode cX10_ends 47 = .ok (.ireturn, 1) := by decide +kernel
theorem dX10_spool_0 : decode cX10_spool 0 = .ok (.aload_n 0, 1) := by decide +kernel
theorem dX10_spool_1 : decode cX10_spool 1 = .ok (.getfield 19, 3) := by decide +kernel
theorem dX10_spool_4 : decode cX10_spool 4 = .ok (.invokevirtual 91, 3) := by decide +kernel
theorem dX10_spool_7 : decode cX10_spool 7 = .ok (.ifCond .eq 6, 3) := by decide +kernel
theorem dX10_spool_10 : decode cX10_spool 10 = .ok (.ldc 58, 2) := by decide +kernel
theorem dX10_spool_12 : decode cX10_spool 12 = .ok (.ireturn, 1) := by decide +kernel
theorem dX10_spool_13 : decode cX10_spool 13 = .ok (.aload_n 0, 1) := by decide +kernel
theorem dX10_spool_14 : decode cX10_spool 14 = .ok (.getfield 19, 3) := by decide +kernel
theorem dX10_spool_17 : decode cX10_spool 17 = .ok (.iload_n 1, 1) := by decide +kernel
theorem dX10_spool_18 : decode cX10_spool 18 = .ok (.invokevirtual 95, 3) := by decide +kernel
theorem dX10_spool_21 : decode cX10_spool 21 = .ok (.aload_n 0, 1) := by decide +kernel
theorem dX10_spool_22 : decode cX10_spool 22 = .ok (.getfield 19, 3) := by decide +kernel
theorem dX10_spool_25 : decode cX10_spool 25 = .ok (.invokevirtual 99, 3) := by decide +kernel
theorem dX10_spool_28 : decode cX10_spool 28 = .ok (.ireturn, 1) := by decide +kernel
theorem dX10_act_0 : decode cX10_act 0 = .ok (.iload_n 1, 1) := by decide +kernel
theorem dX10_act_1 : decode cX10_act 1 = .ok (.invokestatic 100, 3) := by decide +kernel
theorem dX10_act_4 : decode cX10_act 4 = .ok (.ifCond .eq 11, 3) := by decide +kernel
theorem dX10_act_7 : decode cX10_act 7 = .ok (.iload_n 2, 1) := by decide +kernel
theorem dX10_act_8 : decode cX10_act 8 = .ok (.iload_n 3, 1) := by decide +kernel
theorem dX10_act_9 : decode cX10_act 9 = .ok (.invokestatic 54, 3) := by decide +kernel
theorem dX10_act_12 : decode cX10_act 12 = .ok (.ifCond .ne 6, 3) := by decide +kernel
theorem dX10_act_15 : decode cX10_act 15 = .ok (.ldc 58, 2) := by decide +kernel
theorem dX10_act_17 : decode cX10_act 17 = .ok (.ireturn, 1) := by decide +kernel
theorem dX10_act_18 : decode cX10_act 18 = .ok (.aload_n 0, 1) := by decide +kernel
theorem dX10_act_19 : decode cX10_act 19 = .ok (.iload_n 1, 1) := by decide +kernel
theorem dX10_act_20 : decode cX10_act 20 = .ok (.aload_n 0, 1) := by decide +kernel
theorem dX10_act_21 : decode cX10_act 21 = .ok (.getfield 10, 3) := by decide +kernel
theorem dX10_act_24 : decode cX10_act 24 = .ok (.iload_n 2, 1) := by decide +kernel
theorem dX10_act_25 : decode cX10_act 25 = .ok (.iload_n 3, 1) := by decide +kernel
theorem dX10_act_26 : decode cX10_act 26 = .ok (.invokevirtual 70, 3) := by decide +kernel
theorem dX10_act_29 : decode cX10_act 29 = .ok (.iload 4, 2) := by decide +kernel
theorem dX10_act_31 : decode cX10_act 31 = .ok (.iload 5, 2) := by decide +kernel
theorem dX10_act_33 : decode cX10_act 33 = .ok (.invokevirtual 103, 3) := by decide +kernel
theorem dX10_act_36 : decode cX10_act 36 = .ok (.ireturn, 1) := by decide +kernel
theorem dX10_swap_0 : decode cX10_swap 0 = .ok (.iload_n 1, 1) := by decide +kernel
theorem dX10_swap_1 : decode cX10_swap 1 = .ok (.iload_n 2, 1) := by decide +kernel
theorem dX10_swap_2 : decode cX10_swap 2 = .ok (.invokestatic 54, 3) := by decide +kernel
theorem dX10_swap_5 : decode cX10_swap 5 = .ok (.ifCond .ne 6, 3) := by decide +kernel
theorem dX10_swap_8 : decode cX10_swap 8 = .ok (.ldc 58, 2) := by decide +kernel
theorem dX10_swap_10 : decode cX10_swap 10 = .ok (.ireturn, 1) := by decide +kernel
theorem dX10_swap_11 : decode cX10_swap 11 = .ok (.aload_n 0, 1) := by decide +kernel
theorem dX10_swap_12 : decode cX10_swap 12 = .ok (.getfield 40, 3) := by decide +kernel
theorem dX10_swap_15 : decode cX10_swap 15 = .ok (.invokevirtual 59, 3) := by decide +kernel
theorem dX10_swap_18 : decode cX10_swap 18 = .ok (.aload_n 0, 1) := by decide +kernel
theorem dX10_swap_19 : decode cX10_swap 19 = .ok (.getfield 10, 3) := by decide +kernel
theorem dX10_swap_22 : decode cX10_swap 22 = .ok (.iload_n 1, 1) := by decide +kernel
theorem dX10_swap_23 : decode cX10_swap 23 = .ok (.iload_n 2, 1) := by decide +kernel
theorem dX10_swap_24 : decode cX10_swap 24 = .ok (.invokevirtual 70, 3) := by decide +kernel
theorem dX10_swap_27 : decode cX10_swap 27 = .ok (.astore 5, 2) := by decide +kernel
theorem dX10_swap_29 : decode cX10_swap 29 = .ok (.aload 5, 2) := by decide +kernel
theorem dX10_swap_31 : decode cX10_swap 31 = .ok (.ifnonnull 12, 3) := by decide +kernel
theorem dX10_swap_34 : decode cX10_swap 34 = .ok (.aload_n 0, 1) := by decide +kernel
theorem dX10_swap_35 : decode cX10_swap 35 = .ok (.getfield 40, 3) := by decide +kernel
theorem dX10_swap_38 : decode cX10_swap 38 = .ok (.iconst 1, 1) := by decide +kernel
theorem dX10_swap_39 : decode cX10_swap 39 = .ok (.invokevirtual 62, 3) := by decide +kernel
theorem dX10_swap_42 : decode cX10_swap 42 = .ok (.ireturn, 1) := by decide +kernel
theorem dX10_swap_43 : decode cX10_swap 43 = .ok (.aload 5, 2) := by decide +kernel
theorem dX10_swap_45 : decode cX10_swap 45 = .ok (.iload_n 3, 1) := by decide +kernel
theorem dX10_swap_46 : decode cX10_swap 46 = .ok (.invokevirtual 107, 3) := by decide +kernel
theorem dX10_swap_49 : decode cX10_swap 49 = .ok (.ifCond .eq 13, 3) := by decide +kernel
theorem dX10_swap_52 : decode cX10_swap 52 = .ok (.aload 5, 2) := by decide +kernel
theorem dX10_swap_54 : decode cX10_swap 54 = .ok (.iload 4, 2) := by decide +kernel
theorem dX10_swap_56 : decode cX10_swap 56 = .ok (.invokevirtual 107, 3) := by decide +kernel
theorem dX10_swap_59 : decode cX10_swap 59 = .ok (.ifCond .ne 12, 3) := by decide +kernel
theorem dX10_swap_62 : decode cX10_swap 62 = .ok (.aload_n 0, 1) := by decide +kernel
theorem dX10_swap_63 : decode cX10_swap 63 = .ok (.getfield 40, 3) := by decide +kernel
theorem dX10_swap_66 : decode cX10_swap 66 = .ok (.iconst 2, 1) := by decide +kernel
theorem dX10_swap_67 : decode cX10_swap 67 = .ok (.invokevirtual 62, 3) := by decide +kernel
theorem dX10_swap_70 : decode cX10_swap 70 = .ok (.ireturn, 1) := by decide +kernel
theorem dX10_swap_71 : decode cX10_swap 71 = .ok (.aload 5, 2) := by decide +kernel
theorem dX10_swap_73 : decode cX10_swap 73 = .ok (.iload_n 3, 1) := by decide +kernel
theorem dX10_swap_74 : decode cX10_swap 74 = .ok (.invokevirtual 110, 3) := by decide +kernel
theorem dX10_swap_77 : decode cX10_swap 77 = .ok (.istore 6, 2) := by decide +kernel
theorem dX10_swap_79 : decode cX10_swap 79 = .ok (.aload 5, 2) := by decide +kernel
theorem dX10_swap_81 : decode cX10_swap 81 = .ok (.iload_n 3, 1) := by decide +kernel
theorem dX10_swap_82 : decode cX10_swap 82 = .ok (.iload 4, 2) := by decide +kernel
theorem dX10_swap_84 : decode cX10_swap 84 = .ok (.invokevirtual 113, 3) := by decide +kernel
theorem dX10_swap_87 : decode cX10_swap 87 = .ok (.iload 6, 2) := by decide +kernel
theorem dX10_swap_89 : decode cX10_swap 89 = .ok (.ireturn, 1) := by decide +kernel
theorem dX10_cloth_0 : decode cX10_cloth 0 = .ok (.iload_n 1, 1) := by decide +kernel
theorem dX10_cloth_1 : decode cX10_cloth 1 = .ok (.bipush 24, 2) := by decide +kernel
theorem dX10_cloth_3 : decode cX10_cloth 3 = .ok (.if_icmp .gt 9, 3) := by decide +kernel
theorem dX10_cloth_6 : decode cX10_cloth 6 = .ok (.iload_n 2, 1) := by decide +kernel
theorem dX10_cloth_7 : decode cX10_cloth 7 = .ok (.bipush 24, 2) := by decide +kernel
theorem dX10_cloth_9 : decode cX10_cloth 9 = .ok (.if_icmp .le 6, 3) := by decide +kernel
theorem dX10_cloth_12 : decode cX10_cloth 12 = .ok (.ldc 58, 2) := by decide +kernel
theorem dX10_cloth_14 : decode cX10_cloth 14 = .ok (.ireturn, 1) := by decide +kernel
theorem dX10_cloth_15 : decode cX10_cloth 15 = .ok (.aload_n 0, 1) := by decide +kernel
theorem dX10_cloth_16 : decode cX10_cloth 16 = .ok (.getfield 40, 3) := by decide +kernel
theorem dX10_cloth_19 : decode cX10_cloth 19 = .ok (.invokevirtual 59, 3) := by decide +kernel
theorem dX10_cloth_22 : decode cX10_cloth 22 = .ok (.iload_n 1, 1) := by decide +kernel
theorem dX10_cloth_23 : decode cX10_cloth 23 = .ok (.ifCond .lt 7, 3) := by decide +kernel
theorem dX10_cloth_26 : decode cX10_cloth 26 = .ok (.iload_n 2, 1) := by decide +kernel
theorem dX10_cloth_27 : decode cX10_cloth 27 = .ok (.ifCond .ge 12, 3) := by decide +kernel
theorem dX10_cloth_30 : decode cX10_cloth 30 = .ok (.aload_n 0, 1) := by decide +kernel
theorem dX10_cloth_31 : decode cX10_cloth 31 = .ok (.getfield 40, 3) := by decide +kernel
theorem dX10_cloth_34 : decode cX10_cloth 34 = .ok (.iconst 3, 1) := by decide +kernel
theorem dX10_cloth_35 : decode cX10_cloth 35 = .ok (.invokevirtual 62, 3) := by decide +kernel
theorem dX10_cloth_38 : decode cX10_cloth 38 = .ok (.ireturn, 1) := by decide +kernel
theorem dX10_cloth_39 : decode cX10_cloth 39 = .ok (.aload_n 0, 1) := by decide +kernel
theorem dX10_cloth_40 : decode cX10_cloth 40 = .ok (.getfield 26, 3) := by decide +kernel
theorem dX10_cloth_43 : decode cX10_cloth 43 = .ok (.iload_n 1, 1) := by decide +kernel
theorem dX10_cloth_44 : decode cX10_cloth 44 = .ok (.iload_n 2, 1) := by decide +kernel
theorem dX10_cloth_45 : decode cX10_cloth 45 = .ok (.invokevirtual 116, 3) := by decide +kernel
theorem dX10_cloth_48 : decode cX10_cloth 48 = .ok (.iload_n 1, 1) := by decide +kernel
theorem dX10_cloth_49 : decode cX10_cloth 49 = .ok (.iload_n 2, 1) := by decide +kernel
theorem dX10_cloth_50 : decode cX10_cloth 50 = .ok (.imul, 1) := by decide +kernel
theorem dX10_cloth_51 : decode cX10_cloth 51 = .ok (.ireturn, 1) := by decide +kernel
theorem dX10_snip_0 : decode cX10_snip 0 = .ok (.aload_n 0, 1) := by decide +kernel
theorem dX10_snip_1 : decode cX10_snip 1 = .ok (.getfield 40, 3) := by decide +kernel
theorem dX10_snip_4 : decode cX10_snip 4 = .ok (.invokevirtual 59, 3) := by decide +kernel
theorem dX10_snip_7 : decode cX10_snip 7 = .ok (.aload_n 0, 1) := by decide +kernel
theorem dX10_snip_8 : decode cX10_snip 8 = .ok (.getfield 26, 3) := by decide +kernel
theorem dX10_snip_11 : decode cX10_snip 11 = .ok (.iload_n 1, 1) := by decide +kernel
theorem dX10_snip_12 : decode cX10_snip 12 = .ok (.invokevirtual 119, 3) := by decide +kernel
theorem dX10_snip_15 : decode cX10_snip 15 = .ok (.istore_n 2, 1) := by decide +kernel
theorem dX10_snip_16 : decode cX10_snip 16 = .ok (.iload_n 2, 1) := by decide +kernel
theorem dX10_snip_17 : decode cX10_snip 17 = .ok (.ifCond .eq 12, 3) := by decide +kernel
theorem dX10_snip_20 : decode cX10_snip 20 = .ok (.aload_n 0, 1) := by decide +kernel
theorem dX10_snip_21 : decode cX10_snip 21 = .ok (.getfield 40, 3) := by decide +kernel
theorem dX10_snip_24 : decode cX10_snip 24 = .ok (.iload_n 2, 1) := by decide +kernel
theorem dX10_snip_25 : decode cX10_snip 25 = .ok (.invokevirtual 62, 3) := by decide +kernel
theorem dX10_snip_28 : decode cX10_snip 28 = .ok (.ireturn, 1) := by decide +kernel
theorem dX10_snip_29 : decode cX10_snip 29 = .ok (.aload_n 0, 1) := by decide +kernel
theorem dX10_snip_30 : decode cX10_snip 30 = .ok (.getfield 26, 3) := by decide +kernel
theorem dX10_snip_33 : decode cX10_snip 33 = .ok (.iload_n 1, 1) := by decide +kernel
theorem dX10_snip_34 : decode cX10_snip 34 = .ok (.invokevirtual 122, 3) := by decide +kernel
theorem dX10_snip_37 : decode cX10_snip 37 = .ok (.istore_n 3, 1) := by decide +kernel
theorem dX10_snip_38 : decode cX10_snip 38 = .ok (.aload_n 0, 1) := by decide +kernel
theorem dX10_snip_39 : decode cX10_snip 39 = .ok (.getfield 26, 3) := by decide +kernel
theorem dX10_snip_42 : decode cX10_snip 42 = .ok (.iload_n 1, 1) := by decide +kernel
theorem dX10_snip_43 : decode cX10_snip 43 = .ok (.invokevirtual 125, 3) := by decide +kernel
theorem dX10_snip_46 : decode cX10_snip 46 = .ok (.iload_n 3, 1) := by decide +kernel
theorem dX10_snip_47 : decode cX10_snip 47 = .ok (.ifCond .eq 7, 3) := by decide +kernel
theorem dX10_snip_50 : decode cX10_snip 50 = .ok (.iconst 1, 1) := by decide +kernel
theorem dX10_snip_51 : decode cX10_snip 51 = .ok (.goto 4, 3) := by decide +kernel
theorem dX10_snip_54 : decode cX10_snip 54 = .ok (.iconst 0, 1) := by decide +kernel
theorem dX10_snip_55 : decode cX10_snip 55 = .ok (.ireturn, 1) := by decide +kernel
theorem dX10_hang_0 : decode cX10_hang 0 = .ok (.aload_n 0, 1) := by decide +kernel
theorem dX10_hang_1 : decode cX10_hang 1 = .ok (.getfield 40, 3) := by decide +kernel
theorem dX10_hang_4 : decode cX10_hang 4 = .ok (.invokevirtual 59, 3) := by decide +kernel
theorem dX10_hang_7 : decode cX10_hang 7 = .ok (.aload_n 0, 1) := by decide +kernel
theorem dX10_hang_8 : decode cX10_hang 8 = .ok (.getfield 26, 3) := by decide +kernel
theorem dX10_hang_11 : decode cX10_hang 11 = .ok (.iload_n 2, 1) := by decide +kernel
theorem dX10_hang_12 : decode cX10_hang 12 = .ok (.invokevirtual 119, 3) := by decide +kernel
theorem dX10_hang_15 : decode cX10_hang 15 = .ok (.istore_n 3, 1) := by decide +kernel
theorem dX10_hang_16 : decode cX10_hang 16 = .ok (.iload_n 3, 1) := by decide +kernel
theorem dX10_hang_17 : decode cX10_hang 17 = .ok (.ifCond .ne 12, 3) := by decide +kernel
theorem dX10_hang_20 : decode cX10_hang 20 = .ok (.aload_n 0, 1) := by decide +kernel
theorem dX10_hang_21 : decode cX10_hang 21 = .ok (.getfield 26, 3) := by decide +kernel
theorem dX10_hang_24 : decode cX10_hang 24 = .ok (.iload_n 1, 1) := by decide +kernel
theorem dX10_hang_25 : decode cX10_hang 25 = .ok (.invokevirtual 119, 3) := by decide +kernel
theorem dX10_hang_28 : decode cX10_hang 28 = .ok (.istore_n 3, 1) := by decide +kernel
theorem dX10_hang_29 : decode cX10_hang 29 = .ok (.iload_n 3, 1) := by decide +kernel
theorem dX10_hang_30 : decode cX10_hang 30 = .ok (.ifCond .eq 12, 3) := by decide +kernel
theorem dX10_hang_33 : decode cX10_hang 33 = .ok (.aload_n 0, 1) := by decide +kernel
theorem dX10_hang_34 : decode cX10_hang 34 = .ok (.getfield 40, 3) := by decide +kernel
theorem dX10_hang_37 : decode cX10_hang 37 = .ok (.iload_n 3, 1) := by decide +kernel
theorem dX10_hang_38 : decode cX10_hang 38 = .ok (.invokevirtual 62, 3) := by decide +kernel
theorem dX10_hang_41 : decode cX10_hang 41 = .ok (.ireturn, 1) := by decide +kernel
theorem dX10_hang_42 : decode cX10_hang 42 = .ok (.aload_n 0, 1) := by decide +kernel
theorem dX10_hang_43 : decode cX10_hang 43 = .ok (.getfield 26, 3) := by decide +kernel
theorem dX10_hang_46 : decode cX10_hang 46 = .ok (.iload_n 1, 1) := by decide +kernel
theorem dX10_hang_47 : decode cX10_hang 47 = .ok (.iload_n 2, 1) := by decide +kernel
theorem dX10_hang_48 : decode cX10_hang 48 = .ok (.invokevirtual 128, 3) := by decide +kernel
theorem dX10_hang_51 : decode cX10_hang 51 = .ok (.aload_n 0, 1) := by decide +kernel
theorem dX10_hang_52 : decode cX10_hang 52 = .ok (.getfield 26, 3) := by decide +kernel
theorem dX10_hang_55 : decode cX10_hang 55 = .ok (.iload_n 1, 1) := by decide +kernel
theorem dX10_hang_56 : decode cX10_hang 56 = .ok (.invokevirtual 122, 3) := by decide +kernel
theorem dX10_hang_59 : decode cX10_hang 59 = .ok (.ifCond .eq 13, 3) := by decide +kernel
theorem dX10_hang_62 : decode cX10_hang 62 = .ok (.aload_n 0, 1) := by decide +kernel
theorem dX10_hang_63 : decode cX10_hang 63 = .ok (.getfield 26, 3) := by decide +kernel
theorem dX10_hang_66 : decode cX10_hang 66 = .ok (.invokevirtual 130, 3) := by decide +kernel
theorem dX10_hang_69 : decode cX10_hang 69 = .ok (.goto 4, 3) := by decide +kernel
theorem dX10_hang_72 : decode cX10_hang 72 = .ok (.iconst 0, 1) := by decide +kernel
theorem dX10_hang_73 : decode cX10_hang 73 = .ok (.ireturn, 1) := by decide +kernel
theorem dX10_cell_0 : decode cX10_cell 0 = .ok (.aload_n 0, 1) := by decide +kernel
theorem dX10_cell_1 : decode cX10_cell 1 = .ok (.getfield 40, 3) := by decide +kernel
theorem dX10_cell_4 : decode cX10_cell 4 = .ok (.invokevirtual 59, 3) := by decide +kernel
theorem dX10_cell_7 : decode cX10_cell 7 = .ok (.aload_n 0, 1) := by decide +kernel
theorem dX10_cell_8 : decode cX10_cell 8 = .ok (.getfield 26, 3) := by decide +kernel
theorem dX10_cell_11 : decode cX10_cell 11 = .ok (.iload_n 1, 1) := by decide +kernel
theorem dX10_cell_12 : decode cX10_cell 12 = .ok (.invokevirtual 133, 3) := by decide +kernel
theorem dX10_cell_15 : decode cX10_cell 15 = .ok (.istore_n 3, 1) := by decide +kernel
theorem dX10_cell_16 : decode cX10_cell 16 = .ok (.iload_n 3, 1) := by decide +kernel
theorem dX10_cell_17 : decode cX10_cell 17 = .ok (.ifCond .ne 16, 3) := by decide +kernel
theorem dX10_cell_20 : decode cX10_cell 20 = .ok (.aload_n 0, 1) := by decide +kernel
theorem dX10_cell_21 : decode cX10_cell 21 = .ok (.getfield 26, 3) := by decide +kernel
theorem dX10_cell_24 : decode cX10_cell 24 = .ok (.iload_n 2, 1) := by decide +kernel
theorem dX10_cell_25 : decode cX10_cell 25 = .ok (.invokevirtual 136, 3) := by decide +kernel
theorem dX10_cell_28 : decode cX10_cell 28 = .ok (.ifCond .ne 5, 3) := by decide +kernel
theorem dX10_cell_31 : decode cX10_cell 31 = .ok (.iconst 2, 1) := by decide +kernel
theorem dX10_cell_32 : decode cX10_cell 32 = .ok (.istore_n 3, 1) := by decide +kernel
theorem dX10_cell_33 : decode cX10_cell 33 = .ok (.iload_n 3, 1) := by decide +kernel
theorem dX10_cell_34 : decode cX10_cell 34 = .ok (.ifCond .ne 15, 3) := by decide +kernel
theorem dX10_cell_37 : decode cX10_cell 37 = .ok (.aload_n 0, 1) := by decide +kernel
theorem dX10_cell_38 : decode cX10_cell 38 = .ok (.getfield 26, 3) := by decide +kernel
theorem dX10_cell_41 : decode cX10_cell 41 = .ok (.iload_n 1, 1) := by decide +kernel
theorem dX10_cell_42 : decode cX10_cell 42 = .ok (.iload_n 2, 1) := by decide +kernel
theorem dX10_cell_43 : decode cX10_cell 43 = .ok (.invokevirtual 139, 3) := by decide +kernel
theorem dX10_cell_46 : decode cX10_cell 46 = .ok (.goto 11, 3) := by decide +kernel
theorem dX10_cell_49 : decode cX10_cell 49 = .ok (.aload_n 0, 1) := by decide +kernel
theorem dX10_cell_50 : decode cX10_cell 50 = .ok (.getfield 40, 3) := by decide +kernel
theorem dX10_cell_53 : decode cX10_cell 53 = .ok (.iload_n 3, 1) := by decide +kernel
theorem dX10_cell_54 : decode cX10_cell 54 = .ok (.invokevirtual 62, 3) := by decide +kernel
theorem dX10_cell_57 : decode cX10_cell 57 = .ok (.ireturn, 1) := by decide +kernel
theorem dX10_weave_0 : decode cX10_weave 0 = .ok (.iload_n 1, 1) := by decide +kernel
theorem dX10_weave_1 : decode cX10_weave 1 = .ok (.invokestatic 78, 3) := by decide +kernel
theorem dX10_weave_4 : decode cX10_weave 4 = .ok (.ifCond .ne 6, 3) := by decide +kernel
theorem dX10_weave_7 : decode cX10_weave 7 = .ok (.ldc 58, 2) := by decide +kernel
theorem dX10_weave_9 : decode cX10_weave 9 = .ok (.ireturn, 1) := by decide +kernel
theorem dX10_weave_10 : decode cX10_weave 10 = .ok (.aload_n 0, 1) := by decide +kernel
theorem dX10_weave_11 : decode cX10_weave 11 = .ok (.getfield 40, 3) := by decide +kernel
theorem dX10_weave_14 : decode cX10_weave 14 = .ok (.invokevirtual 59, 3) := by decide +kernel
theorem dX10_weave_17 : decode cX10_weave 17 = .ok (.aload_n 0, 1) := by decide +kernel
theorem dX10_weave_18 : decode cX10_weave 18 = .ok (.getfield 26, 3) := by decide +kernel
theorem dX10_weave_21 : decode cX10_weave 21 = .ok (.iload_n 2, 1) := by decide +kernel
theorem dX10_weave_22 : decode cX10_weave 22 = .ok (.invokevirtual 133, 3) := by decide +kernel
theorem dX10_weave_25 : decode cX10_weave 25 = .ok (.istore 4, 2) := by decide +kernel
theorem dX10_weave_27 : decode cX10_weave 27 = .ok (.iload 4, 2) := by decide +kernel
theorem dX10_weave_29 : decode cX10_weave 29 = .ok (.ifCond .eq 13, 3) := by decide +kernel
theorem dX10_weave_32 : decode cX10_weave 32 = .ok (.aload_n 0, 1) := by decide +kernel
theorem dX10_weave_33 : decode cX10_weave 33 = .ok (.getfield 40, 3) := by decide +kernel
theorem dX10_weave_36 : decode cX10_weave 36 = .ok (.iload 4, 2) := by decide +kernel
theorem dX10_weave_38 : decode cX10_weave 38 = .ok (.invokevirtual 62, 3) := by decide +kernel
theorem dX10_weave_41 : decode cX10_weave 41 = .ok (.ireturn, 1) := by decide +kernel
theorem dX10_weave_42 : decode cX10_weave 42 = .ok (.iconst 0, 1) := by decide +kernel
theorem dX10_weave_43 : decode cX10_weave 43 = .ok (.istore 5, 2) := by decide +kernel
theorem dX10_weave_45 : decode cX10_weave 45 = .ok (.iload 5, 2) := by decide +kernel
theorem dX10_weave_47 : decode cX10_weave 47 = .ok (.aload_n 0, 1) := by decide +kernel
theorem dX10_weave_48 : decode cX10_weave 48 = .ok (.getfield 26, 3) := by decide +kernel
theorem dX10_weave_51 : decode cX10_weave 51 = .ok (.invokevirtual 130, 3) := by decide +kernel
theorem dX10_weave_54 : decode cX10_weave 54 = .ok (.if_icmp .ge 38, 3) := by decide +kernel
theorem dX10_weave_57 : decode cX10_weave 57 = .ok (.aload_n 0, 1) := by decide +kernel
theorem dX10_weave_58 : decode cX10_weave 58 = .ok (.iload_n 1, 1) := by decide +kernel
theorem dX10_weave_59 : decode cX10_weave 59 = .ok (.iload_n 2, 1) := by decide +kernel
theorem dX10_weave_60 : decode cX10_weave 60 = .ok (.iload 5, 2) := by decide +kernel
theorem dX10_weave_62 : decode cX10_weave 62 = .ok (.iload_n 3, 1) := by decide +kernel
theorem dX10_weave_63 : decode cX10_weave 63 = .ok (.invokevirtual 143, 3) := by decide +kernel
theorem dX10_weave_66 : decode cX10_weave 66 = .ok (.istore 6, 2) := by decide +kernel
theorem dX10_weave_68 : decode cX10_weave 68 = .ok (.iload 6, 2) := by decide +kernel
theorem dX10_weave_70 : decode cX10_weave 70 = .ok (.ifCond .eq 16, 3) := by decide +kernel
theorem dX10_weave_73 : decode cX10_weave 73 = .ok (.aload_n 0, 1) := by decide +kernel
theorem dX10_weave_74 : decode cX10_weave 74 = .ok (.getfield 40, 3) := by decide +kernel
theorem dX10_weave_77 : decode cX10_weave 77 = .ok (.iload 6, 2) := by decide +kernel
theorem dX10_weave_79 : decode cX10_weave 79 = .ok (.invokevirtual 62, 3) := by decide +kernel
theorem dX10_weave_82 : decode cX10_weave 82 = .ok (.pop, 1) := by decide +kernel
theorem dX10_weave_83 : decode cX10_weave 83 = .ok (.iload 5, 2) := by decide +kernel
theorem dX10_weave_85 : decode cX10_weave 85 = .ok (.ireturn, 1) := by decide +kernel
theorem dX10_weave_86 : decode cX10_weave 86 = .ok (.iinc 5 1, 3) := by decide +kernel
theorem dX10_weave_89 : decode cX10_weave 89 = .ok (.goto (-44), 3) := by decide +kernel
theorem dX10_weave_92 : decode cX10_weave 92 = .ok (.aload_n 0, 1) := by decide +kernel
theorem dX10_weave_93 : decode cX10_weave 93 = .ok (.dup, 1) := by decide +kernel
theorem dX10_weave_94 : decode cX10_weave 94 = .ok (.getfield 51, 3) := by decide +kernel
theorem dX10_weave_97 : decode cX10_weave 97 = .ok (.iconst 1, 1) := by decide +kernel
theorem dX10_weave_98 : decode cX10_weave 98 = .ok (.iadd, 1) := by decide +kernel
theorem dX10_weave_99 : decode cX10_weave 99 = .ok (.putfield 51, 3) := by decide +kernel
theorem dX10_weave_102 : decode cX10_weave 102 = .ok (.aload_n 0, 1) := by decide +kernel
theorem dX10_weave_103 : decode cX10_weave 103 = .ok (.getfield 26, 3) := by decide +kernel
theorem dX10_weave_106 : decode cX10_weave 106 = .ok (.invokevirtual 130, 3) := by decide +kernel
theorem dX10_weave_109 : decode cX10_weave 109 = .ok (.ireturn, 1) := by decide +kernel
theorem dX10_card_0 : decode cX10_card 0 = .ok (.iload_n 1, 1) := by decide +kernel
theorem dX10_card_1 : decode cX10_card 1 = .ok (.invokestatic 100, 3) := by decide +kernel
theorem dX10_card_4 : decode cX10_card 4 = .ok (.ifCond .eq 21, 3) := by decide +kernel
theorem dX10_card_7 : decode cX10_card 7 = .ok (.iload_n 2, 1) := by decide +kernel
theorem dX10_card_8 : decode cX10_card 8 = .ok (.iload_n 3, 1) := by decide +kernel
theorem dX10_card_9 : decode cX10_card 9 = .ok (.invokestatic 54, 3) := by decide +kernel
theorem dX10_card_12 : decode cX10_card 12 = .ok (.ifCond .eq 13, 3) := by decide +kernel
theorem dX10_card_15 : decode cX10_card 15 = .ok (.aload_n 0, 1) := by decide +kernel
theorem dX10_card_16 : decode cX10_card 16 = .ok (.getfield 33, 3) := by decide +kernel
theorem dX10_card_19 : decode cX10_card 19 = .ok (.invokevirtual 147, 3) := by decide +kernel
theorem dX10_card_22 : decode cX10_card 22 = .ok (.ifCond .eq 6, 3) := by decide +kernel
theorem dX10_card_25 : decode cX10_card 25 = .ok (.ldc 58, 2) := by decide +kernel
theorem dX10_card_27 : decode cX10_card 27 = .ok (.ireturn, 1) := by decide +kernel
theorem dX10_card_28 : decode cX10_card 28 = .ok (.aload_n 0, 1) := by decide +kernel
theorem dX10_card_29 : decode cX10_card 29 = .ok (.getfield 33, 3) := by decide +kernel
theorem dX10_card_32 : decode cX10_card 32 = .ok (.iload_n 1, 1) := by decide +kernel
theorem dX10_card_33 : decode cX10_card 33 = .ok (.iload_n 2, 1) := by decide +kernel
theorem dX10_card_34 : decode cX10_card 34 = .ok (.iload_n 3, 1) := by decide +kernel
theorem dX10_card_35 : decode cX10_card 35 = .ok (.iload 4, 2) := by decide +kernel
theorem dX10_card_37 : decode cX10_card 37 = .ok (.iload 5, 2) := by decide +kernel
theorem dX10_card_39 : decode cX10_card 39 = .ok (.invokevirtual 148, 3) := by decide +kernel
theorem dX10_card_42 : decode cX10_card 42 = .ok (.aload_n 0, 1) := by decide +kernel
theorem dX10_card_43 : decode cX10_card 43 = .ok (.getfield 33, 3) := by decide +kernel
theorem dX10_card_46 : decode cX10_card 46 = .ok (.invokevirtual 152, 3) := by decide +kernel
theorem dX10_card_49 : decode cX10_card 49 = .ok (.ireturn, 1) := by decide +kernel
theorem dX10_unhook_0 : decode cX10_unhook 0 = .ok (.aload_n 0, 1) := by decide +kernel
theorem dX10_unhook_1 : decode cX10_unhook 1 = .ok (.getfield 33, 3) := by decide +kernel
theorem dX10_unhook_4 : decode cX10_unhook 4 = .ok (.invokevirtual 152, 3) := by decide +kernel
theorem dX10_unhook_7 : decode cX10_unhook 7 = .ok (.istore_n 1, 1) := by decide +kernel
theorem dX10_unhook_8 : decode cX10_unhook 8 = .ok (.aload_n 0, 1) := by decide +kernel
theorem dX10_unhook_9 : decode cX10_unhook 9 = .ok (.getfield 33, 3) := by decide +kernel
theorem dX10_unhook_12 : decode cX10_unhook 12 = .ok (.invokevirtual 153, 3) := by decide +kernel
theorem dX10_unhook_15 : decode cX10_unhook 15 = .ok (.iload_n 1, 1) := by decide +kernel
theorem dX10_unhook_16 : decode cX10_unhook 16 = .ok (.ireturn, 1) := by decide +kernel
theorem dX10_keeper_0 : decode cX10_keeper 0 = .ok (.iload_n 1, 1) := by decide +kernel
theorem dX10_keeper_1 : decode cX10_keeper 1 = .ok (.bipush (-63), 2) := by decide +kernel
theorem dX10_keeper_3 : decode cX10_keeper 3 = .ok (.iand, 1) := by decide +kernel
theorem dX10_keeper_4 : decode cX10_keeper 4 = .ok (.ifCond .eq 5, 3) := by decide +kernel
theorem dX10_keeper_7 : decode cX10_keeper 7 = .ok (.iconst 0, 1) := by decide +kernel
theorem dX10_keeper_8 : decode cX10_keeper 8 = .ok (.ireturn, 1) := by decide +kernel
theorem dX10_keeper_9 : decode cX10_keeper 9 = .ok (.aload_n 0, 1) := by decide +kernel
theorem dX10_keeper_10 : decode cX10_keeper 10 = .ok (.iload_n 1, 1) := by decide +kernel
theorem dX10_keeper_11 : decode cX10_keeper 11 = .ok (.putfield 44, 3) := by decide +kernel
theorem dX10_keeper_14 : decode cX10_keeper 14 = .ok (.iconst 1, 1) := by decide +kernel
theorem dX10_keeper_15 : decode cX10_keeper 15 = .ok (.ireturn, 1) := by decide +kernel
theorem dX10_run_0 : decode cX10_run 0 = .ok (.iload_n 1, 1) := by decide +kernel
theorem dX10_run_1 : decode cX10_run 1 = .ok (.iconst 1, 1) := by decide +kernel
theorem dX10_run_2 : decode cX10_run 2 = .ok (.if_icmp .lt 19, 3) := by decide +kernel
theorem dX10_run_5 : decode cX10_run 5 = .ok (.iload_n 1, 1) := by decide +kernel
theorem dX10_run_6 : decode cX10_run 6 = .ok (.bipush 12, 2) := by decide +kernel
theorem dX10_run_8 : decode cX10_run 8 = .ok (.if_icmp .gt 13, 3) := by decide +kernel
theorem dX10_run_11 : decode cX10_run 11 = .ok (.aload_n 0, 1) := by decide +kernel
theorem dX10_run_12 : decode cX10_run 12 = .ok (.getfield 33, 3) := by decide +kernel
theorem dX10_run_15 : decode cX10_run 15 = .ok (.invokevirtual 152, 3) := by decide +kernel
theorem dX10_run_18 : decode cX10_run 18 = .ok (.ifCond .ne 6, 3) := by decide +kernel
theorem dX10_run_21 : decode cX10_run 21 = .ok (.ldc 58, 2) := by decide +kernel
theorem dX10_run_23 : decode cX10_run 23 = .ok (.ireturn, 1) := by decide +kernel
theorem dX10_run_24 : decode cX10_run 24 = .ok (.aload_n 0, 1) := by decide +kernel
theorem dX10_run_25 : decode cX10_run 25 = .ok (.iconst 0, 1) := by decide +kernel
theorem dX10_run_26 : decode cX10_run 26 = .ok (.putfield 48, 3) := by decide +kernel
theorem dX10_run_29 : decode cX10_run 29 = .ok (.iconst 0, 1) := by decide +kernel
theorem dX10_run_30 : decode cX10_run 30 = .ok (.istore_n 2, 1) := by decide +kernel
theorem dX10_run_31 : decode cX10_run 31 = .ok (.iload_n 2, 1) := by decide +kernel
theorem dX10_run_32 : decode cX10_run 32 = .ok (.iload_n 1, 1) := by decide +kernel
theorem dX10_run_33 : decode cX10_run 33 = .ok (.if_icmp .ge 82, 3) := by decide +kernel
theorem dX10_run_36 : decode cX10_run 36 = .ok (.aload_n 0, 1) := by decide +kernel
theorem dX10_run_37 : decode cX10_run 37 = .ok (.getfield 33, 3) := by decide +kernel
theorem dX10_run_40 : decode cX10_run 40 = .ok (.iload_n 2, 1) := by decide +kernel
theorem dX10_run_41 : decode cX10_run 41 = .ok (.aload_n 0, 1) := by decide +kernel
theorem dX10_run_42 : decode cX10_run 42 = .ok (.getfield 33, 3) := by decide +kernel
theorem dX10_run_45 : decode cX10_run 45 = .ok (.invokevirtual 152, 3) := by decide +kernel
theorem dX10_run_48 : decode cX10_run 48 = .ok (.irem, 1) := by decide +kernel
theorem dX10_run_49 : decode cX10_run 49 = .ok (.invokevirtual 156, 3) := by decide +kernel
theorem dX10_run_52 : decode cX10_run 52 = .ok (.astore_n 3, 1) := by decide +kernel
theorem dX10_run_53 : decode cX10_run 53 = .ok (.aload_n 0, 1) := by decide +kernel
theorem dX10_run_54 : decode cX10_run 54 = .ok (.dup, 1) := by decide +kernel
theorem dX10_run_55 : decode cX10_run 55 = .ok (.getfield 48, 3) := by decide +kernel
theorem dX10_run_58 : decode cX10_run 58 = .ok (.aload_n 0, 1) := by decide +kernel
theorem dX10_run_59 : decode cX10_run 59 = .ok (.aload_n 3, 1) := by decide +kernel
theorem dX10_run_60 : decode cX10_run 60 = .ok (.getfield 160, 3) := by decide +kernel
theorem dX10_run_63 : decode cX10_run 63 = .ok (.aload_n 0, 1) := by decide +kernel
theorem dX10_run_64 : decode cX10_run 64 = .ok (.getfield 10, 3) := by decide +kernel
theorem dX10_run_67 : decode cX10_run 67 = .ok (.aload_n 3, 1) := by decide +kernel
theorem dX10_run_68 : decode cX10_run 68 = .ok (.getfield 165, 3) := by decide +kernel
theorem dX10_run_71 : decode cX10_run 71 = .ok (.aload_n 3, 1) := by decide +kernel
theorem dX10_run_72 : decode cX10_run 72 = .ok (.getfield 168, 3) := by decide +kernel
theorem dX10_run_75 : decode cX10_run 75 = .ok (.invokevirtual 70, 3) := by decide +kernel
theorem dX10_run_78 : decode cX10_run 78 = .ok (.aload_n 3, 1) := by decide +kernel
theorem dX10_run_79 : decode cX10_run 79 = .ok (.getfield 171, 3) := by decide +kernel
theorem dX10_run_82 : decode cX10_run 82 = .ok (.aload_n 3, 1) := by decide +kernel
theorem dX10_run_83 : decode cX10_run 83 = .ok (.getfield 174, 3) := by decide +kernel
theorem dX10_run_86 : decode cX10_run 86 = .ok (.invokevirtual 103, 3) := by decide +kernel
theorem dX10_run_89 : decode cX10_run 89 = .ok (.iadd, 1) := by decide +kernel
theorem dX10_run_90 : decode cX10_run 90 = .ok (.putfield 48, 3) := by decide +kernel
theorem dX10_run_93 : decode cX10_run 93 = .ok (.aload_n 0, 1) := by decide +kernel
theorem dX10_run_94 : decode cX10_run 94 = .ok (.aload_n 0, 1) := by decide +kernel
theorem dX10_run_95 : decode cX10_run 95 = .ok (.getfield 40, 3) := by decide +kernel
theorem dX10_run_98 : decode cX10_run 98 = .ok (.invokevirtual 177, 3) := by decide +kernel
theorem dX10_run_101 : decode cX10_run 101 = .ok (.invokevirtual 180, 3) := by decide +kernel
theorem dX10_run_104 : decode cX10_run 104 = .ok (.ifCond .eq 5, 3) := by decide +kernel
theorem dX10_run_107 : decode cX10_run 107 = .ok (.iload_n 2, 1) := by decide +kernel
theorem dX10_run_108 : decode cX10_run 108 = .ok (.ireturn, 1) := by decide +kernel
theorem dX10_run_109 : decode cX10_run 109 = .ok (.iinc 2 1, 3) := by decide +kernel
theorem dX10_run_112 : decode cX10_run 112 = .ok (.goto (-81), 3) := by decide +kernel
theorem dX10_run_115 : decode cX10_run 115 = .ok (.aload_n 0, 1) := by decide +kernel
theorem dX10_run_116 : decode cX10_run 116 = .ok (.getfield 40, 3) := by decide +kernel
theorem dX10_run_119 : decode cX10_run 119 = .ok (.invokevirtual 59, 3) := by decide +kernel
theorem dX10_run_122 : decode cX10_run 122 = .ok (.iload_n 1, 1) := by decide +kernel
theorem dX10_run_123 : decode cX10_run 123 = .ok (.ireturn, 1) := by decide +kernel
theorem dX10_told_0 : decode cX10_told 0 = .ok (.iload_n 1, 1) := by decide +kernel
theorem dX10_told_1 : decode cX10_told 1 = .ok (.iconst 1, 1) := by decide +kernel
theorem dX10_told_2 : decode cX10_told 2 = .ok (.if_icmp .lt 17, 3) := by decide +kernel
theorem dX10_told_5 : decode cX10_told 5 = .ok (.iload_n 1, 1) := by decide +kernel
theorem dX10_told_6 : decode cX10_told 6 = .ok (.iconst 5, 1) := by decide +kernel
theorem dX10_told_7 : decode cX10_told 7 = .ok (.if_icmp .gt 12, 3) := by decide +kernel
theorem dX10_told_10 : decode cX10_told 10 = .ok (.aload_n 0, 1) := by decide +kernel
theorem dX10_told_11 : decode cX10_told 11 = .ok (.getfield 40, 3) := by decide +kernel
theorem dX10_told_14 : decode cX10_told 14 = .ok (.iload_n 1, 1) := by decide +kernel
theorem dX10_told_15 : decode cX10_told 15 = .ok (.invokevirtual 183, 3) := by decide +kernel
theorem dX10_told_18 : decode cX10_told 18 = .ok (.ireturn, 1) := by decide +kernel
theorem dX10_told_19 : decode cX10_told 19 = .ok (.iload_n 1, 1) := by decide +kernel
theorem dX10_told_20 : decode cX10_told 20 = .ok (.tableswitch 90 0 9 #[56, 90, 90, 90, 90, 90, 64, 72, 80, 85], 56) := by decide +kernel
theorem dX10_told_76 : decode cX10_told 76 = .ok (.aload_n 0, 1) := by decide +kernel
theorem dX10_told_77 : decode cX10_told 77 = .ok (.getfield 40, 3) := by decide +kernel
theorem dX10_told_80 : decode cX10_told 80 = .ok (.invokevirtual 177, 3) := by decide +kernel
theorem dX10_told_83 : decode cX10_told 83 = .ok (.ireturn, 1) := by decide +kernel
theorem dX10_told_84 : decode cX10_told 84 = .ok (.aload_n 0, 1) := by decide +kernel
theorem dX10_told_85 : decode cX10_told 85 = .ok (.getfield 19, 3) := by decide +kernel
theorem dX10_told_88 : decode cX10_told 88 = .ok (.invokevirtual 99, 3) := by decide +kernel
theorem dX10_told_91 : decode cX10_told 91 = .ok (.ireturn, 1) := by decide +kernel
theorem dX10_told_92 : decode cX10_told 92 = .ok (.aload_n 0, 1) := by decide +kernel
theorem dX10_told_93 : decode cX10_told 93 = .ok (.getfield 33, 3) := by decide +kernel
theorem dX10_told_96 : decode cX10_told 96 = .ok (.invokevirtual 152, 3) := by decide +kernel
theorem dX10_told_99 : decode cX10_told 99 = .ok (.ireturn, 1) := by decide +kernel
theorem dX10_told_100 : decode cX10_told 100 = .ok (.aload_n 0, 1) := by decide +kernel
theorem dX10_told_101 : decode cX10_told 101 = .ok (.getfield 48, 3) := by decide +kernel
theorem dX10_told_104 : decode cX10_told 104 = .ok (.ireturn, 1) := by decide +kernel
theorem dX10_told_105 : decode cX10_told 105 = .ok (.aload_n 0, 1) := by decide +kernel
theorem dX10_told_106 : decode cX10_told 106 = .ok (.getfield 51, 3) := by decide +kernel
theorem dX10_told_109 : decode cX10_told 109 = .ok (.ireturn, 1) := by decide +kernel
theorem dX10_told_110 : decode cX10_told 110 = .ok (.ldc 58, 2) := by decide +kernel
theorem dX10_told_112 : decode cX10_told 112 = .ok (.ireturn, 1) := by decide +kernel
theorem dX10_isAct_0 : decode cX10_isAct 0 = .ok (.iload_n 0, 1) := by decide +kernel
theorem dX10_isAct_1 : decode cX10_isAct 1 = .ok (.ifCond .lt 12, 3) := by decide +kernel
theorem dX10_isAct_4 : decode cX10_isAct 4 = .ok (.iload_n 0, 1) := by decide +kernel
theorem dX10_isAct_5 : decode cX10_isAct 5 = .ok (.iconst 4, 1) := by decide +kernel
theorem dX10_isAct_6 : decode cX10_isAct 6 = .ok (.if_icmp .gt 7, 3) := by decide +kernel
theorem dX10_isAct_9 : decode cX10_isAct 9 = .ok (.iconst 1, 1) := by decide +kernel
theorem dX10_isAct_10 : decode cX10_isAct 10 = .ok (.goto 4, 3) := by decide +kernel
theorem dX10_isAct_13 : decode cX10_isAct 13 = .ok (.iconst 0, 1) := by decide +kernel
theorem dX10_isAct_14 : decode cX10_isAct 14 = .ok (.ireturn, 1) := by decide +kernel
theorem dX10_isEndedBy_0 : decode cX10_isEndedBy 0 = .ok (.iload_n 1, 1) := by decide +kernel
theorem dX10_isEndedBy_1 : decode cX10_isEndedBy 1 = .ok (.ifCond .eq 18, 3) := by decide +kernel
theorem dX10_isEndedBy_4 : decode cX10_isEndedBy 4 = .ok (.aload_n 0, 1) := by decide +kernel
theorem dX10_isEndedBy_5 : decode cX10_isEndedBy 5 = .ok (.getfield 44, 3) := by decide +kernel
theorem dX10_isEndedBy_8 : decode cX10_isEndedBy 8 = .ok (.iload_n 1, 1) := by decide +kernel
theorem dX10_isEndedBy_9 : decode cX10_isEndedBy 9 = .ok (.ishr, 1) := by decide +kernel
theorem dX10_isEndedBy_10 : decode cX10_isEndedBy 10 = .ok (.iconst 1, 1) := by decide +kernel
theorem dX10_isEndedBy_11 : decode cX10_isEndedBy 11 = .ok (.iand, 1) := by decide +kernel
theorem dX10_isEndedBy_12 : decode cX10_isEndedBy 12 = .ok (.ifCond .ne 7, 3) := by decide +kernel
theorem dX10_isEndedBy_15 : decode cX10_isEndedBy 15 = .ok (.iconst 1, 1) := by decide +kernel
theorem dX10_isEndedBy_16 : decode cX10_isEndedBy 16 = .ok (.goto 4, 3) := by decide +kernel
theorem dX10_isEndedBy_19 : decode cX10_isEndedBy 19 = .ok (.iconst 0, 1) := by decide +kernel
theorem dX10_isEndedBy_20 : decode cX10_isEndedBy 20 = .ok (.ireturn, 1) := by decide +kernel
theorem dX10_work_0 : decode cX10_work 0 = .ok (.aload_n 0, 1) := by decide +kernel
theorem dX10_work_1 : decode cX10_work 1 = .ok (.getfield 40, 3) := by decide +kernel
theorem dX10_work_4 : decode cX10_work 4 = .ok (.invokevirtual 59, 3) := by decide +kernel
theorem dX10_work_7 : decode cX10_work 7 = .ok (.iload 4, 2) := by decide +kernel
theorem dX10_work_9 : decode cX10_work 9 = .ok (.istore 5, 2) := by decide +kernel
theorem dX10_work_11 : decode cX10_work 11 = .ok (.iload_n 1, 1) := by decide +kernel
theorem dX10_work_12 : decode cX10_work 12 = .ok (.iconst 1, 1) := by decide +kernel
theorem dX10_work_13 : decode cX10_work 13 = .ok (.if_icmp .ne 31, 3) := by decide +kernel
theorem dX10_work_16 : decode cX10_work 16 = .ok (.aload_n 0, 1) := by decide +kernel
theorem dX10_work_17 : decode cX10_work 17 = .ok (.getfield 19, 3) := by decide +kernel
theorem dX10_work_20 : decode cX10_work 20 = .ok (.invokevirtual 186, 3) := by decide +kernel
theorem dX10_work_23 : decode cX10_work 23 = .ok (.ifCond .eq 12, 3) := by decide +kernel
theorem dX10_work_26 : decode cX10_work 26 = .ok (.aload_n 0, 1) := by decide +kernel
theorem dX10_work_27 : decode cX10_work 27 = .ok (.getfield 40, 3) := by decide +kernel
theorem dX10_work_30 : decode cX10_work 30 = .ok (.iconst 4, 1) := by decide +kernel
theorem dX10_work_31 : decode cX10_work 31 = .ok (.invokevirtual 62, 3) := by decide +kernel
theorem dX10_work_34 : decode cX10_work 34 = .ok (.ireturn, 1) := by decide +kernel
theorem dX10_work_35 : decode cX10_work 35 = .ok (.aload_n 0, 1) := by decide +kernel
theorem dX10_work_36 : decode cX10_work 36 = .ok (.getfield 19, 3) := by decide +kernel
theorem dX10_work_39 : decode cX10_work 39 = .ok (.invokevirtual 189, 3) := by decide +kernel
theorem dX10_work_42 : decode cX10_work 42 = .ok (.istore 5, 2) := by decide +kernel
theorem dX10_work_44 : decode cX10_work 44 = .ok (.aload_n 2, 1) := by decide +kernel
theorem dX10_work_45 : decode cX10_work 45 = .ok (.ifnonnull 12, 3) := by decide +kernel
theorem dX10_work_48 : decode cX10_work 48 = .ok (.aload_n 0, 1) := by decide +kernel
theorem dX10_work_49 : decode cX10_work 49 = .ok (.getfield 40, 3) := by decide +kernel
theorem dX10_work_52 : decode cX10_work 52 = .ok (.iconst 1, 1) := by decide +kernel
theorem dX10_work_53 : decode cX10_work 53 = .ok (.invokevirtual 62, 3) := by decide +kernel
theorem dX10_work_56 : decode cX10_work 56 = .ok (.ireturn, 1) := by decide +kernel
theorem dX10_work_57 : decode cX10_work 57 = .ok (.aload_n 2, 1) := by decide +kernel
theorem dX10_work_58 : decode cX10_work 58 = .ok (.iload_n 3, 1) := by decide +kernel
theorem dX10_work_59 : decode cX10_work 59 = .ok (.invokevirtual 107, 3) := by decide +kernel
theorem dX10_work_62 : decode cX10_work 62 = .ok (.ifCond .ne 12, 3) := by decide +kernel
theorem dX10_work_65 : decode cX10_work 65 = .ok (.aload_n 0, 1) := by decide +kernel
theorem dX10_work_66 : decode cX10_work 66 = .ok (.getfield 40, 3) := by decide +kernel
theorem dX10_work_69 : decode cX10_work 69 = .ok (.iconst 2, 1) := by decide +kernel
theorem dX10_work_70 : decode cX10_work 70 = .ok (.invokevirtual 62, 3) := by decide +kernel
theorem dX10_work_73 : decode cX10_work 73 = .ok (.ireturn, 1) := by decide +kernel
theorem dX10_work_74 : decode cX10_work 74 = .ok (.aload_n 0, 1) := by decide +kernel
theorem dX10_work_75 : decode cX10_work 75 = .ok (.iload_n 1, 1) := by decide +kernel
theorem dX10_work_76 : decode cX10_work 76 = .ok (.aload_n 2, 1) := by decide +kernel
theorem dX10_work_77 : decode cX10_work 77 = .ok (.iload_n 3, 1) := by decide +kernel
theorem dX10_work_78 : decode cX10_work 78 = .ok (.iload 5, 2) := by decide +kernel
theorem dX10_work_80 : decode cX10_work 80 = .ok (.invokevirtual 192, 3) := by decide +kernel
theorem dX10_work_83 : decode cX10_work 83 = .ok (.istore 6, 2) := by decide +kernel
theorem dX10_work_85 : decode cX10_work 85 = .ok (.iload 6, 2) := by decide +kernel
theorem dX10_work_87 : decode cX10_work 87 = .ok (.ifCond .ne 11, 3) := by decide +kernel
theorem dX10_work_90 : decode cX10_work 90 = .ok (.aload_n 2, 1) := by decide +kernel
theorem dX10_work_91 : decode cX10_work 91 = .ok (.iload_n 3, 1) := by decide +kernel
theorem dX10_work_92 : decode cX10_work 92 = .ok (.invokevirtual 110, 3) := by decide +kernel
theorem dX10_work_95 : decode cX10_work 95 = .ok (.goto 12, 3) := by decide +kernel
theorem dX10_work_98 : decode cX10_work 98 = .ok (.aload_n 0, 1) := by decide +kernel
theorem dX10_work_99 : decode cX10_work 99 = .ok (.getfield 40, 3) := by decide +kernel
theorem dX10_work_102 : decode cX10_work 102 = .ok (.iload 6, 2) := by decide +kernel
theorem dX10_work_104 : decode cX10_work 104 = .ok (.invokevirtual 62, 3) := by decide +kernel
theorem dX10_work_107 : decode cX10_work 107 = .ok (.ireturn, 1) := by decide +kernel
theorem dX10_change_0 : decode cX10_change 0 = .ok (.iload_n 1, 1) := by decide +kernel
theorem dX10_change_1 : decode cX10_change 1 = .ok (.tableswitch 89 1 4 #[31, 40, 66, 73], 31) := by decide +kernel
theorem dX10_change_32 : decode cX10_change 32 = .ok (.aload_n 2, 1) := by decide +kernel
theorem dX10_change_33 : decode cX10_change 33 = .ok (.iload_n 3, 1) := by decide +kernel
theorem dX10_change_34 : decode cX10_change 34 = .ok (.iload 4, 2) := by decide +kernel
theorem dX10_change_36 : decode cX10_change 36 = .ok (.invokevirtual 195, 3) := by decide +kernel
theorem dX10_change_39 : decode cX10_change 39 = .ok (.iconst 0, 1) := by decide +kernel
theorem dX10_change_40 : decode cX10_change 40 = .ok (.ireturn, 1) := by decide +kernel
theorem dX10_change_41 : decode cX10_change 41 = .ok (.aload_n 0, 1) := by decide +kernel
theorem dX10_change_42 : decode cX10_change 42 = .ok (.getfield 19, 3) := by decide +kernel
theorem dX10_change_45 : decode cX10_change 45 = .ok (.invokevirtual 186, 3) := by decide +kernel
theorem dX10_change_48 : decode cX10_change 48 = .ok (.ifCond .eq 5, 3) := by decide +kernel
theorem dX10_change_51 : decode cX10_change 51 = .ok (.iconst 4, 1) := by decide +kernel
theorem dX10_change_52 : decode cX10_change 52 = .ok (.ireturn, 1) := by decide +kernel
theorem dX10_change_53 : decode cX10_change 53 = .ok (.aload_n 2, 1) := by decide +kernel
theorem dX10_change_54 : decode cX10_change 54 = .ok (.iload_n 3, 1) := by decide +kernel
theorem dX10_change_55 : decode cX10_change 55 = .ok (.aload_n 0, 1) := by decide +kernel
theorem dX10_change_56 : decode cX10_change 56 = .ok (.getfield 19, 3) := by decide +kernel
theorem dX10_change_59 : decode cX10_change 59 = .ok (.invokevirtual 189, 3) := by decide +kernel
theorem dX10_change_62 : decode cX10_change 62 = .ok (.invokevirtual 198, 3) := by decide +kernel
theorem dX10_change_65 : decode cX10_change 65 = .ok (.iconst 0, 1) := by decide +kernel
theorem dX10_change_66 : decode cX10_change 66 = .ok (.ireturn, 1) := by decide +kernel
theorem dX10_change_67 : decode cX10_change 67 = .ok (.aload_n 2, 1) := by decide +kernel
theorem dX10_change_68 : decode cX10_change 68 = .ok (.iload_n 3, 1) := by decide +kernel
theorem dX10_change_69 : decode cX10_change 69 = .ok (.invokevirtual 201, 3) := by decide +kernel
theorem dX10_change_72 : decode cX10_change 72 = .ok (.iconst 0, 1) := by decide +kernel
theorem dX10_change_73 : decode cX10_change 73 = .ok (.ireturn, 1) := by decide +kernel
theorem dX10_change_74 : decode cX10_change 74 = .ok (.aload_n 2, 1) := by decide +kernel
theorem dX10_change_75 : decode cX10_change 75 = .ok (.iload_n 3, 1) := by decide +kernel
theorem dX10_change_76 : decode cX10_change 76 = .ok (.iload 4, 2) := by decide +kernel
theorem dX10_change_78 : decode cX10_change 78 = .ok (.invokevirtual 204, 3) := by decide +kernel
theorem dX10_change_81 : decode cX10_change 81 = .ok (.ifCond .eq 7, 3) := by decide +kernel
theorem dX10_change_84 : decode cX10_change 84 = .ok (.iconst 0, 1) := by decide +kernel
theorem dX10_change_85 : decode cX10_change 85 = .ok (.goto 4, 3) := by decide +kernel
theorem dX10_change_88 : decode cX10_change 88 = .ok (.iconst 5, 1) := by decide +kernel
theorem dX10_change_89 : decode cX10_change 89 = .ok (.ireturn, 1) := by decide +kernel
theorem dX10_change_90 : decode cX10_change 90 = .ok (.iconst 0, 1) := by decide +kernel
theorem dX10_change_91 : decode cX10_change 91 = .ok (.ireturn, 1) := by decide +kernel
theorem dX10_weaveCell_0 : decode cX10_weaveCell 0 = .ok (.aload_n 0, 1) := by decide +kernel
theorem dX10_weaveCell_1 : decode cX10_weaveCell 1 = .ok (.getfield 10, 3) := by decide +kernel
theorem dX10_weaveCell_4 : decode cX10_weaveCell 4 = .ok (.iload_n 1, 1) := by decide +kernel
theorem dX10_weaveCell_5 : decode cX10_weaveCell 5 = .ok (.iconst 3, 1) := by decide +kernel
theorem dX10_weaveCell_6 : decode cX10_weaveCell 6 = .ok (.invokevirtual 70, 3) := by decide +kernel
theorem dX10_weaveCell_9 : decode cX10_weaveCell 9 = .ok (.astore 5, 2) := by decide +kernel
theorem dX10_weaveCell_11 : decode cX10_weaveCell 11 = .ok (.aload 5, 2) := by decide +kernel
theorem dX10_weaveCell_13 : decode cX10_weaveCell 13 = .ok (.ifnull 12, 3) := by decide +kernel
theorem dX10_weaveCell_16 : decode cX10_weaveCell 16 = .ok (.aload 5, 2) := by decide +kernel
theorem dX10_weaveCell_18 : decode cX10_weaveCell 18 = .ok (.iload_n 3, 1) := by decide +kernel
theorem dX10_weaveCell_19 : decode cX10_weaveCell 19 = .ok (.invokevirtual 107, 3) := by decide +kernel
theorem dX10_weaveCell_22 : decode cX10_weaveCell 22 = .ok (.ifCond .ne 9, 3) := by decide +kernel
theorem dX10_weaveCell_25 : decode cX10_weaveCell 25 = .ok (.aload 5, 2) := by decide +kernel
theorem dX10_weaveCell_27 : decode cX10_weaveCell 27 = .ok (.invokestatic 207, 3) := by decide +kernel
theorem dX10_weaveCell_30 : decode cX10_weaveCell 30 = .ok (.ireturn, 1) := by decide +kernel
theorem dX10_weaveCell_31 : decode cX10_weaveCell 31 = .ok (.iload 4, 2) := by decide +kernel
theorem dX10_weaveCell_33 : decode cX10_weaveCell 33 = .ok (.istore 6, 2) := by decide +kernel
theorem dX10_weaveCell_35 : decode cX10_weaveCell 35 = .ok (.aload 5, 2) := by decide +kernel
theorem dX10_weaveCell_37 : decode cX10_weaveCell 37 = .ok (.iload_n 3, 1) := by decide +kernel
theorem dX10_weaveCell_38 : decode cX10_weaveCell 38 = .ok (.invokevirtual 110, 3) := by decide +kernel
theorem dX10_weaveCell_41 : decode cX10_weaveCell 41 = .ok (.iconst 1, 1) := by decide +kernel
theorem dX10_weaveCell_42 : decode cX10_weaveCell 42 = .ok (.if_icmp .ne 42, 3) := by decide +kernel
theorem dX10_weaveCell_45 : decode cX10_weaveCell 45 = .ok (.aload_n 0, 1) := by decide +kernel
theorem dX10_weaveCell_46 : decode cX10_weaveCell 46 = .ok (.getfield 10, 3) := by decide +kernel
theorem dX10_weaveCell_49 : decode cX10_weaveCell 49 = .ok (.iload_n 1, 1) := by decide +kernel
theorem dX10_weaveCell_50 : decode cX10_weaveCell 50 = .ok (.iconst 0, 1) := by decide +kernel
theorem dX10_weaveCell_51 : decode cX10_weaveCell 51 = .ok (.invokevirtual 70, 3) := by decide +kernel
theorem dX10_weaveCell_54 : decode cX10_weaveCell 54 = .ok (.astore 7, 2) := by decide +kernel
theorem dX10_weaveCell_56 : decode cX10_weaveCell 56 = .ok (.aload 7, 2) := by decide +kernel
theorem dX10_weaveCell_58 : decode cX10_weaveCell 58 = .ok (.ifnull 12, 3) := by decide +kernel
theorem dX10_weaveCell_61 : decode cX10_weaveCell 61 = .ok (.aload 7, 2) := by decide +kernel
theorem dX10_weaveCell_63 : decode cX10_weaveCell 63 = .ok (.iload_n 3, 1) := by decide +kernel
theorem dX10_weaveCell_64 : decode cX10_weaveCell 64 = .ok (.invokevirtual 107, 3) := by decide +kernel
theorem dX10_weaveCell_67 : decode cX10_weaveCell 67 = .ok (.ifCond .ne 9, 3) := by decide +kernel
theorem dX10_weaveCell_70 : decode cX10_weaveCell 70 = .ok (.aload 7, 2) := by decide +kernel
theorem dX10_weaveCell_72 : decode cX10_weaveCell 72 = .ok (.invokestatic 207, 3) := by decide +kernel
theorem dX10_weaveCell_75 : decode cX10_weaveCell 75 = .ok (.ireturn, 1) := by decide +kernel
theorem dX10_weaveCell_76 : decode cX10_weaveCell 76 = .ok (.aload 7, 2) := by decide +kernel
theorem dX10_weaveCell_78 : decode cX10_weaveCell 78 = .ok (.iload_n 3, 1) := by decide +kernel
theorem dX10_weaveCell_79 : decode cX10_weaveCell 79 = .ok (.invokevirtual 110, 3) := by decide +kernel
theorem dX10_weaveCell_82 : decode cX10_weaveCell 82 = .ok (.istore 6, 2) := by decide +kernel
theorem dX10_weaveCell_84 : decode cX10_weaveCell 84 = .ok (.aload_n 0, 1) := by decide +kernel
theorem dX10_weaveCell_85 : decode cX10_weaveCell 85 = .ok (.getfield 10, 3) := by decide +kernel
theorem dX10_weaveCell_88 : decode cX10_weaveCell 88 = .ok (.iload_n 1, 1) := by decide +kernel
theorem dX10_weaveCell_89 : decode cX10_weaveCell 89 = .ok (.iconst 1, 1) := by decide +kernel
theorem dX10_weaveCell_90 : decode cX10_weaveCell 90 = .ok (.invokevirtual 70, 3) := by decide +kernel
theorem dX10_weaveCell_93 : decode cX10_weaveCell 93 = .ok (.astore 7, 2) := by decide +kernel
theorem dX10_weaveCell_95 : decode cX10_weaveCell 95 = .ok (.aload 7, 2) := by decide +kernel
theorem dX10_weaveCell_97 : decode cX10_weaveCell 97 = .ok (.ifnull 12, 3) := by decide +kernel
theorem dX10_weaveCell_100 : decode cX10_weaveCell 100 = .ok (.aload 7, 2) := by decide +kernel
theorem dX10_weaveCell_102 : decode cX10_weaveCell 102 = .ok (.iload_n 3, 1) := by decide +kernel
theorem dX10_weaveCell_103 : decode cX10_weaveCell 103 = .ok (.invokevirtual 107, 3) := by decide +kernel
theorem dX10_weaveCell_106 : decode cX10_weaveCell 106 = .ok (.ifCond .ne 9, 3) := by decide +kernel
theorem dX10_weaveCell_109 : decode cX10_weaveCell 109 = .ok (.aload 7, 2) := by decide +kernel
theorem dX10_weaveCell_111 : decode cX10_weaveCell 111 = .ok (.invokestatic 207, 3) := by decide +kernel
theorem dX10_weaveCell_114 : decode cX10_weaveCell 114 = .ok (.ireturn, 1) := by decide +kernel
theorem dX10_weaveCell_115 : decode cX10_weaveCell 115 = .ok (.aload 7, 2) := by decide +kernel
theorem dX10_weaveCell_117 : decode cX10_weaveCell 117 = .ok (.iload_n 3, 1) := by decide +kernel
theorem dX10_weaveCell_118 : decode cX10_weaveCell 118 = .ok (.iconst (-1), 1) := by decide +kernel
theorem dX10_weaveCell_119 : decode cX10_weaveCell 119 = .ok (.invokevirtual 198, 3) := by decide +kernel
theorem dX10_weaveCell_122 : decode cX10_weaveCell 122 = .ok (.aload_n 0, 1) := by decide +kernel
theorem dX10_weaveCell_123 : decode cX10_weaveCell 123 = .ok (.getfield 26, 3) := by decide +kernel
theorem dX10_weaveCell_126 : decode cX10_weaveCell 126 = .ok (.iload_n 2, 1) := by decide +kernel
theorem dX10_weaveCell_127 : decode cX10_weaveCell 127 = .ok (.iload_n 3, 1) := by decide +kernel
theorem dX10_weaveCell_128 : decode cX10_weaveCell 128 = .ok (.iload 6, 2) := by decide +kernel
theorem dX10_weaveCell_130 : decode cX10_weaveCell 130 = .ok (.invokevirtual 211, 3) := by decide +kernel
theorem dX10_weaveCell_133 : decode cX10_weaveCell 133 = .ok (.iconst 0, 1) := by decide +kernel
theorem dX10_weaveCell_134 : decode cX10_weaveCell 134 = .ok (.ireturn, 1) := by decide +kernel
theorem dX10_faultAtEnd_0 : decode cX10_faultAtEnd 0 = .ok (.aload_n 0, 1) := by decide +kernel
theorem dX10_faultAtEnd_1 : decode cX10_faultAtEnd 1 = .ok (.ifnonnull 7, 3) := by decide +kernel
theorem dX10_faultAtEnd_4 : decode cX10_faultAtEnd 4 = .ok (.iconst 1, 1) := by decide +kernel
theorem dX10_faultAtEnd_5 : decode cX10_faultAtEnd 5 = .ok (.goto 4, 3) := by decide +kernel
theorem dX10_faultAtEnd_8 : decode cX10_faultAtEnd 8 = .ok (.iconst 2, 1) := by decide +kernel
theorem dX10_faultAtEnd_9 : decode cX10_faultAtEnd 9 = .ok (.ireturn, 1) := by decide +kernel
theorem dX11_init_0 : decode cX11_init 0 = .ok (.aload_n 0, 1) := by decide +kernel
theorem dX11_init_1 : decode cX11_init 1 = .ok (.invokespecial 1, 3) := by decide +kernel
theorem dX11_init_4 : decode cX11_init 4 = .ok (.aload_n 0, 1) := by decide +kernel
theorem dX11_init_5 : decode cX11_init 5 = .ok (.bipush 20, 2) := by decide +kernel
theorem dX11_init_7 : decode cX11_init 7 = .ok (.newarray .int, 2) := by decide +kernel
theorem dX11_init_9 : decode cX11_init 9 = .ok (.putfield 7, 3) := by decide +kernel
theorem dX11_init_12 : decode cX11_init 12 = .ok (.aload_n 0, 1) := by decide +kernel
theorem dX11_init_13 : decode cX11_init 13 = .ok (.bipush 20, 2) := by decide +kernel
theorem dX11_init_15 : decode cX11_init 15 = .ok (.newarray .int, 2) := by decide +kernel
theorem dX11_init_17 : decode cX11_init 17 = .ok (.putfield 13, 3) := by decide +kernel
theorem dX11_init_20 : decode cX11_init 20 = .ok (.aload_n 0, 1) := by decide +kernel
theorem dX11_init_21 : decode cX11_init 21 = .ok (.sipush 480, 3) := by decide +kernel
theorem dX11_init_24 : decode cX11_init 24 = .ok (.newarray .int, 2) := by decide +kernel
theorem dX11_init_26 : decode cX11_init 26 = .ok (.putfield 16, 3) := by decide +kernel
theorem dX11_init_29 : decode cX11_init 29 = .ok (.aload_n 0, 1) := by decide +kernel
theorem dX11_init_30 : decode cX11_init 30 = .ok (.sipush 480, 3) := by decide +kernel
theorem dX11_init_33 : decode cX11_init 33 = .ok (.newarray .float, 2) := by decide +kernel
theorem dX11_init_35 : decode cX11_init 35 = .ok (.putfield 19, 3) := by decide +kernel
theorem dX11_init_38 : decode cX11_init 38 = .ok (.aload_n 0, 1) := by decide +kernel
theorem dX11_init_39 : decode cX11_init 39 = .ok (.bipush 16, 2) := by decide +kernel
theorem dX11_init_41 : decode cX11_init 41 = .ok (.newarray .int, 2) := by decide +kernel
theorem dX11_init_43 : decode cX11_init 43 = .ok (.putfield 23, 3) := by decide +kernel
theorem dX11_init_46 : decode cX11_init 46 = .ok (.aload_n 0, 1) := by decide +kernel
theorem dX11_init_47 : decode cX11_init 47 = .ok (.bipush 24, 2) := by decide +kernel
theorem dX11_init_49 : decode cX11_init 49 = .ok (.newarray .int, 2) := by decide +kernel
theorem dX11_init_51 : decode cX11_init 51 = .ok (.putfield 26, 3) := by decide +kernel
theorem dX11_init_54 : decode cX11_init 54 = .ok (.aload_n 0, 1) := by decide +kernel
theorem dX11_init_55 : decode cX11_init 55 = .ok (.sipush 576, 3) := by decide +kernel
theorem dX11_init_58 : decode cX11_init 58 = .ok (.newarray .int, 2) := by decide +kernel
theorem dX11_init_60 : decode cX11_init 60 = .ok (.putfield 29, 3) := by decide +kernel
theorem dX11_init_63 : decode cX11_init 63 = .ok (.aload_n 0, 1) := by decide +kernel
theorem dX11_init_64 : decode cX11_init 64 = .ok (.bipush 60, 2) := by decide +kernel
theorem dX11_init_66 : decode cX11_init 66 = .ok (.newarray .int, 2) := by decide +kernel
theorem dX11_init_68 : decode cX11_init 68 = .ok (.putfield 32, 3) := by decide +kernel
theorem dX11_init_71 : decode cX11_init 71 = .ok (.aload_n 0, 1) := by decide +kernel
theorem dX11_init_72 : decode cX11_init 72 = .ok (.bipush 6, 2) := by decide +kernel
theorem dX11_init_74 : decode cX11_init 74 = .ok (.newarray .int, 2) := by decide +kernel
theorem dX11_init_76 : decode cX11_init 76 = .ok (.putfield 35, 3) := by decide +kernel
theorem dX11_init_79 : decode cX11_init 79 = .ok (.iconst 0, 1) := by decide +kernel
theorem dX11_init_80 : decode cX11_init 80 = .ok (.istore_n 1, 1) := by decide +kernel
theorem dX11_init_81 : decode cX11_init 81 = .ok (.iload_n 1, 1) := by decide +kernel
theorem dX11_init_82 : decode cX11_init 82 = .ok (.bipush 20, 2) := by decide +kernel
theorem dX11_init_84 : decode cX11_init 84 = .ok (.if_icmp .ge 16, 3) := by decide +kernel
theorem dX11_init_87 : decode cX11_init 87 = .ok (.aload_n 0, 1) := by decide +kernel
theorem dX11_init_88 : decode cX11_init 88 = .ok (.getfield 7, 3) := by decide +kernel
theorem dX11_init_91 : decode cX11_init 91 = .ok (.iload_n 1, 1) := by decide +kernel
theorem dX11_init_92 : decode cX11_init 92 = .ok (.iconst (-1), 1) := by decide +kernel
theorem dX11_init_93 : decode cX11_init 93 = .ok (.iastore, 1) := by decide +kernel
theorem dX11_init_94 : decode cX11_init 94 = .ok (.iinc 1 1, 3) := by decide +kernel
theorem dX11_init_97 : decode cX11_init 97 = .ok (.goto (-16), 3) := by decide +kernel
theorem dX11_init_100 : decode cX11_init 100 = .ok (.return_, 1) := by decide +kernel
theorem dX11_isFrame_0 : decode cX11_isFrame 0 = .ok (.iload_n 0, 1) := by decide +kernel
theorem dX11_isFrame_1 : decode cX11_isFrame 1 = .ok (.ifCond .lt 12, 3) := by decide +kernel
theorem dX11_isFrame_4 : decode cX11_isFrame 4 = .ok (.iload_n 0, 1) := by decide +kernel
theorem dX11_isFrame_5 : decode cX11_isFrame 5 = .ok (.iconst 4, 1) := by decide +kernel
theorem dX11_isFrame_6 : decode cX11_isFrame 6 = .ok (.if_icmp .ge 7, 3) := by decide +kernel
theorem dX11_isFrame_9 : decode cX11_isFrame 9 = .ok (.iconst 1, 1) := by decide +kernel
theorem dX11_isFrame_10 : decode cX11_isFrame 10 = .ok (.goto 4, 3) := by decide +kernel
theorem dX11_isFrame_13 : decode cX11_isFrame 13 = .ok (.iconst 0, 1) := by decide +kernel
theorem dX11_isFrame_14 : decode cX11_isFrame 14 = .ok (.ireturn, 1) := by decide +kernel
theorem dX11_isLane_0 : decode cX11_isLane 0 = .ok (.iload_n 0, 1) := by decide +kernel
theorem dX11_isLane_1 : decode cX11_isLane 1 = .ok (.invokestatic 38, 3) := by decide +kernel
theorem dX11_isLane_4 : decode cX11_isLane 4 = .ok (.ifCond .eq 16, 3) := by decide +kernel
theorem dX11_isLane_7 : decode cX11_isLane 7 = .ok (.iload_n 1, 1) := by decide +kernel
theorem dX11_isLane_8 : decode cX11_isLane 8 = .ok (.ifCond .lt 12, 3) := by decide +kernel
theorem dX11_isLane_11 : decode cX11_isLane 11 = .ok (.iload_n 1, 1) := by decide +kernel
theorem dX11_isLane_12 : decode cX11_isLane 12 = .ok (.iconst 5, 1) := by decide +kernel
theorem dX11_isLane_13 : decode cX11_isLane 13 = .ok (.if_icmp .ge 7, 3) := by decide +kernel
theorem dX11_isLane_16 : decode cX11_isLane 16 = .ok (.iconst 1, 1) := by decide +kernel
theorem dX11_isLane_17 : decode cX11_isLane 17 = .ok (.goto 4, 3) := by decide +kernel
theorem dX11_isLane_20 : decode cX11_isLane 20 = .ok (.iconst 0, 1) := by decide +kernel
theorem dX11_isLane_21 : decode cX11_isLane 21 = .ok (.ireturn, 1) := by decide +kernel
theorem dX11_bad_0 : decode cX11_bad 0 = .ok (.aload_n 0, 1) := by decide +kernel
theorem dX11_bad_1 : decode cX11_bad 1 = .ok (.iload_n 1, 1) := by decide +kernel
theorem dX11_bad_2 : decode cX11_bad 2 = .ok (.putfield 42, 3) := by decide +kernel
theorem dX11_bad_5 : decode cX11_bad 5 = .ok (.aload_n 0, 1) := by decide +kernel
theorem dX11_bad_6 : decode cX11_bad 6 = .ok (.getfield 35, 3) := by decide +kernel
theorem dX11_bad_9 : decode cX11_bad 9 = .ok (.iload_n 1, 1) := by decide +kernel
theorem dX11_bad_10 : decode cX11_bad 10 = .ok (.dup2, 1) := by decide +kernel
theorem dX11_bad_11 : decode cX11_bad 11 = .ok (.iaload, 1) := by decide +kernel
theorem dX11_bad_12 : decode cX11_bad 12 = .ok (.iconst 1, 1) := by decide +kernel
theorem dX11_bad_13 : decode cX11_bad 13 = .ok (.iadd, 1) := by decide +kernel
theorem dX11_bad_14 : decode cX11_bad 14 = .ok (.iastore, 1) := by decide +kernel
theorem dX11_bad_15 : decode cX11_bad 15 = .ok (.iconst 0, 1) := by decide +kernel
theorem dX11_bad_16 : decode cX11_bad 16 = .ok (.ireturn, 1) := by decide +kernel
theorem dX11_good_0 : decode cX11_good 0 = .ok (.aload_n 0, 1) := by decide +kernel
theorem dX11_good_1 : decode cX11_good 1 = .ok (.iconst 0, 1) := by decide +kernel
theorem dX11_good_2 : decode cX11_good 2 = .ok (.putfield 42, 3) := by decide +kernel
theorem dX11_good_5 : decode cX11_good 5 = .ok (.iload_n 1, 1) := by decide +kernel
theorem dX11_good_6 : decode cX11_good 6 = .ok (.ireturn, 1) := by decide +kernel
theorem dX11_wrong_0 : decode cX11_wrong 0 = .ok (.aload_n 0, 1) := by decide +kernel
theorem dX11_wrong_1 : decode cX11_wrong 1 = .ok (.getfield 7, 3) := by decide +kernel
theorem dX11_wrong_4 : decode cX11_wrong 4 = .ok (.iload_n 1, 1) := by decide +kernel
theorem dX11_wrong_5 : decode cX11_wrong 5 = .ok (.iaload, 1) := by decide +kernel
theorem dX11_wrong_6 : decode cX11_wrong 6 = .ok (.iconst (-1), 1) := by decide +kernel
theorem dX11_wrong_7 : decode cX11_wrong 7 = .ok (.if_icmp .ne 5, 3) := by decide +kernel
theorem dX11_wrong_10 : decode cX11_wrong 10 = .ok (.iconst 1, 1) := by decide +kernel
theorem dX11_wrong_11 : decode cX11_wrong 11 = .ok (.ireturn, 1) := by decide +kernel
theorem dX11_wrong_12 : decode cX11_wrong 12 = .ok (.iload_n 2, 1) := by decide +kernel
theorem dX11_wrong_13 : decode cX11_wrong 13 = .ok (.ifCond .lt 18, 3) := by decide +kernel
theorem dX11_wrong_16 : decode cX11_wrong 16 = .ok (.iload_n 2, 1) := by decide +kernel
theorem dX11_wrong_17 : decode cX11_wrong 17 = .ok (.aload_n 0, 1) := by decide +kernel
theorem dX11_wrong_18 : decode cX11_wrong 18 = .ok (.getfield 13, 3) := by decide +kernel
theorem dX11_wrong_21 : decode cX11_wrong 21 = .ok (.aload_n 0, 1) := by decide +kernel
theorem dX11_wrong_22 : decode cX11_wrong 22 = .ok (.getfield 7, 3) := by decide +kernel
theorem dX11_wrong_25 : decode cX11_wrong 25 = .ok (.iload_n 1, 1) := by decide +kernel
theorem dX11_wrong_26 : decode cX11_wrong 26 = .ok (.iaload, 1) := by decide +kernel
theorem dX11_wrong_27 : decode cX11_wrong 27 = .ok (.iaload, 1) := by decide +kernel
theorem dX11_wrong_28 : decode cX11_wrong 28 = .ok (.if_icmp .lt 7, 3) := by decide +kernel
theorem dX11_wrong_31 : decode cX11_wrong 31 = .ok (.iconst 2, 1) := by decide +kernel
theorem dX11_wrong_32 : decode cX11_wrong 32 = .ok (.goto 4, 3) := by decide +kernel
theorem dX11_wrong_35 : decode cX11_wrong 35 = .ok (.iconst 0, 1) := by decide +kernel
theorem dX11_wrong_36 : decode cX11_wrong 36 = .ok (.ireturn, 1) := by decide +kernel
theorem dX11_thread_0 : decode cX11_thread 0 = .ok (.iload_n 1, 1) := by decide +kernel
theorem dX11_thread_1 : decode cX11_thread 1 = .ok (.iload_n 2, 1) := by decide +kernel
theorem dX11_thread_2 : decode cX11_thread 2 = .ok (.invokestatic 46, 3) := by decide +kernel
theorem dX11_thread_5 : decode cX11_thread 5 = .ok (.ifCond .eq 9, 3) := by decide +kernel
theorem dX11_thread_8 : decode cX11_thread 8 = .ok (.iload_n 3, 1) := by decide +kernel
theorem dX11_thread_9 : decode cX11_thread 9 = .ok (.bipush 24, 2) := by decide +kernel
theorem dX11_thread_11 : decode cX11_thread 11 = .ok (.if_icmp .le 6, 3) := by decide +kernel
theorem dX11_thread_14 : decode cX11_thread 14 = .ok (.ldc 50, 2) := by decide +kernel
theorem dX11_thread_16 : decode cX11_thread 16 = .ok (.ireturn, 1) := by decide +kernel
theorem dX11_thread_17 : decode cX11_thread 17 = .ok (.iload_n 3, 1) := by decide +kernel
theorem dX11_thread_18 : decode cX11_thread 18 = .ok (.ifCond .ge 9, 3) := by decide +kernel
theorem dX11_thread_21 : decode cX11_thread 21 = .ok (.aload_n 0, 1) := by decide +kernel
theorem dX11_thread_22 : decode cX11_thread 22 = .ok (.iconst 3, 1) := by decide +kernel
theorem dX11_thread_23 : decode cX11_thread 23 = .ok (.invokevirtual 51, 3) := by decide +kernel
theorem dX11_thread_26 : decode cX11_thread 26 = .ok (.ireturn, 1) := by decide +kernel
theorem dX11_thread_27 : decode cX11_thread 27 = .ok (.iconst 5, 1) := by decide +kernel
theorem dX11_thread_28 : decode cX11_thread 28 = .ok (.iload_n 1, 1) := by decide +kernel
theorem dX11_thread_29 : decode cX11_thread 29 = .ok (.imul, 1) := by decide +kernel
theorem dX11_thread_30 : decode cX11_thread 30 = .ok (.iload_n 2, 1) := by decide +kernel
theorem dX11_thread_31 : decode cX11_thread 31 = .ok (.iadd, 1) := by decide +kernel
theorem dX11_thread_32 : decode cX11_thread 32 = .ok (.istore 4, 2) := by decide +kernel
theorem dX11_thread_34 : decode cX11_thread 34 = .ok (.aload_n 0, 1) := by decide +kernel
theorem dX11_thread_35 : decode cX11_thread 35 = .ok (.getfield 7, 3) := by decide +kernel
theorem dX11_thread_38 : decode cX11_thread 38 = .ok (.iload 4, 2) := by decide +kernel
theorem dX11_thread_40 : decode cX11_thread 40 = .ok (.iconst (-1), 1) := by decide +kernel
theorem dX11_thread_41 : decode cX11_thread 41 = .ok (.iastore, 1) := by decide +kernel
theorem dX11_thread_42 : decode cX11_thread 42 = .ok (.iconst 0, 1) := by decide +kernel
theorem dX11_thread_43 : decode cX11_thread 43 = .ok (.istore 5, 2) := by decide +kernel
theorem dX11_thread_45 : decode cX11_thread 45 = .ok (.aload_n 0, 1) := by decide +kernel
theorem dX11_thread_46 : decode cX11_thread 46 = .ok (.iload 5, 2) := by decide +kernel
theorem dX11_thread_48 : decode cX11_thread 48 = .ok (.invokevirtual 55, 3) := by decide +kernel
theorem dX11_thread_51 : decode cX11_thread 51 = .ok (.ifCond .eq 9, 3) := by decide +kernel
theorem dX11_thread_54 : decode cX11_thread 54 = .ok (.iinc 5 1, 3) := by decide +kernel
theorem dX11_thread_57 : decode cX11_thread 57 = .ok (.goto (-12), 3) := by decide +kernel
theorem dX11_thread_60 : decode cX11_thread 60 = .ok (.aload_n 0, 1) := by decide +kernel
theorem dX11_thread_61 : decode cX11_thread 61 = .ok (.getfield 7, 3) := by decide +kernel
theorem dX11_thread_64 : decode cX11_thread 64 = .ok (.iload 4, 2) := by decide +kernel
theorem dX11_thread_66 : decode cX11_thread 66 = .ok (.iload 5, 2) := by decide +kernel
theorem dX11_thread_68 : decode cX11_thread 68 = .ok (.iastore, 1) := by decide +kernel
theorem dX11_thread_69 : decode cX11_thread 69 = .ok (.aload_n 0, 1) := by decide +kernel
theorem dX11_thread_70 : decode cX11_thread 70 = .ok (.getfield 13, 3) := by decide +kernel
theorem dX11_thread_73 : decode cX11_thread 73 = .ok (.iload 5, 2) := by decide +kernel
theorem dX11_thread_75 : decode cX11_thread 75 = .ok (.iload_n 3, 1) := by decide +kernel
theorem dX11_thread_76 : decode cX11_thread 76 = .ok (.iastore, 1) := by decide +kernel
theorem dX11_thread_77 : decode cX11_thread 77 = .ok (.iconst 0, 1) := by decide +kernel
theorem dX11_thread_78 : decode cX11_thread 78 = .ok (.istore 6, 2) := by decide +kernel
theorem dX11_thread_80 : decode cX11_thread 80 = .ok (.iload 6, 2) := by decide +kernel
theorem dX11_thread_82 : decode cX11_thread 82 = .ok (.bipush 24, 2) := by decide +kernel
theorem dX11_thread_84 : decode cX11_thread 84 = .ok (.if_icmp .ge 37, 3) := by decide +kernel
theorem dX11_thread_87 : decode cX11_thread 87 = .ok (.aload_n 0, 1) := by decide +kernel
theorem dX11_thread_88 : decode cX11_thread 88 = .ok (.getfield 16, 3) := by decide +kernel
theorem dX11_thread_91 : decode cX11_thread 91 = .ok (.bipush 24, 2) := by decide +kernel
theorem dX11_thread_93 : decode cX11_thread 93 = .ok (.iload 5, 2) := by decide +kernel
theorem dX11_thread_95 : decode cX11_thread 95 = .ok (.imul, 1) := by decide +kernel
theorem dX11_thread_96 : decode cX11_thread 96 = .ok (.iload 6, 2) := by decide +kernel
theorem dX11_thread_98 : decode cX11_thread 98 = .ok (.iadd, 1) := by decide +kernel
theorem dX11_thread_99 : decode cX11_thread 99 = .ok (.iconst 0, 1) := by decide +kernel
theorem dX11_thread_100 : decode cX11_thread 100 = .ok (.iastore, 1) := by decide +kernel
theorem dX11_thread_101 : decode cX11_thread 101 = .ok (.aload_n 0, 1) := by decide +kernel
theorem dX11_thread_102 : decode cX11_thread 102 = .ok (.getfield 19, 3) := by decide +kernel
theorem dX11_thread_105 : decode cX11_thread 105 = .ok (.bipush 24, 2) := by decide +kernel
theorem dX11_thread_107 : decode cX11_thread 107 = .ok (.iload 5, 2) := by decide +kernel
theorem dX11_thread_109 : decode cX11_thread 109 = .ok (.imul, 1) := by decide +kernel
theorem dX11_thread_110 : decode cX11_thread 110 = .ok (.iload 6, 2) := by decide +kernel
theorem dX11_thread_112 : decode cX11_thread 112 = .ok (.iadd, 1) := by decide +kernel
theorem dX11_thread_113 : decode cX11_thread 113 = .ok (.fconst 0, 1) := by decide +kernel
theorem dX11_thread_114 : decode cX11_thread 114 = .ok (.fastore, 1) := by decide +kernel
theorem dX11_thread_115 : decode cX11_thread 115 = .ok (.iinc 6 1, 3) := by decide +kernel
theorem dX11_thread_118 : decode cX11_thread 118 = .ok (.goto (-38), 3) := by decide +kernel
theorem dX11_thread_121 : decode cX11_thread 121 = .ok (.aload_n 0, 1) := by decide +kernel
theorem dX11_thread_122 : decode cX11_thread 122 = .ok (.iload_n 3, 1) := by decide +kernel
theorem dX11_thread_123 : decode cX11_thread 123 = .ok (.invokevirtual 58, 3) := by decide +kernel
theorem dX11_thread_126 : decode cX11_thread 126 = .ok (.ireturn, 1) := by decide +kernel
theorem dX11_isUsed_0 : decode cX11_isUsed 0 = .ok (.iconst 0, 1) := by decide +kernel
theorem dX11_isUsed_1 : decode cX11_isUsed 1 = .ok (.istore_n 2, 1) := by decide +kernel
theorem dX11_isUsed_2 : decode cX11_isUsed 2 = .ok (.iconst 0, 1) := by decide +kernel
theorem dX11_isUsed_3 : decode cX11_isUsed 3 = .ok (.istore_n 3, 1) := by decide +kernel
theorem dX11_isUsed_4 : decode cX11_isUsed 4 = .ok (.iload_n 3, 1) := by decide +kernel
theorem dX11_isUsed_5 : decode cX11_isUsed 5 = .ok (.bipush 20, 2) := by decide +kernel
theorem dX11_isUsed_7 : decode cX11_isUsed 7 = .ok (.if_icmp .ge 29, 3) := by decide +kernel
theorem dX11_isUsed_10 : decode cX11_isUsed 10 = .ok (.iload_n 2, 1) := by decide +kernel
theorem dX11_isUsed_11 : decode cX11_isUsed 11 = .ok (.ifCond .ne 13, 3) := by decide +kernel
theorem dX11_isUsed_14 : decode cX11_isUsed 14 = .ok (.aload_n 0, 1) := by decide +kernel
theorem dX11_isUsed_15 : decode cX11_isUsed 15 = .ok (.getfield 7, 3) := by decide +kernel
theorem dX11_isUsed_18 : decode cX11_isUsed 18 = .ok (.iload_n 3, 1) := by decide +kernel
theorem dX11_isUsed_19 : decode cX11_isUsed 19 = .ok (.iaload, 1) := by decide +kernel
theorem dX11_isUsed_20 : decode cX11_isUsed 20 = .ok (.iload_n 1, 1) := by decide +kernel
theorem dX11_isUsed_21 : decode cX11_isUsed 21 = .ok (.if_icmp .ne 7, 3) := by decide +kernel
theorem dX11_isUsed_24 : decode cX11_isUsed 24 = .ok (.iconst 1, 1) := by decide +kernel
theorem dX11_isUsed_25 : decode cX11_isUsed 25 = .ok (.goto 4, 3) := by decide +kernel
theorem dX11_isUsed_28 : decode cX11_isUsed 28 = .ok (.iconst 0, 1) := by decide +kernel
theorem dX11_isUsed_29 : decode cX11_isUsed 29 = .ok (.istore_n 2, 1) := by decide +kernel
theorem dX11_isUsed_30 : decode cX11_isUsed 30 = .ok (.iinc 3 1, 3) := by decide +kernel
theorem dX11_isUsed_33 : decode cX11_isUsed 33 = .ok (.goto (-29), 3) := by decide +kernel
theorem dX11_isUsed_36 : decode cX11_isUsed 36 = .ok (.iload_n 2, 1) := by decide +kernel
theorem dX11_isUsed_37 : decode cX11_isUsed 37 = .ok (.ireturn, 1) := by decide +kernel
theorem dX11_cut_0 : decode cX11_cut 0 = .ok (.iload_n 1, 1) := by decide +kernel
theorem dX11_cut_1 : decode cX11_cut 1 = .ok (.iload_n 2, 1) := by decide +kernel
theorem dX11_cut_2 : decode cX11_cut 2 = .ok (.invokestatic 46, 3) := by decide +kernel
theorem dX11_cut_5 : decode cX11_cut 5 = .ok (.ifCond .ne 6, 3) := by decide +kernel
theorem dX11_cut_8 : decode cX11_cut 8 = .ok (.ldc 50, 2) := by decide +kernel
theorem dX11_cut_10 : decode cX11_cut 10 = .ok (.ireturn, 1) := by decide +kernel
theorem dX11_cut_11 : decode cX11_cut 11 = .ok (.iconst 5, 1) := by decide +kernel
theorem dX11_cut_12 : decode cX11_cut 12 = .ok (.iload_n 1, 1) := by decide +kernel
theorem dX11_cut_13 : decode cX11_cut 13 = .ok (.imul, 1) := by decide +kernel
theorem dX11_cut_14 : decode cX11_cut 14 = .ok (.iload_n 2, 1) := by decide +kernel
theorem dX11_cut_15 : decode cX11_cut 15 = .ok (.iadd, 1) := by decide +kernel
theorem dX11_cut_16 : decode cX11_cut 16 = .ok (.istore_n 3, 1) := by decide +kernel
theorem dX11_cut_17 : decode cX11_cut 17 = .ok (.aload_n 0, 1) := by decide +kernel
theorem dX11_cut_18 : decode cX11_cut 18 = .ok (.getfield 7, 3) := by decide +kernel
theorem dX11_cut_21 : decode cX11_cut 21 = .ok (.iload_n 3, 1) := by decide +kernel
theorem dX11_cut_22 : decode cX11_cut 22 = .ok (.iaload, 1) := by decide +kernel
theorem dX11_cut_23 : decode cX11_cut 23 = .ok (.iconst (-1), 1) := by decide +kernel
theorem dX11_cut_24 : decode cX11_cut 24 = .ok (.if_icmp .ne 7, 3) := by decide +kernel
theorem dX11_cut_27 : decode cX11_cut 27 = .ok (.iconst 0, 1) := by decide +kernel
theorem dX11_cut_28 : decode cX11_cut 28 = .ok (.goto 4, 3) := by decide +kernel
theorem dX11_cut_31 : decode cX11_cut 31 = .ok (.iconst 1, 1) := by decide +kernel
theorem dX11_cut_32 : decode cX11_cut 32 = .ok (.istore 4, 2) := by decide +kernel
theorem dX11_cut_34 : decode cX11_cut 34 = .ok (.aload_n 0, 1) := by decide +kernel
theorem dX11_cut_35 : decode cX11_cut 35 = .ok (.getfield 7, 3) := by decide +kernel
theorem dX11_cut_38 : decode cX11_cut 38 = .ok (.iload_n 3, 1) := by decide +kernel
theorem dX11_cut_39 : decode cX11_cut 39 = .ok (.iconst (-1), 1) := by decide +kernel
theorem dX11_cut_40 : decode cX11_cut 40 = .ok (.iastore, 1) := by decide +kernel
theorem dX11_cut_41 : decode cX11_cut 41 = .ok (.iload 4, 2) := by decide +kernel
theorem dX11_cut_43 : decode cX11_cut 43 = .ok (.ireturn, 1) := by decide +kernel
theorem dX11_tie_0 : decode cX11_tie 0 = .ok (.iload_n 1, 1) := by decide +kernel
theorem dX11_tie_1 : decode cX11_tie 1 = .ok (.iload_n 2, 1) := by decide +kernel
theorem dX11_tie_2 : decode cX11_tie 2 = .ok (.invokestatic 46, 3) := by decide +kernel
theorem dX11_tie_5 : decode cX11_tie 5 = .ok (.ifCond .eq 10, 3) := by decide +kernel
theorem dX11_tie_8 : decode cX11_tie 8 = .ok (.iload_n 3, 1) := by decide +kernel
theorem dX11_tie_9 : decode cX11_tie 9 = .ok (.invokestatic 38, 3) := by decide +kernel
theorem dX11_tie_12 : decode cX11_tie 12 = .ok (.ifCond .ne 6, 3) := by decide +kernel
theorem dX11_tie_15 : decode cX11_tie 15 = .ok (.ldc 50, 2) := by decide +kernel
theorem dX11_tie_17 : decode cX11_tie 17 = .ok (.ireturn, 1) := by decide +kernel
theorem dX11_tie_18 : decode cX11_tie 18 = .ok (.aload_n 0, 1) := by decide +kernel
theorem dX11_tie_19 : decode cX11_tie 19 = .ok (.getfield 7, 3) := by decide +kernel
theorem dX11_tie_22 : decode cX11_tie 22 = .ok (.iconst 5, 1) := by decide +kernel
theorem dX11_tie_23 : decode cX11_tie 23 = .ok (.iload_n 3, 1) := by decide +kernel
theorem dX11_tie_24 : decode cX11_tie 24 = .ok (.imul, 1) := by decide +kernel
theorem dX11_tie_25 : decode cX11_tie 25 = .ok (.iload_n 2, 1) := by decide +kernel
theorem dX11_tie_26 : decode cX11_tie 26 = .ok (.iadd, 1) := by decide +kernel
theorem dX11_tie_27 : decode cX11_tie 27 = .ok (.iaload, 1) := by decide +kernel
theorem dX11_tie_28 : decode cX11_tie 28 = .ok (.istore 4, 2) := by decide +kernel
theorem dX11_tie_30 : decode cX11_tie 30 = .ok (.aload_n 0, 1) := by decide +kernel
theorem dX11_tie_31 : decode cX11_tie 31 = .ok (.getfield 7, 3) := by decide +kernel
theorem dX11_tie_34 : decode cX11_tie 34 = .ok (.iconst 5, 1) := by decide +kernel
theorem dX11_tie_35 : decode cX11_tie 35 = .ok (.iload_n 1, 1) := by decide +kernel
theorem dX11_tie_36 : decode cX11_tie 36 = .ok (.imul, 1) := by decide +kernel
theorem dX11_tie_37 : decode cX11_tie 37 = .ok (.iload_n 2, 1) := by decide +kernel
theorem dX11_tie_38 : decode cX11_tie 38 = .ok (.iadd, 1) := by decide +kernel
theorem dX11_tie_39 : decode cX11_tie 39 = .ok (.iload 4, 2) := by decide +kernel
theorem dX11_tie_41 : decode cX11_tie 41 = .ok (.iastore, 1) := by decide +kernel
theorem dX11_tie_42 : decode cX11_tie 42 = .ok (.aload_n 0, 1) := by decide +kernel
theorem dX11_tie_43 : decode cX11_tie 43 = .ok (.iload 4, 2) := by decide +kernel
theorem dX11_tie_45 : decode cX11_tie 45 = .ok (.iconst (-1), 1) := by decide +kernel
theorem dX11_tie_46 : decode cX11_tie 46 = .ok (.if_icmp .ne 7, 3) := by decide +kernel
theorem dX11_tie_49 : decode cX11_tie 49 = .ok (.iconst 0, 1) := by decide +kernel
theorem dX11_tie_50 : decode cX11_tie 50 = .ok (.goto 10, 3) := by decide +kernel
theorem dX11_tie_53 : decode cX11_tie 53 = .ok (.aload_n 0, 1) := by decide +kernel
theorem dX11_tie_54 : decode cX11_tie 54 = .ok (.getfield 13, 3) := by decide +kernel
theorem dX11_tie_57 : decode cX11_tie 57 = .ok (.iload 4, 2) := by decide +kernel
theorem dX11_tie_59 : decode cX11_tie 59 = .ok (.iaload, 1) := by decide +kernel
theorem dX11_tie_60 : decode cX11_tie 60 = .ok (.invokevirtual 58, 3) := by decide +kernel
theorem dX11_tie_63 : decode cX11_tie 63 = .ok (.ireturn, 1) := by decide +kernel
theorem dX11_ends_0 : decode cX11_ends 0 = .ok (.iload_n 1, 1) := by decide +kernel
theorem dX11_ends_1 : decode cX11_ends 1 = .ok (.iload_n 2, 1) := by decide +kernel
theorem dX11_ends_2 : decode cX11_ends 2 = .ok (.invokestatic 46, 3) := by decide +kernel
theorem dX11_ends_5 : decode cX11_ends 5 = .ok (.ifCond .ne 6, 3) := by decide +kernel
theorem dX11_ends_8 : decode cX11_ends 8 = .ok (.ldc 50, 2) := by decide +kernel
theorem dX11_ends_10 : decode cX11_ends 10 = .ok (.ireturn, 1) := by decide +kernel
theorem dX11_ends_11 : decode cX11_ends 11 = .ok (.aload_n 0, 1) := by decide +kernel
theorem dX11_ends_12 : decode cX11_ends 12 = .ok (.getfield 7, 3) := by decide +kernel
theorem dX11_ends_15 : decode cX11_ends 15 = .ok (.iconst 5, 1) := by decide +kernel
theorem dX11_ends_16 : decode cX11_ends 16 = .ok (.iload_n 1, 1) := by decide +kernel
theorem dX11_ends_17 : decode cX11_ends 17 = .ok (.imul, 1) := by decide +kernel
theorem dX11_ends_18 : decode cX11_ends 18 = .ok (.iload_n 2, 1) := by decide +kernel
theorem dX11_ends_19 : decode cX11_ends 19 = .ok (.iadd, 1) := by decide +kernel
theorem dX11_ends_20 : decode cX11_ends 20 = .ok (.iaload, 1) := by decide +kernel
theorem dX11_ends_21 : decode cX11_ends 21 = .ok (.istore_n 3, 1) := by decide +kernel
theorem dX11_ends_22 : decode cX11_ends 22 = .ok (.iload_n 3, 1) := by decide +kernel
theorem dX11_ends_23 : decode cX11_ends 23 = .ok (.iconst (-1), 1) := by decide +kernel
theorem dX11_ends_24 : decode cX11_ends 24 = .ok (.if_icmp .ne 11, 3) := by decide +kernel
theorem dX11_ends_27 : decode cX11_ends 27 = .ok (.aload_n 0, 1) := by decide +kernel
theorem dX11_ends_28 : decode cX11_ends 28 = .ok (.iconst 1, 1) := by decide +kernel
theorem dX11_ends_29 : decode cX11_ends 29 = .ok (.invokevirtual 51, 3) := by decide +kernel
theorem dX11_ends_32 : decode cX11_ends 32 = .ok (.goto 13, 3) := by decide +kernel
theorem dX11_ends_35 : decode cX11_ends 35 = .ok (.aload_n 0, 1) := by decide +kernel
theorem dX11_ends_36 : decode cX11_ends 36 = .ok (.aload_n 0, 1) := by decide +kernel
theorem dX11_ends_37 : decode cX11_ends 37 = .ok (.getfield 13, 3) := by decide +kernel
theorem dX11_ends_40 : decode cX11_ends 40 = .ok (.iload_n 3, 1) := by decide +kernel
theorem dX11_ends_41 : decode cX11_ends 41 = .ok (.iaload, 1) := by decide +kernel
theorem dX11_ends_42 : decode cX11_ends 42 = .ok (.invokevirtual 58, 3) := by decide +kernel
theorem dX11_ends_45 : decode cX11_ends 45 = .ok (.ireturn, 1) := by decide +kernel
theorem dX11_spool_0 : decode cX11_spool 0 = .ok (.aload_n 0, 1) := by decide +kernel
theorem dX11_spool_1 : decode cX11_spool 1 = .ok (.getfield 61, 3) := by decide +kernel
theorem dX11_spool_4 : decode cX11_spool 4 = .ok (.bipush 16, 2) := by decide +kernel
theorem dX11_spool_6 : decode cX11_spool 6 = .ok (.if_icmp .ne 6, 3) := by decide +kernel
theorem dX11_spool_9 : decode cX11_spool 9 = .ok (.ldc 50, 2) := by decide +kernel
theorem dX11_spool_11 : decode cX11_spool 11 = .ok (.ireturn, 1) := by decide +kernel
theorem dX11_spool_12 : decode cX11_spool 12 = .ok (.aload_n 0, 1) := by decide +kernel
theorem dX11_spool_13 : decode cX11_spool 13 = .ok (.getfield 23, 3) := by decide +kernel
theorem dX11_spool_16 : decode cX11_spool 16 = .ok (.aload_n 0, 1) := by decide +kernel
theorem dX11_spool_17 : decode cX11_spool 17 = .ok (.getfield 61, 3) := by decide +kernel
theorem dX11_spool_20 : decode cX11_spool 20 = .ok (.iload_n 1, 1) := by decide +kernel
theorem dX11_spool_21 : decode cX11_spool 21 = .ok (.iastore, 1) := by decide +kernel
theorem dX11_spool_22 : decode cX11_spool 22 = .ok (.aload_n 0, 1) := by decide +kernel
theorem dX11_spool_23 : decode cX11_spool 23 = .ok (.dup, 1) := by decide +kernel
theorem dX11_spool_24 : decode cX11_spool 24 = .ok (.getfield 61, 3) := by decide +kernel
theorem dX11_spool_27 : decode cX11_spool 27 = .ok (.iconst 1, 1) := by decide +kernel
theorem dX11_spool_28 : decode cX11_spool 28 = .ok (.iadd, 1) := by decide +kernel
theorem dX11_spool_29 : decode cX11_spool 29 = .ok (.putfield 61, 3) := by decide +kernel
theorem dX11_spool_32 : decode cX11_spool 32 = .ok (.aload_n 0, 1) := by decide +kernel
theorem dX11_spool_33 : decode cX11_spool 33 = .ok (.getfield 61, 3) := by decide +kernel
theorem dX11_spool_36 : decode cX11_spool 36 = .ok (.ireturn, 1) := by decide +kernel
theorem dX11_drawn_0 : decode cX11_drawn 0 = .ok (.aload_n 0, 1) := by decide +kernel
theorem dX11_drawn_1 : decode cX11_drawn 1 = .ok (.getfield 23, 3) := by decide +kernel
theorem dX11_drawn_4 : decode cX11_drawn 4 = .ok (.iconst 0, 1) := by decide +kernel
theorem dX11_drawn_5 : decode cX11_drawn 5 = .ok (.iaload, 1) := by decide +kernel
theorem dX11_drawn_6 : decode cX11_drawn 6 = .ok (.istore_n 1, 1) := by decide +kernel
theorem dX11_drawn_7 : decode cX11_drawn 7 = .ok (.aload_n 0, 1) := by decide +kernel
theorem dX11_drawn_8 : decode cX11_drawn 8 = .ok (.dup, 1) := by decide +kernel
theorem dX11_drawn_9 : decode cX11_drawn 9 = .ok (.getfield 61, 3) := by decide +kernel
theorem dX11_drawn_12 : decode cX11_drawn 12 = .ok (.iconst 1, 1) := by decide +kernel
theorem dX11_drawn_13 : decode cX11_drawn 13 = .ok (.isub, 1) := by decide +kernel
theorem dX11_drawn_14 : decode cX11_drawn 14 = .ok (.putfield 61, 3) := by decide +kernel
theorem dX11_drawn_17 : decode cX11_drawn 17 = .ok (.iconst 0, 1) := by decide +kernel
theorem dX11_drawn_18 : decode cX11_drawn 18 = .ok (.istore_n 2, 1) := by decide +kernel
theorem dX11_drawn_19 : decode cX11_drawn 19 = .ok (.iload_n 2, 1) := by decide +kernel
theorem dX11_drawn_20 : decode cX11_drawn 20 = .ok (.aload_n 0, 1) := by decide +kernel
theorem dX11_drawn_21 : decode cX11_drawn 21 = .ok (.getfield 61, 3) := by decide +kernel
theorem dX11_drawn_24 : decode cX11_drawn 24 = .ok (.if_icmp .ge 23, 3) := by decide +kernel
theorem dX11_drawn_27 : decode cX11_drawn 27 = .ok (.aload_n 0, 1) := by decide +kernel
theorem dX11_drawn_28 : decode cX11_drawn 28 = .ok (.getfield 23, 3) := by decide +kernel
theorem dX11_drawn_31 : decode cX11_drawn 31 = .ok (.iload_n 2, 1) := by decide +kernel
theorem dX11_drawn_32 : decode cX11_drawn 32 = .ok (.aload_n 0, 1) := by decide +kernel
theorem dX11_drawn_33 : decode cX11_drawn 33 = .ok (.getfield 23, 3) := by decide +kernel
theorem dX11_drawn_36 : decode cX11_drawn 36 = .ok (.iload_n 2, 1) := by decide +kernel
theorem dX11_drawn_37 : decode cX11_drawn 37 = .ok (.iconst 1, 1) := by decide +kernel
theorem dX11_drawn_38 : decode cX11_drawn 38 = .ok (.iadd, 1) := by decide +kernel
theorem dX11_drawn_39 : decode cX11_drawn 39 = .ok (.iaload, 1) := by decide +kernel
theorem dX11_drawn_40 : decode cX11_drawn 40 = .ok (.iastore, 1) := by decide +kernel
theorem dX11_drawn_41 : decode cX11_drawn 41 = .ok (.iinc 2 1, 3) := by decide +kernel
theorem dX11_drawn_44 : decode cX11_drawn 44 = .ok (.goto (-25), 3) := by decide +kernel
theorem dX11_drawn_47 : decode cX11_drawn 47 = .ok (.iload_n 1, 1) := by decide +kernel
theorem dX11_drawn_48 : decode cX11_drawn 48 = .ok (.ireturn, 1) := by decide +kernel
theorem dX11_cutTo_0 : decode cX11_cutTo 0 = .ok (.iload_n 0, 1) := by decide +kernel
theorem dX11_cutTo_1 : decode cX11_cutTo 1 = .ok (.ifCond .ne 8, 3) := by decide +kernel
theorem dX11_cutTo_4 : decode cX11_cutTo 4 = .ok (.iload_n 1, 1) := by decide +kernel
theorem dX11_cutTo_5 : decode cX11_cutTo 5 = .ok (.ldc 64, 2) := by decide +kernel
theorem dX11_cutTo_7 : decode cX11_cutTo 7 = .ok (.iand, 1) := by decide +kernel
theorem dX11_cutTo_8 : decode cX11_cutTo 8 = .ok (.ireturn, 1) := by decide +kernel
theorem dX11_cutTo_9 : decode cX11_cutTo 9 = .ok (.iload_n 0, 1) := by decide +kernel
theorem dX11_cutTo_10 : decode cX11_cutTo 10 = .ok (.iconst 1, 1) := by decide +kernel
theorem dX11_cutTo_11 : decode cX11_cutTo 11 = .ok (.if_icmp .ne 11, 3) := by decide +kernel
theorem dX11_cutTo_14 : decode cX11_cutTo 14 = .ok (.iload_n 1, 1) := by decide +kernel
theorem dX11_cutTo_15 : decode cX11_cutTo 15 = .ok (.bipush 16, 2) := by decide +kernel
theorem dX11_cutTo_17 : decode cX11_cutTo 17 = .ok (.ishl, 1) := by decide +kernel
theorem dX11_cutTo_18 : decode cX11_cutTo 18 = .ok (.bipush 16, 2) := by decide +kernel
theorem dX11_cutTo_20 : decode cX11_cutTo 20 = .ok (.ishr, 1) := by decide +kernel
theorem dX11_cutTo_21 : decode cX11_cutTo 21 = .ok (.ireturn, 1) := by decide +kernel
theorem dX11_cutTo_22 : decode cX11_cutTo 22 = .ok (.iload_n 0, 1) := by decide +kernel
theorem dX11_cutTo_23 : decode cX11_cutTo 23 = .ok (.iconst 4, 1) := by decide +kernel
theorem dX11_cutTo_24 : decode cX11_cutTo 24 = .ok (.if_icmp .ne 13, 3) := by decide +kernel
theorem dX11_cutTo_27 : decode cX11_cutTo 27 = .ok (.iload_n 1, 1) := by decide +kernel
theorem dX11_cutTo_28 : decode cX11_cutTo 28 = .ok (.bipush 24, 2) := by decide +kernel
theorem dX11_cutTo_30 : decode cX11_cutTo 30 = .ok (.ishl, 1) := by decide +kernel
theorem dX11_cutTo_31 : decode cX11_cutTo 31 = .ok (.bipush 24, 2) := by decide +kernel
theorem dX11_cutTo_33 : decode cX11_cutTo 33 = .ok (.ishr, 1) := by decide +kernel
theorem dX11_cutTo_34 : decode cX11_cutTo 34 = .ok (.goto 6, 3) := by decide +kernel
theorem dX11_cutTo_37 : decode cX11_cutTo 37 = .ok (.iload_n 1, 1) := by decide +kernel
theorem dX11_cutTo_38 : decode cX11_cutTo 38 = .ok (.iconst 1, 1) := by decide +kernel
theorem dX11_cutTo_39 : decode cX11_cutTo 39 = .ok (.iand, 1) := by decide +kernel
theorem dX11_cutTo_40 : decode cX11_cutTo 40 = .ok (.ireturn, 1) := by decide +kernel
theorem dX11_held_0 : decode cX11_held 0 = .ok (.fload_n 0, 1) := by decide +kernel
theorem dX11_held_1 : decode cX11_held 1 = .ok (.ldc 65, 2) := by decide +kernel
theorem dX11_held_3 : decode cX11_held 3 = .ok (.fcmp .g, 1) := by decide +kernel
theorem dX11_held_4 : decode cX11_held 4 = .ok (.ifCond .ge 8, 3) := by decide +kernel
theorem dX11_held_7 : decode cX11_held 7 = .ok (.ldc 65, 2) := by decide +kernel
theorem dX11_held_9 : decode cX11_held 9 = .ok (.goto 16, 3) := by decide +kernel
theorem dX11_held_12 : decode cX11_held 12 = .ok (.fload_n 0, 1) := by decide +kernel
theorem dX11_held_13 : decode cX11_held 13 = .ok (.ldc 66, 2) := by decide +kernel
theorem dX11_held_15 : decode cX11_held 15 = .ok (.fcmp .l, 1) := by decide +kernel
theorem dX11_held_16 : decode cX11_held 16 = .ok (.ifCond .le 8, 3) := by decide +kernel
theorem dX11_held_19 : decode cX11_held 19 = .ok (.ldc 66, 2) := by decide +kernel
theorem dX11_held_21 : decode cX11_held 21 = .ok (.goto 4, 3) := by decide +kernel
theorem dX11_held_24 : decode cX11_held 24 = .ok (.fload_n 0, 1) := by decide +kernel
theorem dX11_held_25 : decode cX11_held 25 = .ok (.freturn, 1) := by decide +kernel
theorem dX11_eighths_0 : decode cX11_eighths 0 = .ok (.iload_n 0, 1) := by decide +kernel
theorem dX11_eighths_1 : decode cX11_eighths 1 = .ok (.i2f, 1) := by decide +kernel
theorem dX11_eighths_2 : decode cX11_eighths 2 = .ok (.ldc 67, 2) := by decide +kernel
theorem dX11_eighths_4 : decode cX11_eighths 4 = .ok (.fdiv, 1) := by decide +kernel
theorem dX11_eighths_5 : decode cX11_eighths 5 = .ok (.freturn, 1) := by decide +kernel
theorem dX11_tells_0 : decode cX11_tells 0 = .ok (.iload_n 1, 1) := by decide +kernel
theorem dX11_tells_1 : decode cX11_tells 1 = .ok (.iconst 2, 1) := by decide +kernel
theorem dX11_tells_2 : decode cX11_tells 2 = .ok (.if_icmp .ne 16, 3) := by decide +kernel
theorem dX11_tells_5 : decode cX11_tells 5 = .ok (.aload_n 0, 1) := by decide +kernel
theorem dX11_tells_6 : decode cX11_tells 6 = .ok (.getfield 19, 3) := by decide +kernel
theorem dX11_tells_9 : decode cX11_tells 9 = .ok (.iload_n 2, 1) := by decide +kernel
theorem dX11_tells_10 : decode cX11_tells 10 = .ok (.faload, 1) := by decide +kernel
theorem dX11_tells_11 : decode cX11_tells 11 = .ok (.ldc 67, 2) := by decide +kernel
theorem dX11_tells_13 : decode cX11_tells 13 = .ok (.fmul, 1) := by decide +kernel
theorem dX11_tells_14 : decode cX11_tells 14 = .ok (.f2i, 1) := by decide +kernel
theorem dX11_tells_15 : decode cX11_tells 15 = .ok (.goto 9, 3) := by decide +kernel
theorem dX11_tells_18 : decode cX11_tells 18 = .ok (.aload_n 0, 1) := by decide +kernel
theorem dX11_tells_19 : decode cX11_tells 19 = .ok (.getfield 16, 3) := by decide +kernel
theorem dX11_tells_22 : decode cX11_tells 22 = .ok (.iload_n 2, 1) := by decide +kernel
theorem dX11_tells_23 : decode cX11_tells 23 = .ok (.iaload, 1) := by decide +kernel
theorem dX11_tells_24 : decode cX11_tells 24 = .ok (.ireturn, 1) := by decide +kernel
theorem dX11_lay_0 : decode cX11_lay 0 = .ok (.iload_n 1, 1) := by decide +kernel
theorem dX11_lay_1 : decode cX11_lay 1 = .ok (.iconst 2, 1) := by decide +kernel
theorem dX11_lay_2 : decode cX11_lay 2 = .ok (.if_icmp .ne 19, 3) := by decide +kernel
theorem dX11_lay_5 : decode cX11_lay 5 = .ok (.aload_n 0, 1) := by decide +kernel
theorem dX11_lay_6 : decode cX11_lay 6 = .ok (.getfield 19, 3) := by decide +kernel
theorem dX11_lay_9 : decode cX11_lay 9 = .ok (.iload_n 2, 1) := by decide +kernel
theorem dX11_lay_10 : decode cX11_lay 10 = .ok (.iload_n 3, 1) := by decide +kernel
theorem dX11_lay_11 : decode cX11_lay 11 = .ok (.invokestatic 68, 3) := by decide +kernel
theorem dX11_lay_14 : decode cX11_lay 14 = .ok (.invokestatic 72, 3) := by decide +kernel
theorem dX11_lay_17 : decode cX11_lay 17 = .ok (.fastore, 1) := by decide +kernel
theorem dX11_lay_18 : decode cX11_lay 18 = .ok (.goto 14, 3) := by decide +kernel
theorem dX11_lay_21 : decode cX11_lay 21 = .ok (.aload_n 0, 1) := by decide +kernel
theorem dX11_lay_22 : decode cX11_lay 22 = .ok (.getfield 16, 3) := by decide +kernel
theorem dX11_lay_25 : decode cX11_lay 25 = .ok (.iload_n 2, 1) := by decide +kernel
theorem dX11_lay_26 : decode cX11_lay 26 = .ok (.iload_n 1, 1) := by decide +kernel
theorem dX11_lay_27 : decode cX11_lay 27 = .ok (.iload_n 3, 1) := by decide +kernel
theorem dX11_lay_28 : decode cX11_lay 28 = .ok (.invokestatic 76, 3) := by decide +kernel
theorem dX11_lay_31 : decode cX11_lay 31 = .ok (.iastore, 1) := by decide +kernel
theorem dX11_lay_32 : decode cX11_lay 32 = .ok (.return_, 1) := by decide +kernel
theorem dX11_pull_0 : decode cX11_pull 0 = .ok (.iload_n 1, 1) := by decide +kernel
theorem dX11_pull_1 : decode cX11_pull 1 = .ok (.iconst 2, 1) := by decide +kernel
theorem dX11_pull_2 : decode cX11_pull 2 = .ok (.if_icmp .ne 26, 3) := by decide +kernel
theorem dX11_pull_5 : decode cX11_pull 5 = .ok (.aload_n 0, 1) := by decide +kernel
theorem dX11_pull_6 : decode cX11_pull 6 = .ok (.getfield 19, 3) := by decide +kernel
theorem dX11_pull_9 : decode cX11_pull 9 = .ok (.iload_n 2, 1) := by decide +kernel
theorem dX11_pull_10 : decode cX11_pull 10 = .ok (.aload_n 0, 1) := by decide +kernel
theorem dX11_pull_11 : decode cX11_pull 11 = .ok (.getfield 19, 3) := by decide +kernel
theorem dX11_pull_14 : decode cX11_pull 14 = .ok (.iload_n 2, 1) := by decide +kernel
theorem dX11_pull_15 : decode cX11_pull 15 = .ok (.faload, 1) := by decide +kernel
theorem dX11_pull_16 : decode cX11_pull 16 = .ok (.iload_n 3, 1) := by decide +kernel
theorem dX11_pull_17 : decode cX11_pull 17 = .ok (.invokestatic 68, 3) := by decide +kernel
theorem dX11_pull_20 : decode cX11_pull 20 = .ok (.fadd, 1) := by decide +kernel
theorem dX11_pull_21 : decode cX11_pull 21 = .ok (.invokestatic 72, 3) := by decide +kernel
theorem dX11_pull_24 : decode cX11_pull 24 = .ok (.fastore, 1) := by decide +kernel
theorem dX11_pull_25 : decode cX11_pull 25 = .ok (.goto 45, 3) := by decide +kernel
theorem dX11_pull_28 : decode cX11_pull 28 = .ok (.iload_n 1, 1) := by decide +kernel
theorem dX11_pull_29 : decode cX11_pull 29 = .ok (.iconst 3, 1) := by decide +kernel
theorem dX11_pull_30 : decode cX11_pull 30 = .ok (.if_icmp .ne 22, 3) := by decide +kernel
theorem dX11_pull_33 : decode cX11_pull 33 = .ok (.aload_n 0, 1) := by decide +kernel
theorem dX11_pull_34 : decode cX11_pull 34 = .ok (.getfield 16, 3) := by decide +kernel
theorem dX11_pull_37 : decode cX11_pull 37 = .ok (.iload_n 2, 1) := by decide +kernel
theorem dX11_pull_38 : decode cX11_pull 38 = .ok (.aload_n 0, 1) := by decide +kernel
theorem dX11_pull_39 : decode cX11_pull 39 = .ok (.getfield 16, 3) := by decide +kernel
theorem dX11_pull_42 : decode cX11_pull 42 = .ok (.iload_n 2, 1) := by decide +kernel
theorem dX11_pull_43 : decode cX11_pull 43 = .ok (.iaload, 1) := by decide +kernel
theorem dX11_pull_44 : decode cX11_pull 44 = .ok (.iload_n 3, 1) := by decide +kernel
theorem dX11_pull_45 : decode cX11_pull 45 = .ok (.iconst 1, 1) := by decide +kernel
theorem dX11_pull_46 : decode cX11_pull 46 = .ok (.iand, 1) := by decide +kernel
theorem dX11_pull_47 : decode cX11_pull 47 = .ok (.ixor, 1) := by decide +kernel
theorem dX11_pull_48 : decode cX11_pull 48 = .ok (.iastore, 1) := by decide +kernel
theorem dX11_pull_49 : decode cX11_pull 49 = .ok (.goto 21, 3) := by decide +kernel
theorem dX11_pull_52 : decode cX11_pull 52 = .ok (.aload_n 0, 1) := by decide +kernel
theorem dX11_pull_53 : decode cX11_pull 53 = .ok (.getfield 16, 3) := by decide +kernel
theorem dX11_pull_56 : decode cX11_pull 56 = .ok (.iload_n 2, 1) := by decide +kernel
theorem dX11_pull_57 : decode cX11_pull 57 = .ok (.iload_n 1, 1) := by decide +kernel
theorem dX11_pull_58 : decode cX11_pull 58 = .ok (.aload_n 0, 1) := by decide +kernel
theorem dX11_pull_59 : decode cX11_pull 59 = .ok (.getfield 16, 3) := by decide +kernel
theorem dX11_pull_62 : decode cX11_pull 62 = .ok (.iload_n 2, 1) := by decide +kernel
theorem dX11_pull_63 : decode cX11_pull 63 = .ok (.iaload, 1) := by decide +kernel
theorem dX11_pull_64 : decode cX11_pull 64 = .ok (.iload_n 3, 1) := by decide +kernel
theorem dX11_pull_65 : decode cX11_pull 65 = .ok (.iadd, 1) := by decide +kernel
theorem dX11_pull_66 : decode cX11_pull 66 = .ok (.invokestatic 76, 3) := by decide +kernel
theorem dX11_pull_69 : decode cX11_pull 69 = .ok (.iastore, 1) := by decide +kernel
theorem dX11_pull_70 : decode cX11_pull 70 = .ok (.return_, 1) := by decide +kernel
theorem dX11_part_0 : decode cX11_part 0 = .ok (.iload_n 1, 1) := by decide +kernel
theorem dX11_part_1 : decode cX11_part 1 = .ok (.iconst 2, 1) := by decide +kernel
theorem dX11_part_2 : decode cX11_part 2 = .ok (.if_icmp .ne 24, 3) := by decide +kernel
theorem dX11_part_5 : decode cX11_part 5 = .ok (.aload_n 0, 1) := by decide +kernel
theorem dX11_part_6 : decode cX11_part 6 = .ok (.getfield 19, 3) := by decide +kernel
theorem dX11_part_9 : decode cX11_part 9 = .ok (.iload_n 2, 1) := by decide +kernel
theorem dX11_part_10 : decode cX11_part 10 = .ok (.aload_n 0, 1) := by decide +kernel
theorem dX11_part_11 : decode cX11_part 11 = .ok (.getfield 19, 3) := by decide +kernel
theorem dX11_part_14 : decode cX11_part 14 = .ok (.iload_n 2, 1) := by decide +kernel
theorem dX11_part_15 : decode cX11_part 15 = .ok (.faload, 1) := by decide +kernel
theorem dX11_part_16 : decode cX11_part 16 = .ok (.iload_n 3, 1) := by decide +kernel
theorem dX11_part_17 : decode cX11_part 17 = .ok (.i2f, 1) := by decide +kernel
theorem dX11_part_18 : decode cX11_part 18 = .ok (.fdiv, 1) := by decide +kernel
theorem dX11_part_19 : decode cX11_part 19 = .ok (.invokestatic 72, 3) := by decide +kernel
theorem dX11_part_22 : decode cX11_part 22 = .ok (.fastore, 1) := by decide +kernel
theorem dX11_part_23 : decode cX11_part 23 = .ok (.goto 60, 3) := by decide +kernel
theorem dX11_part_26 : decode cX11_part 26 = .ok (.iload_n 1, 1) := by decide +kernel
theorem dX11_part_27 : decode cX11_part 27 = .ok (.iconst 3, 1) := by decide +kernel
theorem dX11_part_28 : decode cX11_part 28 = .ok (.if_icmp .ne 22, 3) := by decide +kernel
theorem dX11_part_31 : decode cX11_part 31 = .ok (.aload_n 0, 1) := by decide +kernel
theorem dX11_part_32 : decode cX11_part 32 = .ok (.getfield 16, 3) := by decide +kernel
theorem dX11_part_35 : decode cX11_part 35 = .ok (.iload_n 2, 1) := by decide +kernel
theorem dX11_part_36 : decode cX11_part 36 = .ok (.aload_n 0, 1) := by decide +kernel
theorem dX11_part_37 : decode cX11_part 37 = .ok (.getfield 16, 3) := by decide +kernel
theorem dX11_part_40 : decode cX11_part 40 = .ok (.iload_n 2, 1) := by decide +kernel
theorem dX11_part_41 : decode cX11_part 41 = .ok (.iaload, 1) := by decide +kernel
theorem dX11_part_42 : decode cX11_part 42 = .ok (.iload_n 3, 1) := by decide +kernel
theorem dX11_part_43 : decode cX11_part 43 = .ok (.iand, 1) := by decide +kernel
theorem dX11_part_44 : decode cX11_part 44 = .ok (.iconst 1, 1) := by decide +kernel
theorem dX11_part_45 : decode cX11_part 45 = .ok (.iand, 1) := by decide +kernel
theorem dX11_part_46 : decode cX11_part 46 = .ok (.iastore, 1) := by decide +kernel
theorem dX11_part_47 : decode cX11_part 47 = .ok (.goto 36, 3) := by decide +kernel
theorem dX11_part_50 : decode cX11_part 50 = .ok (.aload_n 0, 1) := by decide +kernel
theorem dX11_part_51 : decode cX11_part 51 = .ok (.getfield 16, 3) := by decide +kernel
theorem dX11_part_54 : decode cX11_part 54 = .ok (.iload_n 2, 1) := by decide +kernel
theorem dX11_part_55 : decode cX11_part 55 = .ok (.iload_n 1, 1) := by decide +kernel
theorem dX11_part_56 : decode cX11_part 56 = .ok (.iload_n 3, 1) := by decide +kernel
theorem dX11_part_57 : decode cX11_part 57 = .ok (.iconst (-1), 1) := by decide +kernel
theorem dX11_part_58 : decode cX11_part 58 = .ok (.if_icmp .ne 13, 3) := by decide +kernel
theorem dX11_part_61 : decode cX11_part 61 = .ok (.aload_n 0, 1) := by decide +kernel
theorem dX11_part_62 : decode cX11_part 62 = .ok (.getfield 16, 3) := by decide +kernel
theorem dX11_part_65 : decode cX11_part 65 = .ok (.iload_n 2, 1) := by decide +kernel
theorem dX11_part_66 : decode cX11_part 66 = .ok (.iaload, 1) := by decide +kernel
theorem dX11_part_67 : decode cX11_part 67 = .ok (.ineg, 1) := by decide +kernel
theorem dX11_part_68 : decode cX11_part 68 = .ok (.goto 11, 3) := by decide +kernel
theorem dX11_part_71 : decode cX11_part 71 = .ok (.aload_n 0, 1) := by decide +kernel
theorem dX11_part_72 : decode cX11_part 72 = .ok (.getfield 16, 3) := by decide +kernel
theorem dX11_part_75 : decode cX11_part 75 = .ok (.iload_n 2, 1) := by decide +kernel
theorem dX11_part_76 : decode cX11_part 76 = .ok (.iaload, 1) := by decide +kernel
theorem dX11_part_77 : decode cX11_part 77 = .ok (.iload_n 3, 1) := by decide +kernel
theorem dX11_part_78 : decode cX11_part 78 = .ok (.idiv, 1) := by decide +kernel
theorem dX11_part_79 : decode cX11_part 79 = .ok (.invokestatic 76, 3) := by decide +kernel
theorem dX11_part_82 : decode cX11_part 82 = .ok (.iastore, 1) := by decide +kernel
theorem dX11_part_83 : decode cX11_part 83 = .ok (.return_, 1) := by decide +kernel
theorem dX11_done_0 : decode cX11_done 0 = .ok (.iconst 5, 1) := by decide +kernel
theorem dX11_done_1 : decode cX11_done 1 = .ok (.iload_n 2, 1) := by decide +kernel
theorem dX11_done_2 : decode cX11_done 2 = .ok (.imul, 1) := by decide +kernel
theorem dX11_done_3 : decode cX11_done 3 = .ok (.iload_n 3, 1) := by decide +kernel
theorem dX11_done_4 : decode cX11_done 4 = .ok (.iadd, 1) := by decide +kernel
theorem dX11_done_5 : decode cX11_done 5 = .ok (.istore 6, 2) := by decide +kernel
theorem dX11_done_7 : decode cX11_done 7 = .ok (.iconst 0, 1) := by decide +kernel
theorem dX11_done_8 : decode cX11_done 8 = .ok (.istore 7, 2) := by decide +kernel
theorem dX11_done_10 : decode cX11_done 10 = .ok (.iload_n 1, 1) := by decide +kernel
theorem dX11_done_11 : decode cX11_done 11 = .ok (.iconst 1, 1) := by decide +kernel
theorem dX11_done_12 : decode cX11_done 12 = .ok (.if_icmp .ne 22, 3) := by decide +kernel
theorem dX11_done_15 : decode cX11_done 15 = .ok (.aload_n 0, 1) := by decide +kernel
theorem dX11_done_16 : decode cX11_done 16 = .ok (.getfield 61, 3) := by decide +kernel
theorem dX11_done_19 : decode cX11_done 19 = .ok (.ifCond .ne 9, 3) := by decide +kernel
theorem dX11_done_22 : decode cX11_done 22 = .ok (.aload_n 0, 1) := by decide +kernel
theorem dX11_done_23 : decode cX11_done 23 = .ok (.iconst 4, 1) := by decide +kernel
theorem dX11_done_24 : decode cX11_done 24 = .ok (.invokevirtual 51, 3) := by decide +kernel
theorem dX11_done_27 : decode cX11_done 27 = .ok (.ireturn, 1) := by decide +kernel
theorem dX11_done_28 : decode cX11_done 28 = .ok (.aload_n 0, 1) := by decide +kernel
theorem dX11_done_29 : decode cX11_done 29 = .ok (.invokevirtual 80, 3) := by decide +kernel
theorem dX11_done_32 : decode cX11_done 32 = .ok (.istore 7, 2) := by decide +kernel
theorem dX11_done_34 : decode cX11_done 34 = .ok (.aload_n 0, 1) := by decide +kernel
theorem dX11_done_35 : decode cX11_done 35 = .ok (.iload 6, 2) := by decide +kernel
theorem dX11_done_37 : decode cX11_done 37 = .ok (.iload 4, 2) := by decide +kernel
theorem dX11_done_39 : decode cX11_done 39 = .ok (.invokevirtual 84, 3) := by decide +kernel
theorem dX11_done_42 : decode cX11_done 42 = .ok (.istore 8, 2) := by decide +kernel
theorem dX11_done_44 : decode cX11_done 44 = .ok (.iload 8, 2) := by decide +kernel
theorem dX11_done_46 : decode cX11_done 46 = .ok (.ifCond .eq 10, 3) := by decide +kernel
theorem dX11_done_49 : decode cX11_done 49 = .ok (.aload_n 0, 1) := by decide +kernel
theorem dX11_done_50 : decode cX11_done 50 = .ok (.iload 8, 2) := by decide +kernel
theorem dX11_done_52 : decode cX11_done 52 = .ok (.invokevirtual 51, 3) := by decide +kernel
theorem dX11_done_55 : decode cX11_done 55 = .ok (.ireturn, 1) := by decide +kernel
theorem dX11_done_56 : decode cX11_done 56 = .ok (.iload_n 1, 1) := by decide +kernel
theorem dX11_done_57 : decode cX11_done 57 = .ok (.iconst 2, 1) := by decide +kernel
theorem dX11_done_58 : decode cX11_done 58 = .ok (.if_icmp .ne 16, 3) := by decide +kernel
theorem dX11_done_61 : decode cX11_done 61 = .ok (.aload_n 0, 1) := by decide +kernel
theorem dX11_done_62 : decode cX11_done 62 = .ok (.getfield 61, 3) := by decide +kernel
theorem dX11_done_65 : decode cX11_done 65 = .ok (.ifCond .ne 9, 3) := by decide +kernel
theorem dX11_done_68 : decode cX11_done 68 = .ok (.aload_n 0, 1) := by decide +kernel
theorem dX11_done_69 : decode cX11_done 69 = .ok (.iconst 4, 1) := by decide +kernel
theorem dX11_done_70 : decode cX11_done 70 = .ok (.invokevirtual 51, 3) := by decide +kernel
theorem dX11_done_73 : decode cX11_done 73 = .ok (.ireturn, 1) := by decide +kernel
theorem dX11_done_74 : decode cX11_done 74 = .ok (.iload_n 1, 1) := by decide +kernel
theorem dX11_done_75 : decode cX11_done 75 = .ok (.iconst 4, 1) := by decide +kernel
theorem dX11_done_76 : decode cX11_done 76 = .ok (.if_icmp .ne 19, 3) := by decide +kernel
theorem dX11_done_79 : decode cX11_done 79 = .ok (.iload 5, 2) := by decide +kernel
theorem dX11_done_81 : decode cX11_done 81 = .ok (.ifCond .ne 14, 3) := by decide +kernel
theorem dX11_done_84 : decode cX11_done 84 = .ok (.iload_n 3, 1) := by decide +kernel
theorem dX11_done_85 : decode cX11_done 85 = .ok (.iconst 3, 1) := by decide +kernel
theorem dX11_done_86 : decode cX11_done 86 = .ok (.if_icmp .eq 9, 3) := by decide +kernel
theorem dX11_done_89 : decode cX11_done 89 = .ok (.aload_n 0, 1) := by decide +kernel
theorem dX11_done_90 : decode cX11_done 90 = .ok (.iconst 5, 1) := by decide +kernel
theorem dX11_done_91 : decode cX11_done 91 = .ok (.invokevirtual 51, 3) := by decide +kernel
theorem dX11_done_94 : decode cX11_done 94 = .ok (.ireturn, 1) := by decide +kernel
theorem dX11_done_95 : decode cX11_done 95 = .ok (.bipush 24, 2) := by decide +kernel
theorem dX11_done_97 : decode cX11_done 97 = .ok (.aload_n 0, 1) := by decide +kernel
theorem dX11_done_98 : decode cX11_done 98 = .ok (.getfield 7, 3) := by decide +kernel
theorem dX11_done_101 : decode cX11_done 101 = .ok (.iload 6, 2) := by decide +kernel
theorem dX11_done_103 : decode cX11_done 103 = .ok (.iaload, 1) := by decide +kernel
theorem dX11_done_104 : decode cX11_done 104 = .ok (.imul, 1) := by decide +kernel
theorem dX11_done_105 : decode cX11_done 105 = .ok (.iload 4, 2) := by decide +kernel
theorem dX11_done_107 : decode cX11_done 107 = .ok (.iadd, 1) := by decide +kernel
theorem dX11_done_108 : decode cX11_done 108 = .ok (.istore 9, 2) := by decide +kernel
theorem dX11_done_110 : decode cX11_done 110 = .ok (.iload_n 1, 1) := by decide +kernel
theorem dX11_done_111 : decode cX11_done 111 = .ok (.iconst 1, 1) := by decide +kernel
theorem dX11_done_112 : decode cX11_done 112 = .ok (.if_icmp .ne 12, 3) := by decide +kernel
theorem dX11_done_115 : decode cX11_done 115 = .ok (.aload_n 0, 1) := by decide +kernel
theorem dX11_done_116 : decode cX11_done 116 = .ok (.iload_n 3, 1) := by decide +kernel
theorem dX11_done_117 : decode cX11_done 117 = .ok (.iload 9, 2) := by decide +kernel
theorem dX11_done_119 : decode cX11_done 119 = .ok (.iload 7, 2) := by decide +kernel
theorem dX11_done_121 : decode cX11_done 121 = .ok (.invokevirtual 87, 3) := by decide +kernel
theorem dX11_done_124 : decode cX11_done 124 = .ok (.iload_n 1, 1) := by decide +kernel
theorem dX11_done_125 : decode cX11_done 125 = .ok (.iconst 2, 1) := by decide +kernel
theorem dX11_done_126 : decode cX11_done 126 = .ok (.if_icmp .ne 14, 3) := by decide +kernel
theorem dX11_done_129 : decode cX11_done 129 = .ok (.aload_n 0, 1) := by decide +kernel
theorem dX11_done_130 : decode cX11_done 130 = .ok (.iload_n 3, 1) := by decide +kernel
theorem dX11_done_131 : decode cX11_done 131 = .ok (.iload 9, 2) := by decide +kernel
theorem dX11_done_133 : decode cX11_done 133 = .ok (.aload_n 0, 1) := by decide +kernel
theorem dX11_done_134 : decode cX11_done 134 = .ok (.invokevirtual 80, 3) := by decide +kernel
theorem dX11_done_137 : decode cX11_done 137 = .ok (.invokevirtual 91, 3) := by decide +kernel
theorem dX11_done_140 : decode cX11_done 140 = .ok (.iload_n 1, 1) := by decide +kernel
theorem dX11_done_141 : decode cX11_done 141 = .ok (.iconst 3, 1) := by decide +kernel
theorem dX11_done_142 : decode cX11_done 142 = .ok (.if_icmp .ne 21, 3) := by decide +kernel
theorem dX11_done_145 : decode cX11_done 145 = .ok (.aload_n 0, 1) := by decide +kernel
theorem dX11_done_146 : decode cX11_done 146 = .ok (.iload_n 3, 1) := by decide +kernel
theorem dX11_done_147 : decode cX11_done 147 = .ok (.iload 9, 2) := by decide +kernel
theorem dX11_done_149 : decode cX11_done 149 = .ok (.iload_n 3, 1) := by decide +kernel
theorem dX11_done_150 : decode cX11_done 150 = .ok (.iconst 2, 1) := by decide +kernel
theorem dX11_done_151 : decode cX11_done 151 = .ok (.if_icmp .ne 8, 3) := by decide +kernel
theorem dX11_done_154 : decode cX11_done 154 = .ok (.bipush 8, 2) := by decide +kernel
theorem dX11_done_156 : decode cX11_done 156 = .ok (.goto 4, 3) := by decide +kernel
theorem dX11_done_159 : decode cX11_done 159 = .ok (.iconst 1, 1) := by decide +kernel
theorem dX11_done_160 : decode cX11_done 160 = .ok (.invokevirtual 91, 3) := by decide +kernel
theorem dX11_done_163 : decode cX11_done 163 = .ok (.iload_n 1, 1) := by decide +kernel
theorem dX11_done_164 : decode cX11_done 164 = .ok (.iconst 4, 1) := by decide +kernel
theorem dX11_done_165 : decode cX11_done 165 = .ok (.if_icmp .ne 12, 3) := by decide +kernel
theorem dX11_done_168 : decode cX11_done 168 = .ok (.aload_n 0, 1) := by decide +kernel
theorem dX11_done_169 : decode cX11_done 169 = .ok (.iload_n 3, 1) := by decide +kernel
theorem dX11_done_170 : decode cX11_done 170 = .ok (.iload 9, 2) := by decide +kernel
theorem dX11_done_172 : decode cX11_done 172 = .ok (.iload 5, 2) := by decide +kernel
theorem dX11_done_174 : decode cX11_done 174 = .ok (.invokevirtual 94, 3) := by decide +kernel
theorem dX11_done_177 : decode cX11_done 177 = .ok (.aload_n 0, 1) := by decide +kernel
theorem dX11_done_178 : decode cX11_done 178 = .ok (.aload_n 0, 1) := by decide +kernel
theorem dX11_done_179 : decode cX11_done 179 = .ok (.iload_n 3, 1) := by decide +kernel
theorem dX11_done_180 : decode cX11_done 180 = .ok (.iload 9, 2) := by decide +kernel
theorem dX11_done_182 : decode cX11_done 182 = .ok (.invokevirtual 97, 3) := by decide +kernel
theorem dX11_done_185 : decode cX11_done 185 = .ok (.invokevirtual 58, 3) := by decide +kernel
theorem dX11_done_188 : decode cX11_done 188 = .ok (.ireturn, 1) := by decide +kernel
theorem dX11_act_0 : decode cX11_act 0 = .ok (.iload_n 1, 1) := by decide +kernel
theorem dX11_act_1 : decode cX11_act 1 = .ok (.ifCond .lt 16, 3) := by decide +kernel
theorem dX11_act_4 : decode cX11_act 4 = .ok (.iload_n 1, 1) := by decide +kernel
theorem dX11_act_5 : decode cX11_act 5 = .ok (.iconst 4, 1) := by decide +kernel
theorem dX11_act_6 : decode cX11_act 6 = .ok (.if_icmp .gt 11, 3) := by decide +kernel
theorem dX11_act_9 : decode cX11_act 9 = .ok (.iload_n 2, 1) := by decide +kernel
theorem dX11_act_10 : decode cX11_act 10 = .ok (.iload_n 3, 1) := by decide +kernel
theorem dX11_act_11 : decode cX11_act 11 = .ok (.invokestatic 46, 3) := by decide +kernel
theorem dX11_act_14 : decode cX11_act 14 = .ok (.ifCond .ne 6, 3) := by decide +kernel
theorem dX11_act_17 : decode cX11_act 17 = .ok (.ldc 50, 2) := by decide +kernel
theorem dX11_act_19 : decode cX11_act 19 = .ok (.ireturn, 1) := by decide +kernel
theorem dX11_act_20 : decode cX11_act 20 = .ok (.aload_n 0, 1) := by decide +kernel
theorem dX11_act_21 : decode cX11_act 21 = .ok (.iload_n 1, 1) := by decide +kernel
theorem dX11_act_22 : decode cX11_act 22 = .ok (.iload_n 2, 1) := by decide +kernel
theorem dX11_act_23 : decode cX11_act 23 = .ok (.iload_n 3, 1) := by decide +kernel
theorem dX11_act_24 : decode cX11_act 24 = .ok (.iload 4, 2) := by decide +kernel
theorem dX11_act_26 : decode cX11_act 26 = .ok (.iload 5, 2) := by decide +kernel
theorem dX11_act_28 : decode cX11_act 28 = .ok (.invokevirtual 100, 3) := by decide +kernel
theorem dX11_act_31 : decode cX11_act 31 = .ok (.ireturn, 1) := by decide +kernel
theorem dX11_swap_0 : decode cX11_swap 0 = .ok (.iload_n 1, 1) := by decide +kernel
theorem dX11_swap_1 : decode cX11_swap 1 = .ok (.iload_n 2, 1) := by decide +kernel
theorem dX11_swap_2 : decode cX11_swap 2 = .ok (.invokestatic 46, 3) := by decide +kernel
theorem dX11_swap_5 : decode cX11_swap 5 = .ok (.ifCond .ne 6, 3) := by decide +kernel
theorem dX11_swap_8 : decode cX11_swap 8 = .ok (.ldc 50, 2) := by decide +kernel
theorem dX11_swap_10 : decode cX11_swap 10 = .ok (.ireturn, 1) := by decide +kernel
theorem dX11_swap_11 : decode cX11_swap 11 = .ok (.iconst 5, 1) := by decide +kernel
theorem dX11_swap_12 : decode cX11_swap 12 = .ok (.iload_n 1, 1) := by decide +kernel
theorem dX11_swap_13 : decode cX11_swap 13 = .ok (.imul, 1) := by decide +kernel
theorem dX11_swap_14 : decode cX11_swap 14 = .ok (.iload_n 2, 1) := by decide +kernel
theorem dX11_swap_15 : decode cX11_swap 15 = .ok (.iadd, 1) := by decide +kernel
theorem dX11_swap_16 : decode cX11_swap 16 = .ok (.istore 5, 2) := by decide +kernel
theorem dX11_swap_18 : decode cX11_swap 18 = .ok (.aload_n 0, 1) := by decide +kernel
theorem dX11_swap_19 : decode cX11_swap 19 = .ok (.iload 5, 2) := by decide +kernel
theorem dX11_swap_21 : decode cX11_swap 21 = .ok (.iload_n 3, 1) := by decide +kernel
theorem dX11_swap_22 : decode cX11_swap 22 = .ok (.invokevirtual 84, 3) := by decide +kernel
theorem dX11_swap_25 : decode cX11_swap 25 = .ok (.istore 6, 2) := by decide +kernel
theorem dX11_swap_27 : decode cX11_swap 27 = .ok (.iload 6, 2) := by decide +kernel
theorem dX11_swap_29 : decode cX11_swap 29 = .ok (.ifCond .ne 13, 3) := by decide +kernel
theorem dX11_swap_32 : decode cX11_swap 32 = .ok (.aload_n 0, 1) := by decide +kernel
theorem dX11_swap_33 : decode cX11_swap 33 = .ok (.iload 5, 2) := by decide +kernel
theorem dX11_swap_35 : decode cX11_swap 35 = .ok (.iload 4, 2) := by decide +kernel
theorem dX11_swap_37 : decode cX11_swap 37 = .ok (.invokevirtual 84, 3) := by decide +kernel
theorem dX11_swap_40 : decode cX11_swap 40 = .ok (.istore 6, 2) := by decide +kernel
theorem dX11_swap_42 : decode cX11_swap 42 = .ok (.iload 6, 2) := by decide +kernel
theorem dX11_swap_44 : decode cX11_swap 44 = .ok (.ifCond .eq 10, 3) := by decide +kernel
theorem dX11_swap_47 : decode cX11_swap 47 = .ok (.aload_n 0, 1) := by decide +kernel
theorem dX11_swap_48 : decode cX11_swap 48 = .ok (.iload 6, 2) := by decide +kernel
theorem dX11_swap_50 : decode cX11_swap 50 = .ok (.invokevirtual 51, 3) := by decide +kernel
theorem dX11_swap_53 : decode cX11_swap 53 = .ok (.ireturn, 1) := by decide +kernel
theorem dX11_swap_54 : decode cX11_swap 54 = .ok (.bipush 24, 2) := by decide +kernel
theorem dX11_swap_56 : decode cX11_swap 56 = .ok (.aload_n 0, 1) := by decide +kernel
theorem dX11_swap_57 : decode cX11_swap 57 = .ok (.getfield 7, 3) := by decide +kernel
theorem dX11_swap_60 : decode cX11_swap 60 = .ok (.iload 5, 2) := by decide +kernel
theorem dX11_swap_62 : decode cX11_swap 62 = .ok (.iaload, 1) := by decide +kernel
theorem dX11_swap_63 : decode cX11_swap 63 = .ok (.imul, 1) := by decide +kernel
theorem dX11_swap_64 : decode cX11_swap 64 = .ok (.iload_n 3, 1) := by decide +kernel
theorem dX11_swap_65 : decode cX11_swap 65 = .ok (.iadd, 1) := by decide +kernel
theorem dX11_swap_66 : decode cX11_swap 66 = .ok (.istore 7, 2) := by decide +kernel
theorem dX11_swap_68 : decode cX11_swap 68 = .ok (.bipush 24, 2) := by decide +kernel
theorem dX11_swap_70 : decode cX11_swap 70 = .ok (.aload_n 0, 1) := by decide +kernel
theorem dX11_swap_71 : decode cX11_swap 71 = .ok (.getfield 7, 3) := by decide +kernel
theorem dX11_swap_74 : decode cX11_swap 74 = .ok (.iload 5, 2) := by decide +kernel
theorem dX11_swap_76 : decode cX11_swap 76 = .ok (.iaload, 1) := by decide +kernel
theorem dX11_swap_77 : decode cX11_swap 77 = .ok (.imul, 1) := by decide +kernel
theorem dX11_swap_78 : decode cX11_swap 78 = .ok (.iload 4, 2) := by decide +kernel
theorem dX11_swap_80 : decode cX11_swap 80 = .ok (.iadd, 1) := by decide +kernel
theorem dX11_swap_81 : decode cX11_swap 81 = .ok (.istore 8, 2) := by decide +kernel
theorem dX11_swap_83 : decode cX11_swap 83 = .ok (.aload_n 0, 1) := by decide +kernel
theorem dX11_swap_84 : decode cX11_swap 84 = .ok (.iload_n 2, 1) := by decide +kernel
theorem dX11_swap_85 : decode cX11_swap 85 = .ok (.iload 7, 2) := by decide +kernel
theorem dX11_swap_87 : decode cX11_swap 87 = .ok (.invokevirtual 97, 3) := by decide +kernel
theorem dX11_swap_90 : decode cX11_swap 90 = .ok (.istore 9, 2) := by decide +kernel
theorem dX11_swap_92 : decode cX11_swap 92 = .ok (.aload_n 0, 1) := by decide +kernel
theorem dX11_swap_93 : decode cX11_swap 93 = .ok (.getfield 16, 3) := by decide +kernel
theorem dX11_swap_96 : decode cX11_swap 96 = .ok (.iload 7, 2) := by decide +kernel
theorem dX11_swap_98 : decode cX11_swap 98 = .ok (.iaload, 1) := by decide +kernel
theorem dX11_swap_99 : decode cX11_swap 99 = .ok (.istore 10, 2) := by decide +kernel
theorem dX11_swap_101 : decode cX11_swap 101 = .ok (.aload_n 0, 1) := by decide +kernel
theorem dX11_swap_102 : decode cX11_swap 102 = .ok (.getfield 16, 3) := by decide +kernel
theorem dX11_swap_105 : decode cX11_swap 105 = .ok (.iload 7, 2) := by decide +kernel
theorem dX11_swap_107 : decode cX11_swap 107 = .ok (.aload_n 0, 1) := by decide +kernel
theorem dX11_swap_108 : decode cX11_swap 108 = .ok (.getfield 16, 3) := by decide +kernel
theorem dX11_swap_111 : decode cX11_swap 111 = .ok (.iload 8, 2) := by decide +kernel
theorem dX11_swap_113 : decode cX11_swap 113 = .ok (.iaload, 1) := by decide +kernel
theorem dX11_swap_114 : decode cX11_swap 114 = .ok (.iastore, 1) := by decide +kernel
theorem dX11_swap_115 : decode cX11_swap 115 = .ok (.aload_n 0, 1) := by decide +kernel
theorem dX11_swap_116 : decode cX11_swap 116 = .ok (.getfield 16, 3) := by decide +kernel
theorem dX11_swap_119 : decode cX11_swap 119 = .ok (.iload 8, 2) := by decide +kernel
theorem dX11_swap_121 : decode cX11_swap 121 = .ok (.iload 10, 2) := by decide +kernel
theorem dX11_swap_123 : decode cX11_swap 123 = .ok (.iastore, 1) := by decide +kernel
theorem dX11_swap_124 : decode cX11_swap 124 = .ok (.aload_n 0, 1) := by decide +kernel
theorem dX11_swap_125 : decode cX11_swap 125 = .ok (.getfield 19, 3) := by decide +kernel
theorem dX11_swap_128 : decode cX11_swap 128 = .ok (.iload 7, 2) := by decide +kernel
theorem dX11_swap_130 : decode cX11_swap 130 = .ok (.faload, 1) := by decide +kernel
theorem dX11_swap_131 : decode cX11_swap 131 = .ok (.fstore 11, 2) := by decide +kernel
theorem dX11_swap_133 : decode cX11_swap 133 = .ok (.aload_n 0, 1) := by decide +kernel
theorem dX11_swap_134 : decode cX11_swap 134 = .ok (.getfield 19, 3) := by decide +kernel
theorem dX11_swap_137 : decode cX11_swap 137 = .ok (.iload 7, 2) := by decide +kernel
theorem dX11_swap_139 : decode cX11_swap 139 = .ok (.aload_n 0, 1) := by decide +kernel
theorem dX11_swap_140 : decode cX11_swap 140 = .ok (.getfield 19, 3) := by decide +kernel
theorem dX11_swap_143 : decode cX11_swap 143 = .ok (.iload 8, 2) := by decide +kernel
theorem dX11_swap_145 : decode cX11_swap 145 = .ok (.faload, 1) := by decide +kernel
theorem dX11_swap_146 : decode cX11_swap 146 = .ok (.fastore, 1) := by decide +kernel
theorem dX11_swap_147 : decode cX11_swap 147 = .ok (.aload_n 0, 1) := by decide +kernel
theorem dX11_swap_148 : decode cX11_swap 148 = .ok (.getfield 19, 3) := by decide +kernel
theorem dX11_swap_151 : decode cX11_swap 151 = .ok (.iload 8, 2) := by decide +kernel
theorem dX11_swap_153 : decode cX11_swap 153 = .ok (.fload 11, 2) := by decide +kernel
theorem dX11_swap_155 : decode cX11_swap 155 = .ok (.fastore, 1) := by decide +kernel
theorem dX11_swap_156 : decode cX11_swap 156 = .ok (.aload_n 0, 1) := by decide +kernel
theorem dX11_swap_157 : decode cX11_swap 157 = .ok (.iload 9, 2) := by decide +kernel
theorem dX11_swap_159 : decode cX11_swap 159 = .ok (.invokevirtual 58, 3) := by decide +kernel
theorem dX11_swap_162 : decode cX11_swap 162 = .ok (.ireturn, 1) := by decide +kernel
theorem dX11_cloth_0 : decode cX11_cloth 0 = .ok (.iload_n 1, 1) := by decide +kernel
theorem dX11_cloth_1 : decode cX11_cloth 1 = .ok (.bipush 24, 2) := by decide +kernel
theorem dX11_cloth_3 : decode cX11_cloth 3 = .ok (.if_icmp .gt 9, 3) := by decide +kernel
theorem dX11_cloth_6 : decode cX11_cloth 6 = .ok (.iload_n 2, 1) := by decide +kernel
theorem dX11_cloth_7 : decode cX11_cloth 7 = .ok (.bipush 24, 2) := by decide +kernel
theorem dX11_cloth_9 : decode cX11_cloth 9 = .ok (.if_icmp .le 6, 3) := by decide +kernel
theorem dX11_cloth_12 : decode cX11_cloth 12 = .ok (.ldc 50, 2) := by decide +kernel
theorem dX11_cloth_14 : decode cX11_cloth 14 = .ok (.ireturn, 1) := by decide +kernel
theorem dX11_cloth_15 : decode cX11_cloth 15 = .ok (.iload_n 1, 1) := by decide +kernel
theorem dX11_cloth_16 : decode cX11_cloth 16 = .ok (.ifCond .lt 7, 3) := by decide +kernel
theorem dX11_cloth_19 : decode cX11_cloth 19 = .ok (.iload_n 2, 1) := by decide +kernel
theorem dX11_cloth_20 : decode cX11_cloth 20 = .ok (.ifCond .ge 9, 3) := by decide +kernel
theorem dX11_cloth_23 : decode cX11_cloth 23 = .ok (.aload_n 0, 1) := by decide +kernel
theorem dX11_cloth_24 : decode cX11_cloth 24 = .ok (.iconst 3, 1) := by decide +kernel
theorem dX11_cloth_25 : decode cX11_cloth 25 = .ok (.invokevirtual 51, 3) := by decide +kernel
theorem dX11_cloth_28 : decode cX11_cloth 28 = .ok (.ireturn, 1) := by decide +kernel
theorem dX11_cloth_29 : decode cX11_cloth 29 = .ok (.aload_n 0, 1) := by decide +kernel
theorem dX11_cloth_30 : decode cX11_cloth 30 = .ok (.iconst 1, 1) := by decide +kernel
theorem dX11_cloth_31 : decode cX11_cloth 31 = .ok (.putfield 104, 3) := by decide +kernel
theorem dX11_cloth_34 : decode cX11_cloth 34 = .ok (.aload_n 0, 1) := by decide +kernel
theorem dX11_cloth_35 : decode cX11_cloth 35 = .ok (.iload_n 1, 1) := by decide +kernel
theorem dX11_cloth_36 : decode cX11_cloth 36 = .ok (.putfield 108, 3) := by decide +kernel
theorem dX11_cloth_39 : decode cX11_cloth 39 = .ok (.aload_n 0, 1) := by decide +kernel
theorem dX11_cloth_40 : decode cX11_cloth 40 = .ok (.iload_n 2, 1) := by decide +kernel
theorem dX11_cloth_41 : decode cX11_cloth 41 = .ok (.putfield 111, 3) := by decide +kernel
theorem dX11_cloth_44 : decode cX11_cloth 44 = .ok (.iconst 0, 1) := by decide +kernel
theorem dX11_cloth_45 : decode cX11_cloth 45 = .ok (.istore_n 3, 1) := by decide +kernel
theorem dX11_cloth_46 : decode cX11_cloth 46 = .ok (.iload_n 3, 1) := by decide +kernel
theorem dX11_cloth_47 : decode cX11_cloth 47 = .ok (.iload_n 1, 1) := by decide +kernel
theorem dX11_cloth_48 : decode cX11_cloth 48 = .ok (.if_icmp .ge 16, 3) := by decide +kernel
theorem dX11_cloth_51 : decode cX11_cloth 51 = .ok (.aload_n 0, 1) := by decide +kernel
theorem dX11_cloth_52 : decode cX11_cloth 52 = .ok (.getfield 26, 3) := by decide +kernel
theorem dX11_cloth_55 : decode cX11_cloth 55 = .ok (.iload_n 3, 1) := by decide +kernel
theorem dX11_cloth_56 : decode cX11_cloth 56 = .ok (.iload_n 3, 1) := by decide +kernel
theorem dX11_cloth_57 : decode cX11_cloth 57 = .ok (.iastore, 1) := by decide +kernel
theorem dX11_cloth_58 : decode cX11_cloth 58 = .ok (.iinc 3 1, 3) := by decide +kernel
theorem dX11_cloth_61 : decode cX11_cloth 61 = .ok (.goto (-15), 3) := by decide +kernel
theorem dX11_cloth_64 : decode cX11_cloth 64 = .ok (.iconst 0, 1) := by decide +kernel
theorem dX11_cloth_65 : decode cX11_cloth 65 = .ok (.istore_n 3, 1) := by decide +kernel
theorem dX11_cloth_66 : decode cX11_cloth 66 = .ok (.iload_n 3, 1) := by decide +kernel
theorem dX11_cloth_67 : decode cX11_cloth 67 = .ok (.sipush 576, 3) := by decide +kernel
theorem dX11_cloth_70 : decode cX11_cloth 70 = .ok (.if_icmp .ge 16, 3) := by decide +kernel
theorem dX11_cloth_73 : decode cX11_cloth 73 = .ok (.aload_n 0, 1) := by decide +kernel
theorem dX11_cloth_74 : decode cX11_cloth 74 = .ok (.getfield 29, 3) := by decide +kernel
theorem dX11_cloth_77 : decode cX11_cloth 77 = .ok (.iload_n 3, 1) := by decide +kernel
theorem dX11_cloth_78 : decode cX11_cloth 78 = .ok (.iconst 0, 1) := by decide +kernel
theorem dX11_cloth_79 : decode cX11_cloth 79 = .ok (.iastore, 1) := by decide +kernel
theorem dX11_cloth_80 : decode cX11_cloth 80 = .ok (.iinc 3 1, 3) := by decide +kernel
theorem dX11_cloth_83 : decode cX11_cloth 83 = .ok (.goto (-17), 3) := by decide +kernel
theorem dX11_cloth_86 : decode cX11_cloth 86 = .ok (.aload_n 0, 1) := by decide +kernel
theorem dX11_cloth_87 : decode cX11_cloth 87 = .ok (.iload_n 1, 1) := by decide +kernel
theorem dX11_cloth_88 : decode cX11_cloth 88 = .ok (.iload_n 2, 1) := by decide +kernel
theorem dX11_cloth_89 : decode cX11_cloth 89 = .ok (.imul, 1) := by decide +kernel
theorem dX11_cloth_90 : decode cX11_cloth 90 = .ok (.invokevirtual 58, 3) := by decide +kernel
theorem dX11_cloth_93 : decode cX11_cloth 93 = .ok (.ireturn, 1) := by decide +kernel
theorem dX11_wrongPick_0 : decode cX11_wrongPick 0 = .ok (.aload_n 0, 1) := by decide +kernel
theorem dX11_wrongPick_1 : decode cX11_wrongPick 1 = .ok (.getfield 104, 3) := by decide +kernel
theorem dX11_wrongPick_4 : decode cX11_wrongPick 4 = .ok (.ifCond .ne 5, 3) := by decide +kernel
theorem dX11_wrongPick_7 : decode cX11_wrongPick 7 = .ok (.iconst 1, 1) := by decide +kernel
theorem dX11_wrongPick_8 : decode cX11_wrongPick 8 = .ok (.ireturn, 1) := by decide +kernel
theorem dX11_wrongPick_9 : decode cX11_wrongPick 9 = .ok (.iload_n 1, 1) := by decide +kernel
theorem dX11_wrongPick_10 : decode cX11_wrongPick 10 = .ok (.ifCond .lt 11, 3) := by decide +kernel
theorem dX11_wrongPick_13 : decode cX11_wrongPick 13 = .ok (.iload_n 1, 1) := by decide +kernel
theorem dX11_wrongPick_14 : decode cX11_wrongPick 14 = .ok (.aload_n 0, 1) := by decide +kernel
theorem dX11_wrongPick_15 : decode cX11_wrongPick 15 = .ok (.getfield 108, 3) := by decide +kernel
theorem dX11_wrongPick_18 : decode cX11_wrongPick 18 = .ok (.if_icmp .lt 7, 3) := by decide +kernel
theorem dX11_wrongPick_21 : decode cX11_wrongPick 21 = .ok (.iconst 2, 1) := by decide +kernel
theorem dX11_wrongPick_22 : decode cX11_wrongPick 22 = .ok (.goto 4, 3) := by decide +kernel
theorem dX11_wrongPick_25 : decode cX11_wrongPick 25 = .ok (.iconst 0, 1) := by decide +kernel
theorem dX11_wrongPick_26 : decode cX11_wrongPick 26 = .ok (.ireturn, 1) := by decide +kernel
theorem dX11_goneOrWrong_0 : decode cX11_goneOrWrong 0 = .ok (.aload_n 0, 1) := by decide +kernel
theorem dX11_goneOrWrong_1 : decode cX11_goneOrWrong 1 = .ok (.iload_n 1, 1) := by decide +kernel
theorem dX11_goneOrWrong_2 : decode cX11_goneOrWrong 2 = .ok (.invokevirtual 114, 3) := by decide +kernel
theorem dX11_goneOrWrong_5 : decode cX11_goneOrWrong 5 = .ok (.istore_n 2, 1) := by decide +kernel
theorem dX11_goneOrWrong_6 : decode cX11_goneOrWrong 6 = .ok (.iload_n 2, 1) := by decide +kernel
theorem dX11_goneOrWrong_7 : decode cX11_goneOrWrong 7 = .ok (.ifCond .eq 5, 3) := by decide +kernel
theorem dX11_goneOrWrong_10 : decode cX11_goneOrWrong 10 = .ok (.iload_n 2, 1) := by decide +kernel
theorem dX11_goneOrWrong_11 : decode cX11_goneOrWrong 11 = .ok (.ireturn, 1) := by decide +kernel
theorem dX11_goneOrWrong_12 : decode cX11_goneOrWrong 12 = .ok (.aload_n 0, 1) := by decide +kernel
theorem dX11_goneOrWrong_13 : decode cX11_goneOrWrong 13 = .ok (.getfield 26, 3) := by decide +kernel
theorem dX11_goneOrWrong_16 : decode cX11_goneOrWrong 16 = .ok (.iload_n 1, 1) := by decide +kernel
theorem dX11_goneOrWrong_17 : decode cX11_goneOrWrong 17 = .ok (.iaload, 1) := by decide +kernel
theorem dX11_goneOrWrong_18 : decode cX11_goneOrWrong 18 = .ok (.iconst (-1), 1) := by decide +kernel
theorem dX11_goneOrWrong_19 : decode cX11_goneOrWrong 19 = .ok (.if_icmp .ne 7, 3) := by decide +kernel
theorem dX11_goneOrWrong_22 : decode cX11_goneOrWrong 22 = .ok (.iconst 1, 1) := by decide +kernel
theorem dX11_goneOrWrong_23 : decode cX11_goneOrWrong 23 = .ok (.goto 4, 3) := by decide +kernel
theorem dX11_goneOrWrong_26 : decode cX11_goneOrWrong 26 = .ok (.iconst 0, 1) := by decide +kernel
theorem dX11_goneOrWrong_27 : decode cX11_goneOrWrong 27 = .ok (.ireturn, 1) := by decide +kernel
theorem dX11_snip_0 : decode cX11_snip 0 = .ok (.aload_n 0, 1) := by decide +kernel
theorem dX11_snip_1 : decode cX11_snip 1 = .ok (.iload_n 1, 1) := by decide +kernel
theorem dX11_snip_2 : decode cX11_snip 2 = .ok (.invokevirtual 114, 3) := by decide +kernel
theorem dX11_snip_5 : decode cX11_snip 5 = .ok (.istore_n 2, 1) := by decide +kernel
theorem dX11_snip_6 : decode cX11_snip 6 = .ok (.iload_n 2, 1) := by decide +kernel
theorem dX11_snip_7 : decode cX11_snip 7 = .ok (.ifCond .eq 9, 3) := by decide +kernel
theorem dX11_snip_10 : decode cX11_snip 10 = .ok (.aload_n 0, 1) := by decide +kernel
theorem dX11_snip_11 : decode cX11_snip 11 = .ok (.iload_n 2, 1) := by decide +kernel
theorem dX11_snip_12 : decode cX11_snip 12 = .ok (.invokevirtual 51, 3) := by decide +kernel
theorem dX11_snip_15 : decode cX11_snip 15 = .ok (.ireturn, 1) := by decide +kernel
theorem dX11_snip_16 : decode cX11_snip 16 = .ok (.aload_n 0, 1) := by decide +kernel
theorem dX11_snip_17 : decode cX11_snip 17 = .ok (.getfield 26, 3) := by decide +kernel
theorem dX11_snip_20 : decode cX11_snip 20 = .ok (.iload_n 1, 1) := by decide +kernel
theorem dX11_snip_21 : decode cX11_snip 21 = .ok (.iaload, 1) := by decide +kernel
theorem dX11_snip_22 : decode cX11_snip 22 = .ok (.iconst (-1), 1) := by decide +kernel
theorem dX11_snip_23 : decode cX11_snip 23 = .ok (.if_icmp .ne 7, 3) := by decide +kernel
theorem dX11_snip_26 : decode cX11_snip 26 = .ok (.iconst 0, 1) := by decide +kernel
theorem dX11_snip_27 : decode cX11_snip 27 = .ok (.goto 4, 3) := by decide +kernel
theorem dX11_snip_30 : decode cX11_snip 30 = .ok (.iconst 1, 1) := by decide +kernel
theorem dX11_snip_31 : decode cX11_snip 31 = .ok (.istore_n 3, 1) := by decide +kernel
theorem dX11_snip_32 : decode cX11_snip 32 = .ok (.aload_n 0, 1) := by decide +kernel
theorem dX11_snip_33 : decode cX11_snip 33 = .ok (.getfield 26, 3) := by decide +kernel
theorem dX11_snip_36 : decode cX11_snip 36 = .ok (.iload_n 1, 1) := by decide +kernel
theorem dX11_snip_37 : decode cX11_snip 37 = .ok (.iconst (-1), 1) := by decide +kernel
theorem dX11_snip_38 : decode cX11_snip 38 = .ok (.iastore, 1) := by decide +kernel
theorem dX11_snip_39 : decode cX11_snip 39 = .ok (.aload_n 0, 1) := by decide +kernel
theorem dX11_snip_40 : decode cX11_snip 40 = .ok (.iload_n 3, 1) := by decide +kernel
theorem dX11_snip_41 : decode cX11_snip 41 = .ok (.invokevirtual 58, 3) := by decide +kernel
theorem dX11_snip_44 : decode cX11_snip 44 = .ok (.ireturn, 1) := by decide +kernel
theorem dX11_hang_0 : decode cX11_hang 0 = .ok (.aload_n 0, 1) := by decide +kernel
theorem dX11_hang_1 : decode cX11_hang 1 = .ok (.iload_n 2, 1) := by decide +kernel
theorem dX11_hang_2 : decode cX11_hang 2 = .ok (.invokevirtual 114, 3) := by decide +kernel
theorem dX11_hang_5 : decode cX11_hang 5 = .ok (.istore_n 3, 1) := by decide +kernel
theorem dX11_hang_6 : decode cX11_hang 6 = .ok (.iload_n 3, 1) := by decide +kernel
theorem dX11_hang_7 : decode cX11_hang 7 = .ok (.ifCond .ne 9, 3) := by decide +kernel
theorem dX11_hang_10 : decode cX11_hang 10 = .ok (.aload_n 0, 1) := by decide +kernel
theorem dX11_hang_11 : decode cX11_hang 11 = .ok (.iload_n 1, 1) := by decide +kernel
theorem dX11_hang_12 : decode cX11_hang 12 = .ok (.invokevirtual 114, 3) := by decide +kernel
theorem dX11_hang_15 : decode cX11_hang 15 = .ok (.istore_n 3, 1) := by decide +kernel
theorem dX11_hang_16 : decode cX11_hang 16 = .ok (.iload_n 3, 1) := by decide +kernel
theorem dX11_hang_17 : decode cX11_hang 17 = .ok (.ifCond .eq 9, 3) := by decide +kernel
theorem dX11_hang_20 : decode cX11_hang 20 = .ok (.aload_n 0, 1) := by decide +kernel
theorem dX11_hang_21 : decode cX11_hang 21 = .ok (.iload_n 3, 1) := by decide +kernel
theorem dX11_hang_22 : decode cX11_hang 22 = .ok (.invokevirtual 51, 3) := by decide +kernel
theorem dX11_hang_25 : decode cX11_hang 25 = .ok (.ireturn, 1) := by decide +kernel
theorem dX11_hang_26 : decode cX11_hang 26 = .ok (.aload_n 0, 1) := by decide +kernel
theorem dX11_hang_27 : decode cX11_hang 27 = .ok (.getfield 26, 3) := by decide +kernel
theorem dX11_hang_30 : decode cX11_hang 30 = .ok (.iload_n 1, 1) := by decide +kernel
theorem dX11_hang_31 : decode cX11_hang 31 = .ok (.aload_n 0, 1) := by decide +kernel
theorem dX11_hang_32 : decode cX11_hang 32 = .ok (.getfield 26, 3) := by decide +kernel
theorem dX11_hang_35 : decode cX11_hang 35 = .ok (.iload_n 2, 1) := by decide +kernel
theorem dX11_hang_36 : decode cX11_hang 36 = .ok (.iaload, 1) := by decide +kernel
theorem dX11_hang_37 : decode cX11_hang 37 = .ok (.iastore, 1) := by decide +kernel
theorem dX11_hang_38 : decode cX11_hang 38 = .ok (.aload_n 0, 1) := by decide +kernel
theorem dX11_hang_39 : decode cX11_hang 39 = .ok (.aload_n 0, 1) := by decide +kernel
theorem dX11_hang_40 : decode cX11_hang 40 = .ok (.getfield 26, 3) := by decide +kernel
theorem dX11_hang_43 : decode cX11_hang 43 = .ok (.iload_n 1, 1) := by decide +kernel
theorem dX11_hang_44 : decode cX11_hang 44 = .ok (.iaload, 1) := by decide +kernel
theorem dX11_hang_45 : decode cX11_hang 45 = .ok (.iconst (-1), 1) := by decide +kernel
theorem dX11_hang_46 : decode cX11_hang 46 = .ok (.if_icmp .ne 7, 3) := by decide +kernel
theorem dX11_hang_49 : decode cX11_hang 49 = .ok (.iconst 0, 1) := by decide +kernel
theorem dX11_hang_50 : decode cX11_hang 50 = .ok (.goto 7, 3) := by decide +kernel
theorem dX11_hang_53 : decode cX11_hang 53 = .ok (.aload_n 0, 1) := by decide +kernel
theorem dX11_hang_54 : decode cX11_hang 54 = .ok (.getfield 111, 3) := by decide +kernel
theorem dX11_hang_57 : decode cX11_hang 57 = .ok (.invokevirtual 58, 3) := by decide +kernel
theorem dX11_hang_60 : decode cX11_hang 60 = .ok (.ireturn, 1) := by decide +kernel
theorem dX11_cell_0 : decode cX11_cell 0 = .ok (.aload_n 0, 1) := by decide +kernel
theorem dX11_cell_1 : decode cX11_cell 1 = .ok (.iload_n 1, 1) := by decide +kernel
theorem dX11_cell_2 : decode cX11_cell 2 = .ok (.invokevirtual 117, 3) := by decide +kernel
theorem dX11_cell_5 : decode cX11_cell 5 = .ok (.istore_n 3, 1) := by decide +kernel
theorem dX11_cell_6 : decode cX11_cell 6 = .ok (.iload_n 3, 1) := by decide +kernel
theorem dX11_cell_7 : decode cX11_cell 7 = .ok (.ifCond .ne 17, 3) := by decide +kernel
theorem dX11_cell_10 : decode cX11_cell 10 = .ok (.iload_n 2, 1) := by decide +kernel
theorem dX11_cell_11 : decode cX11_cell 11 = .ok (.ifCond .lt 11, 3) := by decide +kernel
theorem dX11_cell_14 : decode cX11_cell 14 = .ok (.iload_n 2, 1) := by decide +kernel
theorem dX11_cell_15 : decode cX11_cell 15 = .ok (.aload_n 0, 1) := by decide +kernel
theorem dX11_cell_16 : decode cX11_cell 16 = .ok (.getfield 111, 3) := by decide +kernel
theorem dX11_cell_19 : decode cX11_cell 19 = .ok (.if_icmp .lt 5, 3) := by decide +kernel
theorem dX11_cell_22 : decode cX11_cell 22 = .ok (.iconst 2, 1) := by decide +kernel
theorem dX11_cell_23 : decode cX11_cell 23 = .ok (.istore_n 3, 1) := by decide +kernel
theorem dX11_cell_24 : decode cX11_cell 24 = .ok (.iload_n 3, 1) := by decide +kernel
theorem dX11_cell_25 : decode cX11_cell 25 = .ok (.ifCond .eq 9, 3) := by decide +kernel
theorem dX11_cell_28 : decode cX11_cell 28 = .ok (.aload_n 0, 1) := by decide +kernel
theorem dX11_cell_29 : decode cX11_cell 29 = .ok (.iload_n 3, 1) := by decide +kernel
theorem dX11_cell_30 : decode cX11_cell 30 = .ok (.invokevirtual 51, 3) := by decide +kernel
theorem dX11_cell_33 : decode cX11_cell 33 = .ok (.ireturn, 1) := by decide +kernel
theorem dX11_cell_34 : decode cX11_cell 34 = .ok (.aload_n 0, 1) := by decide +kernel
theorem dX11_cell_35 : decode cX11_cell 35 = .ok (.aload_n 0, 1) := by decide +kernel
theorem dX11_cell_36 : decode cX11_cell 36 = .ok (.getfield 29, 3) := by decide +kernel
theorem dX11_cell_39 : decode cX11_cell 39 = .ok (.bipush 24, 2) := by decide +kernel
theorem dX11_cell_41 : decode cX11_cell 41 = .ok (.aload_n 0, 1) := by decide +kernel
theorem dX11_cell_42 : decode cX11_cell 42 = .ok (.getfield 26, 3) := by decide +kernel
theorem dX11_cell_45 : decode cX11_cell 45 = .ok (.iload_n 1, 1) := by decide +kernel
theorem dX11_cell_46 : decode cX11_cell 46 = .ok (.iaload, 1) := by decide +kernel
theorem dX11_cell_47 : decode cX11_cell 47 = .ok (.imul, 1) := by decide +kernel
theorem dX11_cell_48 : decode cX11_cell 48 = .ok (.iload_n 2, 1) := by decide +kernel
theorem dX11_cell_49 : decode cX11_cell 49 = .ok (.iadd, 1) := by decide +kernel
theorem dX11_cell_50 : decode cX11_cell 50 = .ok (.iaload, 1) := by decide +kernel
theorem dX11_cell_51 : decode cX11_cell 51 = .ok (.invokevirtual 58, 3) := by decide +kernel
theorem dX11_cell_54 : decode cX11_cell 54 = .ok (.ireturn, 1) := by decide +kernel
theorem dX11_weave_0 : decode cX11_weave 0 = .ok (.iload_n 1, 1) := by decide +kernel
theorem dX11_weave_1 : decode cX11_weave 1 = .ok (.invokestatic 38, 3) := by decide +kernel
theorem dX11_weave_4 : decode cX11_weave 4 = .ok (.ifCond .ne 6, 3) := by decide +kernel
theorem dX11_weave_7 : decode cX11_weave 7 = .ok (.ldc 50, 2) := by decide +kernel
theorem dX11_weave_9 : decode cX11_weave 9 = .ok (.ireturn, 1) := by decide +kernel
theorem dX11_weave_10 : decode cX11_weave 10 = .ok (.aload_n 0, 1) := by decide +kernel
theorem dX11_weave_11 : decode cX11_weave 11 = .ok (.iload_n 2, 1) := by decide +kernel
theorem dX11_weave_12 : decode cX11_weave 12 = .ok (.invokevirtual 117, 3) := by decide +kernel
theorem dX11_weave_15 : decode cX11_weave 15 = .ok (.istore 4, 2) := by decide +kernel
theorem dX11_weave_17 : decode cX11_weave 17 = .ok (.iload 4, 2) := by decide +kernel
theorem dX11_weave_19 : decode cX11_weave 19 = .ok (.ifCond .eq 10, 3) := by decide +kernel
theorem dX11_weave_22 : decode cX11_weave 22 = .ok (.aload_n 0, 1) := by decide +kernel
theorem dX11_weave_23 : decode cX11_weave 23 = .ok (.iload 4, 2) := by decide +kernel
theorem dX11_weave_25 : decode cX11_weave 25 = .ok (.invokevirtual 51, 3) := by decide +kernel
theorem dX11_weave_28 : decode cX11_weave 28 = .ok (.ireturn, 1) := by decide +kernel
theorem dX11_weave_29 : decode cX11_weave 29 = .ok (.iconst 0, 1) := by decide +kernel
theorem dX11_weave_30 : decode cX11_weave 30 = .ok (.istore 5, 2) := by decide +kernel
theorem dX11_weave_32 : decode cX11_weave 32 = .ok (.iload 5, 2) := by decide +kernel
theorem dX11_weave_34 : decode cX11_weave 34 = .ok (.aload_n 0, 1) := by decide +kernel
theorem dX11_weave_35 : decode cX11_weave 35 = .ok (.getfield 111, 3) := by decide +kernel
theorem dX11_weave_38 : decode cX11_weave 38 = .ok (.if_icmp .ge 173, 3) := by decide +kernel
theorem dX11_weave_41 : decode cX11_weave 41 = .ok (.aload_n 0, 1) := by decide +kernel
theorem dX11_weave_42 : decode cX11_weave 42 = .ok (.iconst 5, 1) := by decide +kernel
theorem dX11_weave_43 : decode cX11_weave 43 = .ok (.iload_n 1, 1) := by decide +kernel
theorem dX11_weave_44 : decode cX11_weave 44 = .ok (.imul, 1) := by decide +kernel
theorem dX11_weave_45 : decode cX11_weave 45 = .ok (.iconst 3, 1) := by decide +kernel
theorem dX11_weave_46 : decode cX11_weave 46 = .ok (.iadd, 1) := by decide +kernel
theorem dX11_weave_47 : decode cX11_weave 47 = .ok (.iload 5, 2) := by decide +kernel
theorem dX11_weave_49 : decode cX11_weave 49 = .ok (.invokevirtual 84, 3) := by decide +kernel
theorem dX11_weave_52 : decode cX11_weave 52 = .ok (.istore 4, 2) := by decide +kernel
theorem dX11_weave_54 : decode cX11_weave 54 = .ok (.iload 4, 2) := by decide +kernel
theorem dX11_weave_56 : decode cX11_weave 56 = .ok (.ifCond .ne 26, 3) := by decide +kernel
theorem dX11_weave_59 : decode cX11_weave 59 = .ok (.aload_n 0, 1) := by decide +kernel
theorem dX11_weave_60 : decode cX11_weave 60 = .ok (.iload_n 1, 1) := by decide +kernel
theorem dX11_weave_61 : decode cX11_weave 61 = .ok (.iload 5, 2) := by decide +kernel
theorem dX11_weave_63 : decode cX11_weave 63 = .ok (.invokevirtual 120, 3) := by decide +kernel
theorem dX11_weave_66 : decode cX11_weave 66 = .ok (.ifCond .eq 16, 3) := by decide +kernel
theorem dX11_weave_69 : decode cX11_weave 69 = .ok (.aload_n 0, 1) := by decide +kernel
theorem dX11_weave_70 : decode cX11_weave 70 = .ok (.iconst 5, 1) := by decide +kernel
theorem dX11_weave_71 : decode cX11_weave 71 = .ok (.iload_n 1, 1) := by decide +kernel
theorem dX11_weave_72 : decode cX11_weave 72 = .ok (.imul, 1) := by decide +kernel
theorem dX11_weave_73 : decode cX11_weave 73 = .ok (.iconst 0, 1) := by decide +kernel
theorem dX11_weave_74 : decode cX11_weave 74 = .ok (.iadd, 1) := by decide +kernel
theorem dX11_weave_75 : decode cX11_weave 75 = .ok (.iload 5, 2) := by decide +kernel
theorem dX11_weave_77 : decode cX11_weave 77 = .ok (.invokevirtual 84, 3) := by decide +kernel
theorem dX11_weave_80 : decode cX11_weave 80 = .ok (.istore 4, 2) := by decide +kernel
theorem dX11_weave_82 : decode cX11_weave 82 = .ok (.iload 4, 2) := by decide +kernel
theorem dX11_weave_84 : decode cX11_weave 84 = .ok (.ifCond .ne 16, 3) := by decide +kernel
theorem dX11_weave_87 : decode cX11_weave 87 = .ok (.aload_n 0, 1) := by decide +kernel
theorem dX11_weave_88 : decode cX11_weave 88 = .ok (.iconst 5, 1) := by decide +kernel
theorem dX11_weave_89 : decode cX11_weave 89 = .ok (.iload_n 1, 1) := by decide +kernel
theorem dX11_weave_90 : decode cX11_weave 90 = .ok (.imul, 1) := by decide +kernel
theorem dX11_weave_91 : decode cX11_weave 91 = .ok (.iconst 1, 1) := by decide +kernel
theorem dX11_weave_92 : decode cX11_weave 92 = .ok (.iadd, 1) := by decide +kernel
theorem dX11_weave_93 : decode cX11_weave 93 = .ok (.iload 5, 2) := by decide +kernel
theorem dX11_weave_95 : decode cX11_weave 95 = .ok (.invokevirtual 84, 3) := by decide +kernel
theorem dX11_weave_98 : decode cX11_weave 98 = .ok (.istore 4, 2) := by decide +kernel
theorem dX11_weave_100 : decode cX11_weave 100 = .ok (.iload 4, 2) := by decide +kernel
theorem dX11_weave_102 : decode cX11_weave 102 = .ok (.ifCond .eq 13, 3) := by decide +kernel
theorem dX11_weave_105 : decode cX11_weave 105 = .ok (.aload_n 0, 1) := by decide +kernel
theorem dX11_weave_106 : decode cX11_weave 106 = .ok (.iload 4, 2) := by decide +kernel
theorem dX11_weave_108 : decode cX11_weave 108 = .ok (.invokevirtual 51, 3) := by decide +kernel
theorem dX11_weave_111 : decode cX11_weave 111 = .ok (.pop, 1) := by decide +kernel
theorem dX11_weave_112 : decode cX11_weave 112 = .ok (.iload 5, 2) := by decide +kernel
theorem dX11_weave_114 : decode cX11_weave 114 = .ok (.ireturn, 1) := by decide +kernel
theorem dX11_weave_115 : decode cX11_weave 115 = .ok (.bipush 24, 2) := by decide +kernel
theorem dX11_weave_117 : decode cX11_weave 117 = .ok (.aload_n 0, 1) := by decide +kernel
theorem dX11_weave_118 : decode cX11_weave 118 = .ok (.getfield 7, 3) := by decide +kernel
theorem dX11_weave_121 : decode cX11_weave 121 = .ok (.iconst 5, 1) := by decide +kernel
theorem dX11_weave_122 : decode cX11_weave 122 = .ok (.iload_n 1, 1) := by decide +kernel
theorem dX11_weave_123 : decode cX11_weave 123 = .ok (.imul, 1) := by decide +kernel
theorem dX11_weave_124 : decode cX11_weave 124 = .ok (.iconst 1, 1) := by decide +kernel
theorem dX11_weave_125 : decode cX11_weave 125 = .ok (.iadd, 1) := by decide +kernel
theorem dX11_weave_126 : decode cX11_weave 126 = .ok (.iaload, 1) := by decide +kernel
theorem dX11_weave_127 : decode cX11_weave 127 = .ok (.imul, 1) := by decide +kernel
theorem dX11_weave_128 : decode cX11_weave 128 = .ok (.iload 5, 2) := by decide +kernel
theorem dX11_weave_130 : decode cX11_weave 130 = .ok (.iadd, 1) := by decide +kernel
theorem dX11_weave_131 : decode cX11_weave 131 = .ok (.istore 6, 2) := by decide +kernel
theorem dX11_weave_133 : decode cX11_weave 133 = .ok (.aload_n 0, 1) := by decide +kernel
theorem dX11_weave_134 : decode cX11_weave 134 = .ok (.getfield 16, 3) := by decide +kernel
theorem dX11_weave_137 : decode cX11_weave 137 = .ok (.iload 6, 2) := by decide +kernel
theorem dX11_weave_139 : decode cX11_weave 139 = .ok (.iconst 1, 1) := by decide +kernel
theorem dX11_weave_140 : decode cX11_weave 140 = .ok (.aload_n 0, 1) := by decide +kernel
theorem dX11_weave_141 : decode cX11_weave 141 = .ok (.getfield 16, 3) := by decide +kernel
theorem dX11_weave_144 : decode cX11_weave 144 = .ok (.iload 6, 2) := by decide +kernel
theorem dX11_weave_146 : decode cX11_weave 146 = .ok (.iaload, 1) := by decide +kernel
theorem dX11_weave_147 : decode cX11_weave 147 = .ok (.iconst 1, 1) := by decide +kernel
theorem dX11_weave_148 : decode cX11_weave 148 = .ok (.isub, 1) := by decide +kernel
theorem dX11_weave_149 : decode cX11_weave 149 = .ok (.invokestatic 76, 3) := by decide +kernel
theorem dX11_weave_152 : decode cX11_weave 152 = .ok (.iastore, 1) := by decide +kernel
theorem dX11_weave_153 : decode cX11_weave 153 = .ok (.aload_n 0, 1) := by decide +kernel
theorem dX11_weave_154 : decode cX11_weave 154 = .ok (.getfield 29, 3) := by decide +kernel
theorem dX11_weave_157 : decode cX11_weave 157 = .ok (.bipush 24, 2) := by decide +kernel
theorem dX11_weave_159 : decode cX11_weave 159 = .ok (.aload_n 0, 1) := by decide +kernel
theorem dX11_weave_160 : decode cX11_weave 160 = .ok (.getfield 26, 3) := by decide +kernel
theorem dX11_weave_163 : decode cX11_weave 163 = .ok (.iload_n 2, 1) := by decide +kernel
theorem dX11_weave_164 : decode cX11_weave 164 = .ok (.iaload, 1) := by decide +kernel
theorem dX11_weave_165 : decode cX11_weave 165 = .ok (.imul, 1) := by decide +kernel
theorem dX11_weave_166 : decode cX11_weave 166 = .ok (.iload 5, 2) := by decide +kernel
theorem dX11_weave_168 : decode cX11_weave 168 = .ok (.iadd, 1) := by decide +kernel
theorem dX11_weave_169 : decode cX11_weave 169 = .ok (.aload_n 0, 1) := by decide +kernel
theorem dX11_weave_170 : decode cX11_weave 170 = .ok (.iload_n 1, 1) := by decide +kernel
theorem dX11_weave_171 : decode cX11_weave 171 = .ok (.iload 5, 2) := by decide +kernel
theorem dX11_weave_173 : decode cX11_weave 173 = .ok (.invokevirtual 120, 3) := by decide +kernel
theorem dX11_weave_176 : decode cX11_weave 176 = .ok (.ifCond .eq 27, 3) := by decide +kernel
theorem dX11_weave_179 : decode cX11_weave 179 = .ok (.aload_n 0, 1) := by decide +kernel
theorem dX11_weave_180 : decode cX11_weave 180 = .ok (.getfield 16, 3) := by decide +kernel
theorem dX11_weave_183 : decode cX11_weave 183 = .ok (.bipush 24, 2) := by decide +kernel
theorem dX11_weave_185 : decode cX11_weave 185 = .ok (.aload_n 0, 1) := by decide +kernel
theorem dX11_weave_186 : decode cX11_weave 186 = .ok (.getfield 7, 3) := by decide +kernel
theorem dX11_weave_189 : decode cX11_weave 189 = .ok (.iconst 5, 1) := by decide +kernel
theorem dX11_weave_190 : decode cX11_weave 190 = .ok (.iload_n 1, 1) := by decide +kernel
theorem dX11_weave_191 : decode cX11_weave 191 = .ok (.imul, 1) := by decide +kernel
theorem dX11_weave_192 : decode cX11_weave 192 = .ok (.iconst 0, 1) := by decide +kernel
theorem dX11_weave_193 : decode cX11_weave 193 = .ok (.iadd, 1) := by decide +kernel
theorem dX11_weave_194 : decode cX11_weave 194 = .ok (.iaload, 1) := by decide +kernel
theorem dX11_weave_195 : decode cX11_weave 195 = .ok (.imul, 1) := by decide +kernel
theorem dX11_weave_196 : decode cX11_weave 196 = .ok (.iload 5, 2) := by decide +kernel
theorem dX11_weave_198 : decode cX11_weave 198 = .ok (.iadd, 1) := by decide +kernel
theorem dX11_weave_199 : decode cX11_weave 199 = .ok (.iaload, 1) := by decide +kernel
theorem dX11_weave_200 : decode cX11_weave 200 = .ok (.goto 4, 3) := by decide +kernel
theorem dX11_weave_203 : decode cX11_weave 203 = .ok (.iload_n 3, 1) := by decide +kernel
theorem dX11_weave_204 : decode cX11_weave 204 = .ok (.iastore, 1) := by decide +kernel
theorem dX11_weave_205 : decode cX11_weave 205 = .ok (.iinc 5 1, 3) := by decide +kernel
theorem dX11_weave_208 : decode cX11_weave 208 = .ok (.goto (-176), 3) := by decide +kernel
theorem dX11_weave_211 : decode cX11_weave 211 = .ok (.aload_n 0, 1) := by decide +kernel
theorem dX11_weave_212 : decode cX11_weave 212 = .ok (.dup, 1) := by decide +kernel
theorem dX11_weave_213 : decode cX11_weave 213 = .ok (.getfield 123, 3) := by decide +kernel
theorem dX11_weave_216 : decode cX11_weave 216 = .ok (.iconst 1, 1) := by decide +kernel
theorem dX11_weave_217 : decode cX11_weave 217 = .ok (.iadd, 1) := by decide +kernel
theorem dX11_weave_218 : decode cX11_weave 218 = .ok (.putfield 123, 3) := by decide +kernel
theorem dX11_weave_221 : decode cX11_weave 221 = .ok (.aload_n 0, 1) := by decide +kernel
theorem dX11_weave_222 : decode cX11_weave 222 = .ok (.iload 5, 2) := by decide +kernel
theorem dX11_weave_224 : decode cX11_weave 224 = .ok (.invokevirtual 58, 3) := by decide +kernel
theorem dX11_weave_227 : decode cX11_weave 227 = .ok (.ireturn, 1) := by decide +kernel
theorem dX11_isUp_0 : decode cX11_isUp 0 = .ok (.aload_n 0, 1) := by decide +kernel
theorem dX11_isUp_1 : decode cX11_isUp 1 = .ok (.getfield 16, 3) := by decide +kernel
theorem dX11_isUp_4 : decode cX11_isUp 4 = .ok (.bipush 24, 2) := by decide +kernel
theorem dX11_isUp_6 : decode cX11_isUp 6 = .ok (.aload_n 0, 1) := by decide +kernel
theorem dX11_isUp_7 : decode cX11_isUp 7 = .ok (.getfield 7, 3) := by decide +kernel
theorem dX11_isUp_10 : decode cX11_isUp 10 = .ok (.iconst 5, 1) := by decide +kernel
theorem dX11_isUp_11 : decode cX11_isUp 11 = .ok (.iload_n 1, 1) := by decide +kernel
theorem dX11_isUp_12 : decode cX11_isUp 12 = .ok (.imul, 1) := by decide +kernel
theorem dX11_isUp_13 : decode cX11_isUp 13 = .ok (.iconst 3, 1) := by decide +kernel
theorem dX11_isUp_14 : decode cX11_isUp 14 = .ok (.iadd, 1) := by decide +kernel
theorem dX11_isUp_15 : decode cX11_isUp 15 = .ok (.iaload, 1) := by decide +kernel
theorem dX11_isUp_16 : decode cX11_isUp 16 = .ok (.imul, 1) := by decide +kernel
theorem dX11_isUp_17 : decode cX11_isUp 17 = .ok (.iload_n 2, 1) := by decide +kernel
theorem dX11_isUp_18 : decode cX11_isUp 18 = .ok (.iadd, 1) := by decide +kernel
theorem dX11_isUp_19 : decode cX11_isUp 19 = .ok (.iaload, 1) := by decide +kernel
theorem dX11_isUp_20 : decode cX11_isUp 20 = .ok (.iconst 1, 1) := by decide +kernel
theorem dX11_isUp_21 : decode cX11_isUp 21 = .ok (.if_icmp .ne 7, 3) := by decide +kernel
theorem dX11_isUp_24 : decode cX11_isUp 24 = .ok (.iconst 1, 1) := by decide +kernel
theorem dX11_isUp_25 : decode cX11_isUp 25 = .ok (.goto 4, 3) := by decide +kernel
theorem dX11_isUp_28 : decode cX11_isUp 28 = .ok (.iconst 0, 1) := by decide +kernel
theorem dX11_isUp_29 : decode cX11_isUp 29 = .ok (.ireturn, 1) := by decide +kernel
theorem dX11_card_0 : decode cX11_card 0 = .ok (.iload_n 1, 1) := by decide +kernel
theorem dX11_card_1 : decode cX11_card 1 = .ok (.ifCond .lt 25, 3) := by decide +kernel
theorem dX11_card_4 : decode cX11_card 4 = .ok (.iload_n 1, 1) := by decide +kernel
theorem dX11_card_5 : decode cX11_card 5 = .ok (.iconst 4, 1) := by decide +kernel
theorem dX11_card_6 : decode cX11_card 6 = .ok (.if_icmp .gt 20, 3) := by decide +kernel
theorem dX11_card_9 : decode cX11_card 9 = .ok (.iload_n 2, 1) := by decide +kernel
theorem dX11_card_10 : decode cX11_card 10 = .ok (.iload_n 3, 1) := by decide +kernel
theorem dX11_card_11 : decode cX11_card 11 = .ok (.invokestatic 46, 3) := by decide +kernel
theorem dX11_card_14 : decode cX11_card 14 = .ok (.ifCond .eq 12, 3) := by decide +kernel
theorem dX11_card_17 : decode cX11_card 17 = .ok (.aload_n 0, 1) := by decide +kernel
theorem dX11_card_18 : decode cX11_card 18 = .ok (.getfield 126, 3) := by decide +kernel
theorem dX11_card_21 : decode cX11_card 21 = .ok (.bipush 12, 2) := by decide +kernel
theorem dX11_card_23 : decode cX11_card 23 = .ok (.if_icmp .ne 6, 3) := by decide +kernel
theorem dX11_card_26 : decode cX11_card 26 = .ok (.ldc 50, 2) := by decide +kernel
theorem dX11_card_28 : decode cX11_card 28 = .ok (.ireturn, 1) := by decide +kernel
theorem dX11_card_29 : decode cX11_card 29 = .ok (.iconst 5, 1) := by decide +kernel
theorem dX11_card_30 : decode cX11_card 30 = .ok (.aload_n 0, 1) := by decide +kernel
theorem dX11_card_31 : decode cX11_card 31 = .ok (.getfield 126, 3) := by decide +kernel
theorem dX11_card_34 : decode cX11_card 34 = .ok (.imul, 1) := by decide +kernel
theorem dX11_card_35 : decode cX11_card 35 = .ok (.istore 6, 2) := by decide +kernel
theorem dX11_card_37 : decode cX11_card 37 = .ok (.aload_n 0, 1) := by decide +kernel
theorem dX11_card_38 : decode cX11_card 38 = .ok (.getfield 32, 3) := by decide +kernel
theorem dX11_card_41 : decode cX11_card 41 = .ok (.iload 6, 2) := by decide +kernel
theorem dX11_card_43 : decode cX11_card 43 = .ok (.iload_n 1, 1) := by decide +kernel
theorem dX11_card_44 : decode cX11_card 44 = .ok (.iastore, 1) := by decide +kernel
theorem dX11_card_45 : decode cX11_card 45 = .ok (.aload_n 0, 1) := by decide +kernel
theorem dX11_card_46 : decode cX11_card 46 = .ok (.getfield 32, 3) := by decide +kernel
theorem dX11_card_49 : decode cX11_card 49 = .ok (.iload 6, 2) := by decide +kernel
theorem dX11_card_51 : decode cX11_card 51 = .ok (.iconst 1, 1) := by decide +kernel
theorem dX11_card_52 : decode cX11_card 52 = .ok (.iadd, 1) := by decide +kernel
theorem dX11_card_53 : decode cX11_card 53 = .ok (.iload_n 2, 1) := by decide +kernel
theorem dX11_card_54 : decode cX11_card 54 = .ok (.iastore, 1) := by decide +kernel
theorem dX11_card_55 : decode cX11_card 55 = .ok (.aload_n 0, 1) := by decide +kernel
theorem dX11_card_56 : decode cX11_card 56 = .ok (.getfield 32, 3) := by decide +kernel
theorem dX11_card_59 : decode cX11_card 59 = .ok (.iload 6, 2) := by decide +kernel
theorem dX11_card_61 : decode cX11_card 61 = .ok (.iconst 2, 1) := by decide +kernel
theorem dX11_card_62 : decode cX11_card 62 = .ok (.iadd, 1) := by decide +kernel
theorem dX11_card_63 : decode cX11_card 63 = .ok (.iload_n 3, 1) := by decide +kernel
theorem dX11_card_64 : decode cX11_card 64 = .ok (.iastore, 1) := by decide +kernel
theorem dX11_card_65 : decode cX11_card 65 = .ok (.aload_n 0, 1) := by decide +kernel
theorem dX11_card_66 : decode cX11_card 66 = .ok (.getfield 32, 3) := by decide +kernel
theorem dX11_card_69 : decode cX11_card 69 = .ok (.iload 6, 2) := by decide +kernel
theorem dX11_card_71 : decode cX11_card 71 = .ok (.iconst 3, 1) := by decide +kernel
theorem dX11_card_72 : decode cX11_card 72 = .ok (.iadd, 1) := by decide +kernel
theorem dX11_card_73 : decode cX11_card 73 = .ok (.iload 4, 2) := by decide +kernel
theorem dX11_card_75 : decode cX11_card 75 = .ok (.iastore, 1) := by decide +kernel
theorem dX11_card_76 : decode cX11_card 76 = .ok (.aload_n 0, 1) := by decide +kernel
theorem dX11_card_77 : decode cX11_card 77 = .ok (.getfield 32, 3) := by decide +kernel
theorem dX11_card_80 : decode cX11_card 80 = .ok (.iload 6, 2) := by decide +kernel
theorem dX11_card_82 : decode cX11_card 82 = .ok (.iconst 4, 1) := by decide +kernel
theorem dX11_card_83 : decode cX11_card 83 = .ok (.iadd, 1) := by decide +kernel
theorem dX11_card_84 : decode cX11_card 84 = .ok (.iload 5, 2) := by decide +kernel
theorem dX11_card_86 : decode cX11_card 86 = .ok (.iastore, 1) := by decide +kernel
theorem dX11_card_87 : decode cX11_card 87 = .ok (.aload_n 0, 1) := by decide +kernel
theorem dX11_card_88 : decode cX11_card 88 = .ok (.dup, 1) := by decide +kernel
theorem dX11_card_89 : decode cX11_card 89 = .ok (.getfield 126, 3) := by decide +kernel
theorem dX11_card_92 : decode cX11_card 92 = .ok (.iconst 1, 1) := by decide +kernel
theorem dX11_card_93 : decode cX11_card 93 = .ok (.iadd, 1) := by decide +kernel
theorem dX11_card_94 : decode cX11_card 94 = .ok (.putfield 126, 3) := by decide +kernel
theorem dX11_card_97 : decode cX11_card 97 = .ok (.aload_n 0, 1) := by decide +kernel
theorem dX11_card_98 : decode cX11_card 98 = .ok (.getfield 126, 3) := by decide +kernel
theorem dX11_card_101 : decode cX11_card 101 = .ok (.ireturn, 1) := by decide +kernel
theorem dX11_unhook_0 : decode cX11_unhook 0 = .ok (.aload_n 0, 1) := by decide +kernel
theorem dX11_unhook_1 : decode cX11_unhook 1 = .ok (.getfield 126, 3) := by decide +kernel
theorem dX11_unhook_4 : decode cX11_unhook 4 = .ok (.istore_n 1, 1) := by decide +kernel
theorem dX11_unhook_5 : decode cX11_unhook 5 = .ok (.aload_n 0, 1) := by decide +kernel
theorem dX11_unhook_6 : decode cX11_unhook 6 = .ok (.iconst 0, 1) := by decide +kernel
theorem dX11_unhook_7 : decode cX11_unhook 7 = .ok (.putfield 126, 3) := by decide +kernel
theorem dX11_unhook_10 : decode cX11_unhook 10 = .ok (.iload_n 1, 1) := by decide +kernel
theorem dX11_unhook_11 : decode cX11_unhook 11 = .ok (.ireturn, 1) := by decide +kernel
theorem dX11_keeper_0 : decode cX11_keeper 0 = .ok (.iload_n 1, 1) := by decide +kernel
theorem dX11_keeper_1 : decode cX11_keeper 1 = .ok (.bipush (-63), 2) := by decide +kernel
theorem dX11_keeper_3 : decode cX11_keeper 3 = .ok (.iand, 1) := by decide +kernel
theorem dX11_keeper_4 : decode cX11_keeper 4 = .ok (.ifCond .eq 5, 3) := by decide +kernel
theorem dX11_keeper_7 : decode cX11_keeper 7 = .ok (.iconst 0, 1) := by decide +kernel
theorem dX11_keeper_8 : decode cX11_keeper 8 = .ok (.ireturn, 1) := by decide +kernel
theorem dX11_keeper_9 : decode cX11_keeper 9 = .ok (.aload_n 0, 1) := by decide +kernel
theorem dX11_keeper_10 : decode cX11_keeper 10 = .ok (.iload_n 1, 1) := by decide +kernel
theorem dX11_keeper_11 : decode cX11_keeper 11 = .ok (.putfield 129, 3) := by decide +kernel
theorem dX11_keeper_14 : decode cX11_keeper 14 = .ok (.iconst 1, 1) := by decide +kernel
theorem dX11_keeper_15 : decode cX11_keeper 15 = .ok (.ireturn, 1) := by decide +kernel
theorem dX11_run_0 : decode cX11_run 0 = .ok (.iload_n 1, 1) := by decide +kernel
theorem dX11_run_1 : decode cX11_run 1 = .ok (.iconst 1, 1) := by decide +kernel
theorem dX11_run_2 : decode cX11_run 2 = .ok (.if_icmp .lt 16, 3) := by decide +kernel
theorem dX11_run_5 : decode cX11_run 5 = .ok (.iload_n 1, 1) := by decide +kernel
theorem dX11_run_6 : decode cX11_run 6 = .ok (.bipush 12, 2) := by decide +kernel
theorem dX11_run_8 : decode cX11_run 8 = .ok (.if_icmp .gt 10, 3) := by decide +kernel
theorem dX11_run_11 : decode cX11_run 11 = .ok (.aload_n 0, 1) := by decide +kernel
theorem dX11_run_12 : decode cX11_run 12 = .ok (.getfield 126, 3) := by decide +kernel
theorem dX11_run_15 : decode cX11_run 15 = .ok (.ifCond .ne 6, 3) := by decide +kernel
theorem dX11_run_18 : decode cX11_run 18 = .ok (.ldc 50, 2) := by decide +kernel
theorem dX11_run_20 : decode cX11_run 20 = .ok (.ireturn, 1) := by decide +kernel
theorem dX11_run_21 : decode cX11_run 21 = .ok (.aload_n 0, 1) := by decide +kernel
theorem dX11_run_22 : decode cX11_run 22 = .ok (.iconst 0, 1) := by decide +kernel
theorem dX11_run_23 : decode cX11_run 23 = .ok (.putfield 132, 3) := by decide +kernel
theorem dX11_run_26 : decode cX11_run 26 = .ok (.iconst 0, 1) := by decide +kernel
theorem dX11_run_27 : decode cX11_run 27 = .ok (.istore_n 2, 1) := by decide +kernel
theorem dX11_run_28 : decode cX11_run 28 = .ok (.aload_n 0, 1) := by decide +kernel
theorem dX11_run_29 : decode cX11_run 29 = .ok (.iconst 0, 1) := by decide +kernel
theorem dX11_run_30 : decode cX11_run 30 = .ok (.putfield 42, 3) := by decide +kernel
theorem dX11_run_33 : decode cX11_run 33 = .ok (.iconst 1, 1) := by decide +kernel
theorem dX11_run_34 : decode cX11_run 34 = .ok (.istore_n 3, 1) := by decide +kernel
theorem dX11_run_35 : decode cX11_run 35 = .ok (.iload_n 2, 1) := by decide +kernel
theorem dX11_run_36 : decode cX11_run 36 = .ok (.iload_n 1, 1) := by decide +kernel
theorem dX11_run_37 : decode cX11_run 37 = .ok (.if_icmp .ge 116, 3) := by decide +kernel
theorem dX11_run_40 : decode cX11_run 40 = .ok (.iload_n 3, 1) := by decide +kernel
theorem dX11_run_41 : decode cX11_run 41 = .ok (.ifCond .eq 112, 3) := by decide +kernel
theorem dX11_run_44 : decode cX11_run 44 = .ok (.iconst 5, 1) := by decide +kernel
theorem dX11_run_45 : decode cX11_run 45 = .ok (.iload_n 2, 1) := by decide +kernel
theorem dX11_run_46 : decode cX11_run 46 = .ok (.aload_n 0, 1) := by decide +kernel
theorem dX11_run_47 : decode cX11_run 47 = .ok (.getfield 126, 3) := by decide +kernel
theorem dX11_run_50 : decode cX11_run 50 = .ok (.irem, 1) := by decide +kernel
theorem dX11_run_51 : decode cX11_run 51 = .ok (.imul, 1) := by decide +kernel
theorem dX11_run_52 : decode cX11_run 52 = .ok (.istore 4, 2) := by decide +kernel
theorem dX11_run_54 : decode cX11_run 54 = .ok (.aload_n 0, 1) := by decide +kernel
theorem dX11_run_55 : decode cX11_run 55 = .ok (.aload_n 0, 1) := by decide +kernel
theorem dX11_run_56 : decode cX11_run 56 = .ok (.getfield 132, 3) := by decide +kernel
theorem dX11_run_59 : decode cX11_run 59 = .ok (.aload_n 0, 1) := by decide +kernel
theorem dX11_run_60 : decode cX11_run 60 = .ok (.aload_n 0, 1) := by decide +kernel
theorem dX11_run_61 : decode cX11_run 61 = .ok (.getfield 32, 3) := by decide +kernel
theorem dX11_run_64 : decode cX11_run 64 = .ok (.iload 4, 2) := by decide +kernel
theorem dX11_run_66 : decode cX11_run 66 = .ok (.iaload, 1) := by decide +kernel
theorem dX11_run_67 : decode cX11_run 67 = .ok (.aload_n 0, 1) := by decide +kernel
theorem dX11_run_68 : decode cX11_run 68 = .ok (.getfield 32, 3) := by decide +kernel
theorem dX11_run_71 : decode cX11_run 71 = .ok (.iload 4, 2) := by decide +kernel
theorem dX11_run_73 : decode cX11_run 73 = .ok (.iconst 1, 1) := by decide +kernel
theorem dX11_run_74 : decode cX11_run 74 = .ok (.iadd, 1) := by decide +kernel
theorem dX11_run_75 : decode cX11_run 75 = .ok (.iaload, 1) := by decide +kernel
theorem dX11_run_76 : decode cX11_run 76 = .ok (.aload_n 0, 1) := by decide +kernel
theorem dX11_run_77 : decode cX11_run 77 = .ok (.getfield 32, 3) := by decide +kernel
theorem dX11_run_80 : decode cX11_run 80 = .ok (.iload 4, 2) := by decide +kernel
theorem dX11_run_82 : decode cX11_run 82 = .ok (.iconst 2, 1) := by decide +kernel
theorem dX11_run_83 : decode cX11_run 83 = .ok (.iadd, 1) := by decide +kernel
theorem dX11_run_84 : decode cX11_run 84 = .ok (.iaload, 1) := by decide +kernel
theorem dX11_run_85 : decode cX11_run 85 = .ok (.aload_n 0, 1) := by decide +kernel
theorem dX11_run_86 : decode cX11_run 86 = .ok (.getfield 32, 3) := by decide +kernel
theorem dX11_run_89 : decode cX11_run 89 = .ok (.iload 4, 2) := by decide +kernel
theorem dX11_run_91 : decode cX11_run 91 = .ok (.iconst 3, 1) := by decide +kernel
theorem dX11_run_92 : decode cX11_run 92 = .ok (.iadd, 1) := by decide +kernel
theorem dX11_run_93 : decode cX11_run 93 = .ok (.iaload, 1) := by decide +kernel
theorem dX11_run_94 : decode cX11_run 94 = .ok (.aload_n 0, 1) := by decide +kernel
theorem dX11_run_95 : decode cX11_run 95 = .ok (.getfield 32, 3) := by decide +kernel
theorem dX11_run_98 : decode cX11_run 98 = .ok (.iload 4, 2) := by decide +kernel
theorem dX11_run_100 : decode cX11_run 100 = .ok (.iconst 4, 1) := by decide +kernel
theorem dX11_run_101 : decode cX11_run 101 = .ok (.iadd, 1) := by decide +kernel
theorem dX11_run_102 : decode cX11_run 102 = .ok (.iaload, 1) := by decide +kernel
theorem dX11_run_103 : decode cX11_run 103 = .ok (.invokevirtual 100, 3) := by decide +kernel
theorem dX11_run_106 : decode cX11_run 106 = .ok (.iadd, 1) := by decide +kernel
theorem dX11_run_107 : decode cX11_run 107 = .ok (.putfield 132, 3) := by decide +kernel
theorem dX11_run_110 : decode cX11_run 110 = .ok (.aload_n 0, 1) := by decide +kernel
theorem dX11_run_111 : decode cX11_run 111 = .ok (.getfield 42, 3) := by decide +kernel
theorem dX11_run_114 : decode cX11_run 114 = .ok (.ifCond .eq 18, 3) := by decide +kernel
theorem dX11_run_117 : decode cX11_run 117 = .ok (.aload_n 0, 1) := by decide +kernel
theorem dX11_run_118 : decode cX11_run 118 = .ok (.getfield 129, 3) := by decide +kernel
theorem dX11_run_121 : decode cX11_run 121 = .ok (.aload_n 0, 1) := by decide +kernel
theorem dX11_run_122 : decode cX11_run 122 = .ok (.getfield 42, 3) := by decide +kernel
theorem dX11_run_125 : decode cX11_run 125 = .ok (.ishr, 1) := by decide +kernel
theorem dX11_run_126 : decode cX11_run 126 = .ok (.iconst 1, 1) := by decide +kernel
theorem dX11_run_127 : decode cX11_run 127 = .ok (.iand, 1) := by decide +kernel
theorem dX11_run_128 : decode cX11_run 128 = .ok (.iconst 1, 1) := by decide +kernel
theorem dX11_run_129 : decode cX11_run 129 = .ok (.if_icmp .ne 7, 3) := by decide +kernel
theorem dX11_run_132 : decode cX11_run 132 = .ok (.iconst 1, 1) := by decide +kernel
theorem dX11_run_133 : decode cX11_run 133 = .ok (.goto 4, 3) := by decide +kernel
theorem dX11_run_136 : decode cX11_run 136 = .ok (.iconst 0, 1) := by decide +kernel
theorem dX11_run_137 : decode cX11_run 137 = .ok (.istore_n 3, 1) := by decide +kernel
theorem dX11_run_138 : decode cX11_run 138 = .ok (.iload_n 3, 1) := by decide +kernel
theorem dX11_run_139 : decode cX11_run 139 = .ok (.ifCond .eq 11, 3) := by decide +kernel
theorem dX11_run_142 : decode cX11_run 142 = .ok (.aload_n 0, 1) := by decide +kernel
theorem dX11_run_143 : decode cX11_run 143 = .ok (.iconst 0, 1) := by decide +kernel
theorem dX11_run_144 : decode cX11_run 144 = .ok (.putfield 42, 3) := by decide +kernel
theorem dX11_run_147 : decode cX11_run 147 = .ok (.iinc 2 1, 3) := by decide +kernel
theorem dX11_run_150 : decode cX11_run 150 = .ok (.goto (-115), 3) := by decide +kernel
theorem dX11_run_153 : decode cX11_run 153 = .ok (.iload_n 2, 1) := by decide +kernel
theorem dX11_run_154 : decode cX11_run 154 = .ok (.ireturn, 1) := by decide +kernel
theorem dX11_told_0 : decode cX11_told 0 = .ok (.iload_n 1, 1) := by decide +kernel
theorem dX11_told_1 : decode cX11_told 1 = .ok (.ifCond .ne 8, 3) := by decide +kernel
theorem dX11_told_4 : decode cX11_told 4 = .ok (.aload_n 0, 1) := by decide +kernel
theorem dX11_told_5 : decode cX11_told 5 = .ok (.getfield 42, 3) := by decide +kernel
theorem dX11_told_8 : decode cX11_told 8 = .ok (.ireturn, 1) := by decide +kernel
theorem dX11_told_9 : decode cX11_told 9 = .ok (.iload_n 1, 1) := by decide +kernel
theorem dX11_told_10 : decode cX11_told 10 = .ok (.ifCond .le 16, 3) := by decide +kernel
theorem dX11_told_13 : decode cX11_told 13 = .ok (.iload_n 1, 1) := by decide +kernel
theorem dX11_told_14 : decode cX11_told 14 = .ok (.bipush 6, 2) := by decide +kernel
theorem dX11_told_16 : decode cX11_told 16 = .ok (.if_icmp .ge 10, 3) := by decide +kernel
theorem dX11_told_19 : decode cX11_told 19 = .ok (.aload_n 0, 1) := by decide +kernel
theorem dX11_told_20 : decode cX11_told 20 = .ok (.getfield 35, 3) := by decide +kernel
theorem dX11_told_23 : decode cX11_told 23 = .ok (.iload_n 1, 1) := by decide +kernel
theorem dX11_told_24 : decode cX11_told 24 = .ok (.iaload, 1) := by decide +kernel
theorem dX11_told_25 : decode cX11_told 25 = .ok (.ireturn, 1) := by decide +kernel
theorem dX11_told_26 : decode cX11_told 26 = .ok (.iload_n 1, 1) := by decide +kernel
theorem dX11_told_27 : decode cX11_told 27 = .ok (.bipush 6, 2) := by decide +kernel
theorem dX11_told_29 : decode cX11_told 29 = .ok (.if_icmp .ne 8, 3) := by decide +kernel
theorem dX11_told_32 : decode cX11_told 32 = .ok (.aload_n 0, 1) := by decide +kernel
theorem dX11_told_33 : decode cX11_told 33 = .ok (.getfield 61, 3) := by decide +kernel
theorem dX11_told_36 : decode cX11_told 36 = .ok (.ireturn, 1) := by decide +kernel
theorem dX11_told_37 : decode cX11_told 37 = .ok (.iload_n 1, 1) := by decide +kernel
theorem dX11_told_38 : decode cX11_told 38 = .ok (.bipush 7, 2) := by decide +kernel
theorem dX11_told_40 : decode cX11_told 40 = .ok (.if_icmp .ne 8, 3) := by decide +kernel
theorem dX11_told_43 : decode cX11_told 43 = .ok (.aload_n 0, 1) := by decide +kernel
theorem dX11_told_44 : decode cX11_told 44 = .ok (.getfield 126, 3) := by decide +kernel
theorem dX11_told_47 : decode cX11_told 47 = .ok (.ireturn, 1) := by decide +kernel
theorem dX11_told_48 : decode cX11_told 48 = .ok (.iload_n 1, 1) := by decide +kernel
theorem dX11_told_49 : decode cX11_told 49 = .ok (.bipush 8, 2) := by decide +kernel
theorem dX11_told_51 : decode cX11_told 51 = .ok (.if_icmp .ne 8, 3) := by decide +kernel
theorem dX11_told_54 : decode cX11_told 54 = .ok (.aload_n 0, 1) := by decide +kernel
theorem dX11_told_55 : decode cX11_told 55 = .ok (.getfield 132, 3) := by decide +kernel
theorem dX11_told_58 : decode cX11_told 58 = .ok (.ireturn, 1) := by decide +kernel
theorem dX11_told_59 : decode cX11_told 59 = .ok (.iload_n 1, 1) := by decide +kernel
theorem dX11_told_60 : decode cX11_told 60 = .ok (.bipush 9, 2) := by decide +kernel
theorem dX11_told_62 : decode cX11_told 62 = .ok (.if_icmp .ne 10, 3) := by decide +kernel
theorem dX11_told_65 : decode cX11_told 65 = .ok (.aload_n 0, 1) := by decide +kernel
theorem dX11_told_66 : decode cX11_told 66 = .ok (.getfield 123, 3) := by decide +kernel
theorem dX11_told_69 : decode cX11_told 69 = .ok (.goto 5, 3) := by decide +kernel
theorem dX11_told_72 : decode cX11_told 72 = .ok (.ldc 50, 2) := by decide +kernel
theorem dX11_told_74 : decode cX11_told 74 = .ok (.ireturn, 1) := by decide +kernel
abbrev vwCl : List vw_C := [(RX0, TX0, 5), (RX1, TX1, 5), (RX2, TX2, 2), (RX4, TX4, 2), (RX5, TX5, 2), (RX6, TX6, 3), (RX7, TX7, 2), (RX8, TX8, 2), (RX9, TX9, 3), (RX10, TX10, 8), (RX11, TX11, 18)]

/-! names: R_ a name, T_ its fields by slots, ty_ their types; y_, b_ a method and its bytes -/
abbrev R_po : String := "PacketOrder"
def T_po : u_T := fun k => match k with
  | 0 => ("PacketOrder", "x0", "I", false)
  | 1 => ("PacketOrder", "y0", "I", false)
  | 2 => ("PacketOrder", "x1", "I", false)
  | 3 => ("PacketOrder", "y1", "I", false)
  | 4 => ("PacketOrder", "hasTile", "Z", false)
  | 5 => ("PacketOrder", "components", "Ljava/util/ArrayList;", true)
  | 6 => ("PacketOrder", "layerCount", "I", false)
  | 7 => ("PacketOrder", "own", "LPacketOrder$Change;", false)
  | 8 => ("PacketOrder", "changes", "Ljava/util/ArrayList;", true)
  | 9 => ("PacketOrder", "hasSequence", "Z", false)
  | 10 => ("PacketOrder", "changeNow", "I", false)
  | 11 => ("PacketOrder", "changeOfLast", "I", false)
  | _ => ("PacketOrder", "row", "LPacketOrder$Row;", true)
def ty_po : Nat → FieldType := fun k => match k with
  | 0 => .int
  | 1 => .int
  | 2 => .int
  | 3 => .int
  | 4 => .boolean
  | 5 => .object "java/util/ArrayList"
  | 6 => .int
  | 7 => .object "PacketOrder$Change"
  | 8 => .object "java/util/ArrayList"
  | 9 => .boolean
  | 10 => .int
  | 11 => .int
  | _ => .object "PacketOrder$Row"
theorem nm_po : ∀ a, a < 13 → ∀ b, b < 13 → a ≠ b → (T_po a).2.1 ≠ (T_po b).2.1 := by decide +kernel
theorem tyok_po : ∀ k, k < 13 → parseFieldDescriptor (T_po k).2.2.1 = some (ty_po k) := by decide +kernel
theorem in_po : ∀ w ∈ u_ws R_po T_po 13, w ∈ TB := tb_all _ [143, 145, 147, 149, 151, 153, 155, 157, 159, 161, 163, 165, 167] (by decide +kernel) (by decide +kernel)
abbrev R_ch : String := "PacketOrder$Change"
def T_ch : u_T := fun k => match k with
  | 0 => ("PacketOrder$Change", "firstLevel", "I", true)
  | 1 => ("PacketOrder$Change", "levelEnd", "I", true)
  | 2 => ("PacketOrder$Change", "firstComponent", "I", true)
  | 3 => ("PacketOrder$Change", "componentEnd", "I", true)
  | 4 => ("PacketOrder$Change", "layerEnd", "I", true)
  | _ => ("PacketOrder$Change", "order", "I", true)
def ty_ch : Nat → FieldType := fun k => match k with
  | 0 => .int
  | 1 => .int
  | 2 => .int
  | 3 => .int
  | 4 => .int
  | _ => .int
theorem nm_ch : ∀ a, a < 6 → ∀ b, b < 6 → a ≠ b → (T_ch a).2.1 ≠ (T_ch b).2.1 := by decide +kernel
theorem tyok_ch : ∀ k, k < 6 → parseFieldDescriptor (T_ch k).2.2.1 = some (ty_ch k) := by decide +kernel
theorem in_ch : ∀ w ∈ u_ws R_ch T_ch 6, w ∈ TB := tb_all _ [117, 119, 121, 123, 125, 127] (by decide +kernel) (by decide +kernel)
abbrev R_co : String := "PacketOrder$Component"
def T_co : u_T := fun k => match k with
  | _ => ("PacketOrder$Component", "levels", "[LPacketOrder$Level;", true)
def ty_co : Nat → FieldType := fun k => match k with
  | _ => .array (.object "PacketOrder$Level")
theorem nm_co : ∀ a, a < 1 → ∀ b, b < 1 → a ≠ b → (T_co a).2.1 ≠ (T_co b).2.1 := by decide +kernel
theorem tyok_co : ∀ k, k < 1 → parseFieldDescriptor (T_co k).2.2.1 = some (ty_co k) := by decide +kernel
theorem in_co : ∀ w ∈ u_ws R_co T_co 1, w ∈ TB := tb_all _ [356] (by decide +kernel) (by decide +kernel)
abbrev R_le : String := "PacketOrder$Level"
def T_le : u_T := fun k => match k with
  | 0 => ("PacketOrder$Level", "owner", "I", true)
  | 1 => ("PacketOrder$Level", "number", "I", true)
  | 2 => ("PacketOrder$Level", "across", "LPacketOrder$Span;", true)
  | 3 => ("PacketOrder$Level", "down", "LPacketOrder$Span;", true)
  | _ => ("PacketOrder$Level", "firstPrecinct", "I", false)
def ty_le : Nat → FieldType := fun k => match k with
  | 0 => .int
  | 1 => .int
  | 2 => .object "PacketOrder$Span"
  | 3 => .object "PacketOrder$Span"
  | _ => .int
theorem nm_le : ∀ a, a < 5 → ∀ b, b < 5 → a ≠ b → (T_le a).2.1 ≠ (T_le b).2.1 := by decide +kernel
theorem tyok_le : ∀ k, k < 5 → parseFieldDescriptor (T_le k).2.2.1 = some (ty_le k) := by decide +kernel
theorem in_le : ∀ w ∈ u_ws R_le T_le 5, w ∈ TB := tb_all _ [343, 345, 347, 349, 351] (by decide +kernel) (by decide +kernel)
abbrev R_ro : String := "PacketOrder$Row"
def T_ro : u_T := fun k => match k with
  | 0 => ("PacketOrder$Row", "layersCome", "[I", false)
  | 1 => ("PacketOrder$Row", "keys", "[J", false)
  | 2 => ("PacketOrder$Row", "spare", "[J", false)
  | 3 => ("PacketOrder$Row", "size", "I", false)
  | 4 => ("PacketOrder$Row", "layerEnd", "I", false)
  | 5 => ("PacketOrder$Row", "groupStart", "I", false)
  | 6 => ("PacketOrder$Row", "groupEnd", "I", false)
  | 7 => ("PacketOrder$Row", "layer", "I", false)
  | 8 => ("PacketOrder$Row", "at", "I", false)
  | _ => ("PacketOrder$Row", "last", "I", false)
def ty_ro : Nat → FieldType := fun k => match k with
  | 0 => .array (.int)
  | 1 => .array (.long)
  | 2 => .array (.long)
  | 3 => .int
  | 4 => .int
  | 5 => .int
  | 6 => .int
  | 7 => .int
  | 8 => .int
  | _ => .int
theorem nm_ro : ∀ a, a < 10 → ∀ b, b < 10 → a ≠ b → (T_ro a).2.1 ≠ (T_ro b).2.1 := by decide +kernel
theorem tyok_ro : ∀ k, k < 10 → parseFieldDescriptor (T_ro k).2.2.1 = some (ty_ro k) := by decide +kernel
theorem in_ro : ∀ w ∈ u_ws R_ro T_ro 10, w ∈ TB := tb_all _ [76, 78, 80, 82, 84, 86, 88, 90, 92, 94] (by decide +kernel) (by decide +kernel)
abbrev R_sp : String := "PacketOrder$Span"
def T_sp : u_T := fun k => match k with
  | 0 => ("PacketOrder$Span", "step", "I", true)
  | 1 => ("PacketOrder$Span", "halvings", "I", true)
  | 2 => ("PacketOrder$Span", "exponent", "I", false)
  | 3 => ("PacketOrder$Span", "tileStart", "I", false)
  | 4 => ("PacketOrder$Span", "first", "I", false)
  | _ => ("PacketOrder$Span", "count", "I", false)
def ty_sp : Nat → FieldType := fun k => match k with
  | 0 => .int
  | 1 => .int
  | 2 => .int
  | 3 => .int
  | 4 => .int
  | _ => .int
theorem nm_sp : ∀ a, a < 6 → ∀ b, b < 6 → a ≠ b → (T_sp a).2.1 ≠ (T_sp b).2.1 := by decide +kernel
theorem tyok_sp : ∀ k, k < 6 → parseFieldDescriptor (T_sp k).2.2.1 = some (ty_sp k) := by decide +kernel
theorem in_sp : ∀ w ∈ u_ws R_sp T_sp 6, w ∈ TB := tb_all _ [316, 318, 320, 322, 324, 326] (by decide +kernel) (by decide +kernel)
abbrev R_mo : String := "PacketOrderModel"
def T_mo : u_T := fun k => match k with
  | 0 => ("PacketOrderModel", "thrown", "I", false)
  | 1 => ("PacketOrderModel", "tiled", "Z", false)
  | 2 => ("PacketOrderModel", "tx0", "I", false)
  | 3 => ("PacketOrderModel", "ty0", "I", false)
  | 4 => ("PacketOrderModel", "tx1", "I", false)
  | 5 => ("PacketOrderModel", "ty1", "I", false)
  | 6 => ("PacketOrderModel", "components", "I", false)
  | 7 => ("PacketOrderModel", "stepX", "[I", true)
  | 8 => ("PacketOrderModel", "stepY", "[I", true)
  | 9 => ("PacketOrderModel", "levels", "[I", true)
  | 10 => ("PacketOrderModel", "wide", "[I", true)
  | 11 => ("PacketOrderModel", "high", "[I", true)
  | 12 => ("PacketOrderModel", "layers", "I", false)
  | 13 => ("PacketOrderModel", "own", "I", false)
  | 14 => ("PacketOrderModel", "changes", "I", false)
  | 15 => ("PacketOrderModel", "change", "[I", true)
  | 16 => ("PacketOrderModel", "sequence", "Z", false)
  | 17 => ("PacketOrderModel", "many", "I", false)
  | 18 => ("PacketOrderModel", "componentOf", "[I", true)
  | 19 => ("PacketOrderModel", "levelOf", "[I", true)
  | 20 => ("PacketOrderModel", "numberOf", "[I", true)
  | 21 => ("PacketOrderModel", "placeX", "[J", true)
  | 22 => ("PacketOrderModel", "placeY", "[J", true)
  | 23 => ("PacketOrderModel", "cameOf", "[I", true)
  | 24 => ("PacketOrderModel", "sorted", "[I", true)
  | 25 => ("PacketOrderModel", "now", "I", false)
  | 26 => ("PacketOrderModel", "layer", "I", false)
  | 27 => ("PacketOrderModel", "groupEnd", "I", false)
  | 28 => ("PacketOrderModel", "group", "I", false)
  | 29 => ("PacketOrderModel", "next", "I", false)
  | 30 => ("PacketOrderModel", "came", "Z", false)
  | 31 => ("PacketOrderModel", "lastOne", "I", false)
  | 32 => ("PacketOrderModel", "lastLayer", "I", false)
  | 33 => ("PacketOrderModel", "lastChange", "I", false)
  | 34 => ("PacketOrderModel", "x0", "I", false)
  | 35 => ("PacketOrderModel", "y0", "I", false)
  | 36 => ("PacketOrderModel", "x1", "I", false)
  | _ => ("PacketOrderModel", "y1", "I", false)
def ty_mo : Nat → FieldType := fun k => match k with
  | 0 => .int
  | 1 => .boolean
  | 2 => .int
  | 3 => .int
  | 4 => .int
  | 5 => .int
  | 6 => .int
  | 7 => .array (.int)
  | 8 => .array (.int)
  | 9 => .array (.int)
  | 10 => .array (.int)
  | 11 => .array (.int)
  | 12 => .int
  | 13 => .int
  | 14 => .int
  | 15 => .array (.int)
  | 16 => .boolean
  | 17 => .int
  | 18 => .array (.int)
  | 19 => .array (.int)
  | 20 => .array (.int)
  | 21 => .array (.long)
  | 22 => .array (.long)
  | 23 => .array (.int)
  | 24 => .array (.int)
  | 25 => .int
  | 26 => .int
  | 27 => .int
  | 28 => .int
  | 29 => .int
  | 30 => .boolean
  | 31 => .int
  | 32 => .int
  | 33 => .int
  | 34 => .int
  | 35 => .int
  | 36 => .int
  | _ => .int
theorem nm_mo : ∀ a, a < 38 → ∀ b, b < 38 → a ≠ b → (T_mo a).2.1 ≠ (T_mo b).2.1 := by decide +kernel
theorem tyok_mo : ∀ k, k < 38 → parseFieldDescriptor (T_mo k).2.2.1 = some (ty_mo k) := by decide +kernel
theorem in_mo : ∀ w ∈ u_ws R_mo T_mo 38, w ∈ TB := tb_all _ [704, 706, 708, 710, 712, 714, 716, 718, 720, 722, 724, 726, 728, 730, 732, 734, 736, 738, 740, 742, 744, 746, 748, 750, 752, 754, 756, 758, 760, 762, 764, 766, 768, 770, 772, 774, 776, 778] (by decide +kernel) (by decide +kernel)
abbrev R_al : String := "java/util/ArrayList"
def T_al : u_T := fun k => match k with
  | 0 => ("java/util/AbstractList", "modCount", "I", false)
  | 1 => ("java/util/ArrayList", "elementData", "[Ljava/lang/Object;", false)
  | _ => ("java/util/ArrayList", "size", "I", false)
def ty_al : Nat → FieldType := fun k => match k with
  | 0 => .int
  | 1 => .array (.object "java/lang/Object")
  | _ => .int
theorem nm_al : ∀ a, a < 3 → ∀ b, b < 3 → a ≠ b → (T_al a).2.1 ≠ (T_al b).2.1 := by decide +kernel
theorem tyok_al : ∀ k, k < 3 → parseFieldDescriptor (T_al k).2.2.1 = some (ty_al k) := by decide +kernel
theorem in_al : ∀ w ∈ u_ws R_al T_al 3, w ∈ TB := tb_all _ [55, 51, 53] (by decide +kernel) (by decide +kernel)
abbrev CL : List vw_C := [(R_po, T_po, 13), (R_ch, T_ch, 6), (R_co, T_co, 1), (R_le, T_le, 5), (R_ro, T_ro, 10), (R_sp, T_sp, 6), (R_mo, T_mo, 38), (R_al, T_al, 3)]

def tyX1 : Nat → FieldType := fun k => match k with
  | 0 => .int
  | 1 => .array .int
  | 2 => .array .int
  | 3 => .array .int
  | 4 => .array .int
  | _ => .array .int
theorem nmX1 : ∀ a, a < 6 → ∀ b, b < 6 → a ≠ b → (TX1 a).2.1 ≠ (TX1 b).2.1 := by decide +kernel
theorem tyX1_ok : ∀ k, k < 6 → parseFieldDescriptor (TX1 k).2.2.1 = some (tyX1 k) := by decide +kernel
abbrev cX1_add : ByteArray := prog_3_method_3_code
def yX1_add : MethodName := ⟨RX1, "add", "(IIII)I"⟩
abbrev cX6_hold : ByteArray := prog_8_method_8_code
def yX6_hold : MethodName := ⟨RX6, "hold", "(III)V"⟩
abbrev cX6_release : ByteArray := prog_8_method_9_code
def yX6_release : MethodName := ⟨RX6, "release", "(I)V"⟩
abbrev cX6_reserveFor : ByteArray := prog_8_method_10_code
def yX6_reserveFor : MethodName := ⟨RX6, "reserveFor", "(I)V"⟩
abbrev cX6_shipOrder : ByteArray := prog_8_method_13_code
def yX6_shipOrder : MethodName := ⟨RX6, "shipOrder", "(I)V"⟩
abbrev cX6_waste : ByteArray := prog_8_method_19_code
def yX6_waste : MethodName := ⟨RX6, "waste", "(II)V"⟩
def tyX7 : Nat → FieldType := fun k => match k with
  | 0 => .int
  | 1 => .array .int
  | 2 => .array .int
  | 3 => .array .int
  | 4 => .array .int
  | 5 => .array .int
  | _ => .array .int
theorem nmX7 : ∀ a, a < 7 → ∀ b, b < 7 → a ≠ b → (TX7 a).2.1 ≠ (TX7 b).2.1 := by decide +kernel
theorem tyX7_ok : ∀ k, k < 7 → parseFieldDescriptor (TX7 k).2.2.1 = some (tyX7 k) := by decide +kernel
abbrev cX7_add : ByteArray := prog_9_method_4_code
def yX7_add : MethodName := ⟨RX7, "add", "(IIIII)V"⟩
def wsX1_add : List Cond := .code yX1_add cX1_add 5 (some .int) :: ([.fieldLink RX1 27 "Granary$Lots" "count" "I", .fieldLink RX1 9 "Granary$Lots" "item" "[I", .fieldLink RX1 15 "Granary$Lots" "site" "[I", .fieldLink RX1 18 "Granary$Lots" "units" "[I", .fieldLink RX1 21 "Granary$Lots" "reserved" "[I", .fieldLink RX1 24 "Granary$Lots" "last" "[I"] ++ wsX10)
def wsX6_hold : List Cond := .code yX6_hold cX6_hold 4 none :: ([.fieldLink RX6 42 "Granary$Stock" "orders" "LGranary$Orders;", .fieldLink RX6 141 "Granary$Orders" "held" "[I", .fieldLink RX6 144 "Granary$Orders" "reserved" "[I", .fieldLink RX6 35 "Granary$Stock" "lots" "LGranary$Lots;", .fieldLink RX6 147 "Granary$Lots" "reserved" "[I"] ++ wsX60 ++ wsX20 ++ wsX10)
def wsX6_release : List Cond := .code yX6_release cX6_release 3 none :: ([.fieldLink RX6 35 "Granary$Stock" "lots" "LGranary$Lots;", .fieldLink RX6 148 "Granary$Lots" "count" "I", .fieldLink RX6 42 "Granary$Stock" "orders" "LGranary$Orders;", .methodLink RX6 151 yX2_heldOf, .instanceMethod yX2_heldOf, .selects RX2 yX2_heldOf yX2_heldOf, .initialized RX2, .code yX2_heldOf cX2_heldOf 3 (some .int), .fieldLink RX2 39 "Granary$Orders" "held" "[I", .methodLink RX6 154 yX6_hold, .instanceMethod yX6_hold, .selects RX6 yX6_hold yX6_hold, .initialized RX6, .code yX6_hold cX6_hold 4 none, .fieldLink RX6 141 "Granary$Orders" "held" "[I", .fieldLink RX6 144 "Granary$Orders" "reserved" "[I", .fieldLink RX6 147 "Granary$Lots" "reserved" "[I"] ++ wsX60 ++ wsX10 ++ wsX20)
def wsX6_reserveFor_r1 : List Cond := [Cond.fieldLink RX6 42 "Granary$Stock" "orders" "LGranary$Orders;", Cond.fieldLink RX6 158 "Granary$Orders" "due" "[I", Cond.fieldLink RX6 60 "Granary$Stock" "day" "I", Cond.methodLink RX6 123 Lib.Math.max.name, Cond.static Lib.Math.max.name, Cond.initialized "java/lang/Math", Cond.code Lib.Math.max.name Lib.Math.max.code 2 (some .int), Cond.fieldLink RX6 161 "Granary$Orders" "keep" "[I", Cond.fieldLink RX6 35 "Granary$Stock" "lots" "LGranary$Lots;", Cond.fieldLink RX6 167 "Granary$Orders" "item" "[I", Cond.fieldLink RX6 170 "Granary$Orders" "site" "[I", Cond.methodLink RX6 134 Lib.Math.min.name, Cond.static Lib.Math.min.name, Cond.code Lib.Math.min.name Lib.Math.min.code 2 (some .int), Cond.methodLink RX6 164 yX2_missing, Cond.instanceMethod yX2_missing, Cond.selects RX2 yX2_missing yX2_missing, Cond.initialized RX2, Cond.code yX2_missing cX2_missing 2 (some .int), Cond.fieldLink RX2 18 "Granary$Orders" "units" "[I", Cond.fieldLink RX2 21 "Granary$Orders" "reserved" "[I", Cond.methodLink RX6 173 yX1_firstFree, Cond.instanceMethod yX1_firstFree, Cond.selects RX1 yX1_firstFree yX1_firstFree]
def wsX6_reserveFor_r2 : List Cond := [Cond.initialized RX1, Cond.code yX1_firstFree cX1_firstFree 6 (some .int), Cond.fieldLink RX1 27 "Granary$Lots" "count" "I", Cond.fieldLink RX1 9 "Granary$Lots" "item" "[I", Cond.fieldLink RX1 15 "Granary$Lots" "site" "[I", Cond.fieldLink RX1 24 "Granary$Lots" "last" "[I", Cond.methodLink RX1 39 yX1_freeOf, Cond.instanceMethod yX1_freeOf, Cond.selects RX1 yX1_freeOf yX1_freeOf, Cond.code yX1_freeOf cX1_freeOf 2 (some .int), Cond.fieldLink RX1 18 "Granary$Lots" "units" "[I", Cond.fieldLink RX1 21 "Granary$Lots" "reserved" "[I", Cond.methodLink RX6 177 yX1_freeOf, Cond.methodLink RX6 154 yX6_hold, Cond.instanceMethod yX6_hold, Cond.selects RX6 yX6_hold yX6_hold, Cond.initialized RX6, Cond.code yX6_hold cX6_hold 4 none, Cond.fieldLink RX6 141 "Granary$Orders" "held" "[I", Cond.fieldLink RX6 144 "Granary$Orders" "reserved" "[I", Cond.fieldLink RX6 147 "Granary$Lots" "reserved" "[I"]
def wsX6_reserveFor : List Cond := .code yX6_reserveFor cX6_reserveFor 5 none :: ((wsX6_reserveFor_r1 ++ wsX6_reserveFor_r2) ++ wsX60 ++ wsX20 ++ wsX10)
def wsX6_shipOrder_r1 : List Cond := [Cond.fieldLink RX6 35 "Granary$Stock" "lots" "LGranary$Lots;", Cond.fieldLink RX6 148 "Granary$Lots" "count" "I", Cond.fieldLink RX6 42 "Granary$Stock" "orders" "LGranary$Orders;", Cond.fieldLink RX6 195 "Granary$Lots" "units" "[I", Cond.fieldLink RX6 189 "Granary$Orders" "state" "[I", Cond.fieldLink RX6 198 "Granary$Orders" "shipDay" "[I", Cond.fieldLink RX6 60 "Granary$Stock" "day" "I", Cond.fieldLink RX6 167 "Granary$Orders" "item" "[I", Cond.fieldLink RX6 201 "Granary$Orders" "units" "[I", Cond.fieldLink RX6 12 "Granary$Stock" "items" "LGranary$Items;", Cond.fieldLink RX6 53 "Granary$Stock" "account" "[I", Cond.fieldLink RX6 206 "Granary$Items" "earned" "[I", Cond.methodLink RX6 151 yX2_heldOf, Cond.instanceMethod yX2_heldOf, Cond.selects RX2 yX2_heldOf yX2_heldOf, Cond.initialized RX2, Cond.code yX2_heldOf cX2_heldOf 3 (some .int), Cond.fieldLink RX2 39 "Granary$Orders" "held" "[I", Cond.methodLink RX6 154 yX6_hold, Cond.instanceMethod yX6_hold, Cond.selects RX6 yX6_hold yX6_hold, Cond.initialized RX6, Cond.code yX6_hold cX6_hold 4 none, Cond.fieldLink RX6 141 "Granary$Orders" "held" "[I"]
def wsX6_shipOrder_r2 : List Cond := [Cond.fieldLink RX6 144 "Granary$Orders" "reserved" "[I", Cond.fieldLink RX6 147 "Granary$Lots" "reserved" "[I", Cond.methodLink RX6 202 yX0_priceOf, Cond.instanceMethod yX0_priceOf, Cond.selects RX0 yX0_priceOf yX0_priceOf, Cond.initialized RX0, Cond.code yX0_priceOf cX0_priceOf 2 (some .int), Cond.fieldLink RX0 15 "Granary$Items" "price" "[I", Cond.methodLink RX0 28 yX0_has, Cond.instanceMethod yX0_has, Cond.selects RX0 yX0_has yX0_has, Cond.code yX0_has cX0_has 2 (some .boolean), Cond.fieldLink RX0 24 "Granary$Items" "count" "I", Cond.methodLink RX6 205 yX0_has]
def wsX6_shipOrder : List Cond := .code yX6_shipOrder cX6_shipOrder 4 none :: ((wsX6_shipOrder_r1 ++ wsX6_shipOrder_r2) ++ wsX60 ++ wsX10 ++ wsX20 ++ wsX00)
def wsX7_add : List Cond := .code yX7_add cX7_add 6 none :: ([.fieldLink RX7 9 "Granary$Transports" "item" "[I", .fieldLink RX7 30 "Granary$Transports" "count" "I", .fieldLink RX7 15 "Granary$Transports" "site" "[I", .fieldLink RX7 18 "Granary$Transports" "units" "[I", .fieldLink RX7 21 "Granary$Transports" "arrival" "[I", .fieldLink RX7 24 "Granary$Transports" "last" "[I", .fieldLink RX7 27 "Granary$Transports" "moving" "[I", .methodLink RX7 34 yX7_full, .instanceMethod yX7_full, .selects RX7 yX7_full yX7_full, .initialized RX7, .code yX7_full cX7_full 1 (some .boolean)] ++ wsX70)
def wsX6_waste : List Cond := .code yX6_waste cX6_waste 3 none :: ([.fieldLink RX6 53 "Granary$Stock" "account" "[I", .fieldLink RX6 12 "Granary$Stock" "items" "LGranary$Items;", .methodLink RX6 202 yX0_priceOf, .instanceMethod yX0_priceOf, .selects RX0 yX0_priceOf yX0_priceOf, .initialized RX0, .code yX0_priceOf cX0_priceOf 2 (some .int), .fieldLink RX0 15 "Granary$Items" "price" "[I", .methodLink RX0 28 yX0_has, .instanceMethod yX0_has, .selects RX0 yX0_has yX0_has, .code yX0_has cX0_has 2 (some .boolean), .fieldLink RX0 24 "Granary$Items" "count" "I"] ++ wsX60 ++ wsX00)

def tyX0 : Nat → FieldType := fun k => match k with
  | 0 => .int
  | 1 => .array .int
  | 2 => .array .int
  | 3 => .array .int
  | _ => .array .int
theorem nmX0 : ∀ a, a < 5 → ∀ b, b < 5 → a ≠ b → (TX0 a).2.1 ≠ (TX0 b).2.1 := by decide +kernel
theorem tyX0_ok : ∀ k, k < 5 → parseFieldDescriptor (TX0 k).2.2.1 = some (tyX0 k) := by decide +kernel
abbrev cX0_becomeLike : ByteArray := prog_2_method_7_code
def yX0_becomeLike : MethodName := ⟨RX0, "becomeLike", "(LGranary$Items;)V"⟩
abbrev cX1_becomeLike : ByteArray := prog_3_method_12_code
def yX1_becomeLike : MethodName := ⟨RX1, "becomeLike", "(LGranary$Lots;)V"⟩
def tyX2 : Nat → FieldType := fun k => match k with
  | 0 => .int
  | 1 => .array .int
  | 2 => .array .int
  | 3 => .array .int
  | 4 => .array .int
  | 5 => .array .int
  | 6 => .array .int
  | 7 => .array .int
  | 8 => .array .int
  | 9 => .array .int
  | _ => .array .int
theorem nmX2 : ∀ a, a < 11 → ∀ b, b < 11 → a ≠ b → (TX2 a).2.1 ≠ (TX2 b).2.1 := by decide +kernel
theorem tyX2_ok : ∀ k, k < 11 → parseFieldDescriptor (TX2 k).2.2.1 = some (tyX2 k) := by decide +kernel
abbrev cX2_becomeLike : ByteArray := prog_4_method_13_code
def yX2_becomeLike : MethodName := ⟨RX2, "becomeLike", "(LGranary$Orders;)V"⟩
abbrev cX4_becomeLike : ByteArray := prog_6_method_4_code
def yX4_becomeLike : MethodName := ⟨RX4, "becomeLike", "(LGranary$Policies;)V"⟩
def tyX5 : Nat → FieldType := fun k => match k with
  | 0 => .int
  | 1 => .array .int
  | _ => .array .int
theorem nmX5 : ∀ a, a < 3 → ∀ b, b < 3 → a ≠ b → (TX5 a).2.1 ≠ (TX5 b).2.1 := by decide +kernel
theorem tyX5_ok : ∀ k, k < 3 → parseFieldDescriptor (TX5 k).2.2.1 = some (tyX5 k) := by decide +kernel
abbrev cX5_becomeLike : ByteArray := prog_7_method_5_code
def yX5_becomeLike : MethodName := ⟨RX5, "becomeLike", "(LGranary$Sites;)V"⟩
abbrev cX6_becomeLike : ByteArray := prog_8_method_2_code
def yX6_becomeLike : MethodName := ⟨RX6, "becomeLike", "(LGranary$Stock;)V"⟩
abbrev cX7_becomeLike : ByteArray := prog_9_method_7_code
def yX7_becomeLike : MethodName := ⟨RX7, "becomeLike", "(LGranary$Transports;)V"⟩
def wsX0_becomeLike : List Cond := .code yX0_becomeLike cX0_becomeLike 2 none :: ([.fieldLink RX0 24 "Granary$Items" "count" "I", .fieldLink RX0 9 "Granary$Items" "life" "[I", .methodLink RX0 32 arraycopyName, .native arraycopyName, .static arraycopyName, .initialized "java/lang/System", .fieldLink RX0 15 "Granary$Items" "price" "[I", .fieldLink RX0 18 "Granary$Items" "pack" "[I", .fieldLink RX0 21 "Granary$Items" "earned" "[I"] ++ wsX00)
def wsX1_becomeLike : List Cond := .code yX1_becomeLike cX1_becomeLike 2 none :: ([.fieldLink RX1 27 "Granary$Lots" "count" "I", .fieldLink RX1 9 "Granary$Lots" "item" "[I", .methodLink RX1 43 arraycopyName, .native arraycopyName, .static arraycopyName, .initialized "java/lang/System", .fieldLink RX1 15 "Granary$Lots" "site" "[I", .fieldLink RX1 18 "Granary$Lots" "units" "[I", .fieldLink RX1 21 "Granary$Lots" "reserved" "[I", .fieldLink RX1 24 "Granary$Lots" "last" "[I"] ++ wsX10)
def wsX2_becomeLike : List Cond := .code yX2_becomeLike cX2_becomeLike 2 none :: ([.fieldLink RX2 42 "Granary$Orders" "count" "I", .fieldLink RX2 9 "Granary$Orders" "item" "[I", .methodLink RX2 50 arraycopyName, .native arraycopyName, .static arraycopyName, .initialized "java/lang/System", .fieldLink RX2 15 "Granary$Orders" "site" "[I", .fieldLink RX2 18 "Granary$Orders" "units" "[I", .fieldLink RX2 21 "Granary$Orders" "reserved" "[I", .fieldLink RX2 24 "Granary$Orders" "due" "[I", .fieldLink RX2 27 "Granary$Orders" "rank" "[I", .fieldLink RX2 30 "Granary$Orders" "keep" "[I", .fieldLink RX2 33 "Granary$Orders" "state" "[I", .fieldLink RX2 36 "Granary$Orders" "shipDay" "[I", .fieldLink RX2 39 "Granary$Orders" "held" "[I"] ++ wsX20)
def wsX4_becomeLike : List Cond := .code yX4_becomeLike cX4_becomeLike 3 none :: ([.fieldLink RX4 11 "Granary$Policies" "set" "[Z", .fieldLink RX4 15 "Granary$Policies" "point" "[I", .methodLink RX4 32 arraycopyName, .native arraycopyName, .static arraycopyName, .initialized "java/lang/System", .fieldLink RX4 19 "Granary$Policies" "top" "[I", .fieldLink RX4 22 "Granary$Policies" "source" "[I", .fieldLink RX4 25 "Granary$Policies" "lead" "[I"] ++ wsX40)
def wsX5_becomeLike : List Cond := .code yX5_becomeLike cX5_becomeLike 2 none :: ([.fieldLink RX5 18 "Granary$Sites" "count" "I", .fieldLink RX5 9 "Granary$Sites" "room" "[I", .methodLink RX5 30 arraycopyName, .native arraycopyName, .static arraycopyName, .initialized "java/lang/System", .fieldLink RX5 15 "Granary$Sites" "days" "[I"] ++ wsX50)
def wsX7_becomeLike : List Cond := .code yX7_becomeLike cX7_becomeLike 2 none :: ([.fieldLink RX7 30 "Granary$Transports" "count" "I", .fieldLink RX7 9 "Granary$Transports" "item" "[I", .methodLink RX7 38 arraycopyName, .native arraycopyName, .static arraycopyName, .initialized "java/lang/System", .fieldLink RX7 15 "Granary$Transports" "site" "[I", .fieldLink RX7 18 "Granary$Transports" "units" "[I", .fieldLink RX7 21 "Granary$Transports" "arrival" "[I", .fieldLink RX7 24 "Granary$Transports" "last" "[I", .fieldLink RX7 27 "Granary$Transports" "moving" "[I"] ++ wsX70)
def wsX6_becomeLike_r1 : List Cond := [Cond.fieldLink RX6 60 "Granary$Stock" "day" "I", Cond.fieldLink RX6 12 "Granary$Stock" "items" "LGranary$Items;", Cond.fieldLink RX6 21 "Granary$Stock" "sites" "LGranary$Sites;", Cond.fieldLink RX6 28 "Granary$Stock" "policies" "LGranary$Policies;", Cond.fieldLink RX6 35 "Granary$Stock" "lots" "LGranary$Lots;", Cond.fieldLink RX6 42 "Granary$Stock" "orders" "LGranary$Orders;", Cond.fieldLink RX6 49 "Granary$Stock" "transports" "LGranary$Transports;", Cond.fieldLink RX6 53 "Granary$Stock" "account" "[I", Cond.methodLink RX6 83 arraycopyName, Cond.native arraycopyName, Cond.static arraycopyName, Cond.initialized "java/lang/System", Cond.methodLink RX6 64 yX0_becomeLike, Cond.instanceMethod yX0_becomeLike, Cond.selects RX0 yX0_becomeLike yX0_becomeLike, Cond.initialized RX0, Cond.code yX0_becomeLike cX0_becomeLike 2 none, Cond.fieldLink RX0 24 "Granary$Items" "count" "I", Cond.fieldLink RX0 9 "Granary$Items" "life" "[I", Cond.methodLink RX0 32 arraycopyName, Cond.fieldLink RX0 15 "Granary$Items" "price" "[I", Cond.fieldLink RX0 18 "Granary$Items" "pack" "[I", Cond.fieldLink RX0 21 "Granary$Items" "earned" "[I", Cond.methodLink RX6 68 yX5_becomeLike]
def wsX6_becomeLike_r2 : List Cond := [Cond.instanceMethod yX5_becomeLike, Cond.selects RX5 yX5_becomeLike yX5_becomeLike, Cond.initialized RX5, Cond.code yX5_becomeLike cX5_becomeLike 2 none, Cond.fieldLink RX5 18 "Granary$Sites" "count" "I", Cond.fieldLink RX5 9 "Granary$Sites" "room" "[I", Cond.methodLink RX5 30 arraycopyName, Cond.fieldLink RX5 15 "Granary$Sites" "days" "[I", Cond.methodLink RX6 71 yX4_becomeLike, Cond.instanceMethod yX4_becomeLike, Cond.selects RX4 yX4_becomeLike yX4_becomeLike, Cond.initialized RX4, Cond.code yX4_becomeLike cX4_becomeLike 3 none, Cond.fieldLink RX4 11 "Granary$Policies" "set" "[Z", Cond.fieldLink RX4 15 "Granary$Policies" "point" "[I", Cond.methodLink RX4 32 arraycopyName, Cond.fieldLink RX4 19 "Granary$Policies" "top" "[I", Cond.fieldLink RX4 22 "Granary$Policies" "source" "[I", Cond.fieldLink RX4 25 "Granary$Policies" "lead" "[I", Cond.methodLink RX6 74 yX1_becomeLike, Cond.instanceMethod yX1_becomeLike, Cond.selects RX1 yX1_becomeLike yX1_becomeLike, Cond.initialized RX1, Cond.code yX1_becomeLike cX1_becomeLike 2 none]
def wsX6_becomeLike_r3 : List Cond := [Cond.fieldLink RX1 27 "Granary$Lots" "count" "I", Cond.fieldLink RX1 9 "Granary$Lots" "item" "[I", Cond.methodLink RX1 43 arraycopyName, Cond.fieldLink RX1 15 "Granary$Lots" "site" "[I", Cond.fieldLink RX1 18 "Granary$Lots" "units" "[I", Cond.fieldLink RX1 21 "Granary$Lots" "reserved" "[I", Cond.fieldLink RX1 24 "Granary$Lots" "last" "[I", Cond.methodLink RX6 77 yX2_becomeLike, Cond.instanceMethod yX2_becomeLike, Cond.selects RX2 yX2_becomeLike yX2_becomeLike, Cond.initialized RX2, Cond.code yX2_becomeLike cX2_becomeLike 2 none, Cond.fieldLink RX2 42 "Granary$Orders" "count" "I", Cond.fieldLink RX2 9 "Granary$Orders" "item" "[I", Cond.methodLink RX2 50 arraycopyName, Cond.fieldLink RX2 15 "Granary$Orders" "site" "[I", Cond.fieldLink RX2 18 "Granary$Orders" "units" "[I", Cond.fieldLink RX2 21 "Granary$Orders" "reserved" "[I", Cond.fieldLink RX2 24 "Granary$Orders" "due" "[I", Cond.fieldLink RX2 27 "Granary$Orders" "rank" "[I", Cond.fieldLink RX2 30 "Granary$Orders" "keep" "[I", Cond.fieldLink RX2 33 "Granary$Orders" "state" "[I", Cond.fieldLink RX2 36 "Granary$Orders" "shipDay" "[I", Cond.fieldLink RX2 39 "Granary$Orders" "held" "[I"]
def wsX6_becomeLike_r4 : List Cond := [Cond.methodLink RX6 80 yX7_becomeLike, Cond.instanceMethod yX7_becomeLike, Cond.selects RX7 yX7_becomeLike yX7_becomeLike, Cond.initialized RX7, Cond.code yX7_becomeLike cX7_becomeLike 2 none, Cond.fieldLink RX7 30 "Granary$Transports" "count" "I", Cond.fieldLink RX7 9 "Granary$Transports" "item" "[I", Cond.methodLink RX7 38 arraycopyName, Cond.fieldLink RX7 15 "Granary$Transports" "site" "[I", Cond.fieldLink RX7 18 "Granary$Transports" "units" "[I", Cond.fieldLink RX7 21 "Granary$Transports" "arrival" "[I", Cond.fieldLink RX7 24 "Granary$Transports" "last" "[I", Cond.fieldLink RX7 27 "Granary$Transports" "moving" "[I"]
def wsX6_becomeLike : List Cond := .code yX6_becomeLike cX6_becomeLike 2 none :: ((wsX6_becomeLike_r1 ++ (wsX6_becomeLike_r2 ++ (wsX6_becomeLike_r3 ++ wsX6_becomeLike_r4))) ++ wsX60 ++ wsX00 ++ wsX50 ++ wsX40 ++ wsX10 ++ wsX20 ++ wsX70)

abbrev cX0_init : ByteArray := prog_2_method_1_code
abbrev cX1_init : ByteArray := prog_3_method_1_code
abbrev cX2_init : ByteArray := prog_4_method_1_code
def tyX4 : Nat → FieldType := fun k => match k with
  | 0 => .array .boolean
  | 1 => .array .int
  | 2 => .array .int
  | 3 => .array .int
  | _ => .array .int
theorem nmX4 : ∀ a, a < 5 → ∀ b, b < 5 → a ≠ b → (TX4 a).2.1 ≠ (TX4 b).2.1 := by decide +kernel
theorem tyX4_ok : ∀ k, k < 5 → parseFieldDescriptor (TX4 k).2.2.1 = some (tyX4 k) := by decide +kernel
abbrev cX4_init : ByteArray := prog_6_method_1_code
abbrev cX5_init : ByteArray := prog_7_method_1_code
abbrev cX7_init : ByteArray := prog_9_method_1_code
def wsX0_init : List Cond := .code yX0_init cX0_init 1 none :: ([.methodLink RX0 3 objectInit, .instanceMethod objectInit, .code objectInit ⟨#[0xb1]⟩ 1 none, .arrayClass .int, .fieldLink RX0 9 "Granary$Items" "life" "[I", .fieldLink RX0 15 "Granary$Items" "price" "[I", .fieldLink RX0 18 "Granary$Items" "pack" "[I", .fieldLink RX0 21 "Granary$Items" "earned" "[I"] ++ wsX00)
def wsX1_init : List Cond := .code yX1_init cX1_init 1 none :: ([.methodLink RX1 3 objectInit, .instanceMethod objectInit, .code objectInit ⟨#[0xb1]⟩ 1 none, .arrayClass .int, .fieldLink RX1 9 "Granary$Lots" "item" "[I", .fieldLink RX1 15 "Granary$Lots" "site" "[I", .fieldLink RX1 18 "Granary$Lots" "units" "[I", .fieldLink RX1 21 "Granary$Lots" "reserved" "[I", .fieldLink RX1 24 "Granary$Lots" "last" "[I"] ++ wsX10)
def wsX2_init : List Cond := .code yX2_init cX2_init 1 none :: ([.methodLink RX2 3 objectInit, .instanceMethod objectInit, .code objectInit ⟨#[0xb1]⟩ 1 none, .arrayClass .int, .fieldLink RX2 9 "Granary$Orders" "item" "[I", .fieldLink RX2 15 "Granary$Orders" "site" "[I", .fieldLink RX2 18 "Granary$Orders" "units" "[I", .fieldLink RX2 21 "Granary$Orders" "reserved" "[I", .fieldLink RX2 24 "Granary$Orders" "due" "[I", .fieldLink RX2 27 "Granary$Orders" "rank" "[I", .fieldLink RX2 30 "Granary$Orders" "keep" "[I", .fieldLink RX2 33 "Granary$Orders" "state" "[I", .fieldLink RX2 36 "Granary$Orders" "shipDay" "[I", .fieldLink RX2 39 "Granary$Orders" "held" "[I"] ++ wsX20)
def wsX4_init : List Cond := .code yX4_init cX4_init 1 none :: ([.methodLink RX4 3 objectInit, .instanceMethod objectInit, .code objectInit ⟨#[0xb1]⟩ 1 none, .arrayClass .boolean, .fieldLink RX4 11 "Granary$Policies" "set" "[Z", .arrayClass .int, .fieldLink RX4 15 "Granary$Policies" "point" "[I", .fieldLink RX4 19 "Granary$Policies" "top" "[I", .fieldLink RX4 22 "Granary$Policies" "source" "[I", .fieldLink RX4 25 "Granary$Policies" "lead" "[I"] ++ wsX40)
def wsX5_init : List Cond := .code yX5_init cX5_init 1 none :: ([.methodLink RX5 3 objectInit, .instanceMethod objectInit, .code objectInit ⟨#[0xb1]⟩ 1 none, .arrayClass .int, .fieldLink RX5 9 "Granary$Sites" "room" "[I", .fieldLink RX5 15 "Granary$Sites" "days" "[I"] ++ wsX50)
def wsX7_init : List Cond := .code yX7_init cX7_init 1 none :: ([.methodLink RX7 3 objectInit, .instanceMethod objectInit, .code objectInit ⟨#[0xb1]⟩ 1 none, .arrayClass .int, .fieldLink RX7 9 "Granary$Transports" "item" "[I", .fieldLink RX7 15 "Granary$Transports" "site" "[I", .fieldLink RX7 18 "Granary$Transports" "units" "[I", .fieldLink RX7 21 "Granary$Transports" "arrival" "[I", .fieldLink RX7 24 "Granary$Transports" "last" "[I", .fieldLink RX7 27 "Granary$Transports" "moving" "[I"] ++ wsX70)

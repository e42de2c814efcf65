theorem goodIn_q {big : List Cond} (ws : List Cond) (ps qs : List Nat) (hp : ws.filter k2_isCode = ps.filterMap (fun i => big[i]?)) (hq : ws.filter (fun w => !k2_isCode w) = qs.filterMap (fun i => big[i]?)) (h : ws.all goodWord = true) : GoodIn big ws := by
  intro w hw
  have h1 := List.all_eq_true.mp h w hw
  by_cases hc : k2_isCode w = true
  · have h2 : w ∈ ws.filter k2_isCode := List.mem_filter.mpr ⟨hw, hc⟩
    rw [hp] at h2
    obtain ⟨i, -, hi⟩ := List.mem_filterMap.mp h2
    exact ⟨List.mem_of_getElem? hi, good_of_word h1⟩
  · have h2 : w ∈ ws.filter (fun w => !k2_isCode w) := List.mem_filter.mpr ⟨hw, by simpa using hc⟩
    rw [hq] at h2
    obtain ⟨i, -, hi⟩ := List.mem_filterMap.mp h2
    exact ⟨List.mem_of_getElem? hi, good_of_word h1⟩
def RX0 : String := "Granary$Items"
def TX0 : u_T := fun k => match k with
  | 0 => ("Granary$Items", "count", "I", false)
  | 1 => ("Granary$Items", "life", "[I", true)
  | 2 => ("Granary$Items", "price", "[I", true)
  | 3 => ("Granary$Items", "pack", "[I", true)
  | _ => ("Granary$Items", "earned", "[I", true)
def yX0_init : MethodName := ⟨RX0, "<init>", "()V"⟩
def RX1 : String := "Granary$Lots"
def TX1 : u_T := fun k => match k with
  | 0 => ("Granary$Lots", "count", "I", false)
  | 1 => ("Granary$Lots", "item", "[I", true)
  | 2 => ("Granary$Lots", "site", "[I", true)
  | 3 => ("Granary$Lots", "units", "[I", true)
  | 4 => ("Granary$Lots", "reserved", "[I", true)
  | _ => ("Granary$Lots", "last", "[I", true)
def yX1_init : MethodName := ⟨RX1, "<init>", "()V"⟩
def RX2 : String := "Granary$Orders"
def TX2 : u_T := fun k => match k with
  | 0 => ("Granary$Orders", "count", "I", false)
  | 1 => ("Granary$Orders", "item", "[I", true)
  | 2 => ("Granary$Orders", "site", "[I", true)
  | 3 => ("Granary$Orders", "units", "[I", true)
  | 4 => ("Granary$Orders", "reserved", "[I", true)
  | 5 => ("Granary$Orders", "due", "[I", true)
  | 6 => ("Granary$Orders", "rank", "[I", true)
  | 7 => ("Granary$Orders", "keep", "[I", true)
  | 8 => ("Granary$Orders", "state", "[I", true)
  | 9 => ("Granary$Orders", "shipDay", "[I", true)
  | _ => ("Granary$Orders", "held", "[I", true)
def yX2_init : MethodName := ⟨RX2, "<init>", "()V"⟩
def RX3 : String := "Granary$Plan"
def TX3 : u_T := fun k => match k with
  | 0 => ("Granary$Plan", "sites", "I", false)
  | 1 => ("Granary$Plan", "spare", "[I", true)
  | 2 => ("Granary$Plan", "lack", "[I", true)
  | 3 => ("Granary$Plan", "cost", "[J", true)
  | 4 => ("Granary$Plan", "reach", "[J", true)
  | 5 => ("Granary$Plan", "ahead", "[I", true)
  | _ => ("Granary$Plan", "units", "[I", true)
def yX3_init : MethodName := ⟨RX3, "<init>", "()V"⟩
def RX4 : String := "Granary$Policies"
def TX4 : u_T := fun k => match k with
  | 0 => ("Granary$Policies", "set", "[Z", true)
  | 1 => ("Granary$Policies", "point", "[I", true)
  | 2 => ("Granary$Policies", "top", "[I", true)
  | 3 => ("Granary$Policies", "source", "[I", true)
  | _ => ("Granary$Policies", "lead", "[I", true)
def yX4_init : MethodName := ⟨RX4, "<init>", "()V"⟩
def RX5 : String := "Granary$Sites"
def TX5 : u_T := fun k => match k with
  | 0 => ("Granary$Sites", "count", "I", false)
  | 1 => ("Granary$Sites", "room", "[I", true)
  | _ => ("Granary$Sites", "days", "[I", true)
def yX5_init : MethodName := ⟨RX5, "<init>", "()V"⟩
def RX6 : String := "Granary$Stock"
def TX6 : u_T := fun k => match k with
  | 0 => ("Granary$Stock", "day", "I", false)
  | 1 => ("Granary$Stock", "items", "LGranary$Items;", true)
  | 2 => ("Granary$Stock", "sites", "LGranary$Sites;", true)
  | 3 => ("Granary$Stock", "policies", "LGranary$Policies;", true)
  | 4 => ("Granary$Stock", "lots", "LGranary$Lots;", true)
  | 5 => ("Granary$Stock", "orders", "LGranary$Orders;", true)
  | 6 => ("Granary$Stock", "transports", "LGranary$Transports;", true)
  | 7 => ("Granary$Stock", "account", "[I", true)
  | _ => ("Granary$Stock", "queue", "[I", true)
def yX6_init : MethodName := ⟨RX6, "<init>", "()V"⟩
def RX7 : String := "Granary$Transports"
def TX7 : u_T := fun k => match k with
  | 0 => ("Granary$Transports", "count", "I", false)
  | 1 => ("Granary$Transports", "item", "[I", true)
  | 2 => ("Granary$Transports", "site", "[I", true)
  | 3 => ("Granary$Transports", "units", "[I", true)
  | 4 => ("Granary$Transports", "arrival", "[I", true)
  | 5 => ("Granary$Transports", "last", "[I", true)
  | _ => ("Granary$Transports", "moving", "[I", true)
def yX7_init : MethodName := ⟨RX7, "<init>", "()V"⟩
def RX8 : String := "Granary"
def TX8 : u_T := fun k => match k with
  | 0 => ("Granary", "now", "LGranary$Stock;", true)
  | 1 => ("Granary", "later", "LGranary$Stock;", true)
  | _ => ("Granary", "plan", "LGranary$Plan;", true)
def yX8_pair : MethodName := ⟨RX8, "pair", "(II)I"⟩
def RX9 : String := "GranaryLaw$Store"
def TX9 : u_T := fun k => match k with
  | 0 => ("GranaryLaw$Store", "m", "LGranary;", true)
  | 1 => ("GranaryLaw$Store", "s", "[I", true)
  | 2 => ("GranaryLaw$Store", "draws", "I", false)
  | 3 => ("GranaryLaw$Store", "items", "I", false)
  | 4 => ("GranaryLaw$Store", "price", "[I", true)
  | 5 => ("GranaryLaw$Store", "life", "[I", true)
  | 6 => ("GranaryLaw$Store", "pack", "[I", true)
  | 7 => ("GranaryLaw$Store", "route", "[I", true)
  | 8 => ("GranaryLaw$Store", "policy", "[[I", true)
  | 9 => ("GranaryLaw$Store", "transports", "I", false)
  | 10 => ("GranaryLaw$Store", "transport", "[[I", true)
  | 11 => ("GranaryLaw$Store", "sites", "I", false)
  | 12 => ("GranaryLaw$Store", "room", "[I", true)
  | 13 => ("GranaryLaw$Store", "day", "I", false)
  | 14 => ("GranaryLaw$Store", "lots", "I", false)
  | 15 => ("GranaryLaw$Store", "lot", "[[I", true)
  | 16 => ("GranaryLaw$Store", "orders", "I", false)
  | 17 => ("GranaryLaw$Store", "order", "[[I", true)
  | 18 => ("GranaryLaw$Store", "reserved", "[[I", true)
  | 19 => ("GranaryLaw$Store", "earned", "I", false)
  | 20 => ("GranaryLaw$Store", "spent", "I", false)
  | 21 => ("GranaryLaw$Store", "waste", "I", false)
  | 22 => ("GranaryLaw$Store", "lacking", "I", false)
  | _ => ("GranaryLaw$Store", "holding", "I", false)
def RL : String := "GranaryLaw"
def yL_below : MethodName := ⟨RL, "below", "(II)I"⟩
def yL_cell : MethodName := ⟨RL, "cell", "([II)I"⟩
abbrev vwCl : List vw_C := [(RX0, TX0, 5), (RX1, TX1, 6), (RX2, TX2, 11), (RX3, TX3, 7), (RX4, TX4, 5), (RX5, TX5, 3), (RX6, TX6, 9), (RX7, TX7, 7), (RX8, TX8, 3), (RX9, TX9, 24)]

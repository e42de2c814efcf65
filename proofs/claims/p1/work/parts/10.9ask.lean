set_option maxHeartbeats 4000000 in
set_option maxRecDepth 100000 in
/-- items(), fresh -/
theorem c_items (l : Launch) (D : va_G) (cI cZ cJ : ClassId) (lo sz : Nat) (g : Nat) (nw : Nat) (la : Nat) (pn : Nat) (dy : Int32) (aI : Nat) (aS : Nat) (aP : Nat) (aL : Nat) (aO : Nat) (aT : Nat) (aA : Nat) (aQ : Nat) (aI1 : Nat) (aI2 : Nat) (aI3 : Nat) (aI4 : Nat) : Met l yX8_items wsX8_items ({ frames := 0, cells := 0, slots := 0, locals := 0 }) (Pre lo D cI cZ cJ [.ref g] sz [(g, .inr (8, [.ref nw, .ref la, .ref pn])), (nw, .inr (6, [.int dy, .ref aI, .ref aS, .ref aP, .ref aL, .ref aO, .ref aT, .ref aA, .ref aQ])), (aI, .inr (0, [.int 0, .ref aI1, .ref aI2, .ref aI3, .ref aI4]))]) (vp_Si (fun r => r = 0)) 0 0 (fun _ => False) := by
  refine Met.ofW (cc := cX8_items) (maxL := 1) (ret := (some .int)) (by decide) rfl ?_
  intro p e s m args below meth c s₁ B hml hv
  obtain ⟨rfl, hsz, hP, hD0, hC⟩ := hv
  have hx := B.exec
  have hb := B.bytes
  have hr := B.returns
  have hts := atoms_spec (ws := wsX8_items) B.pre
  have hown : s.vm.findClass RX8 = some m.cls := findClass_of_methodNamed B.named
  have hlocks := B.notSynchronized
  subst hsz
  have hK := hC.K
  have hD := hD0
  have hS : va_S (fun q => lo ≤ q) s.heap s.heap [] := va_S.rf
  have hAlo : ∀ q, (fun q => lo ≤ q) q → lo ≤ q := fun _ h => h
  have hL : ∀ q ∈ ([] : List Loc), (fun _ : Addr => False) q.base := fun q h => by cases h
  have hP : va_P D vwCl [(g, .inr (8, [.ref nw, .ref la, .ref pn])), (nw, .inr (6, [.int dy, .ref aI, .ref aS, .ref aP, .ref aL, .ref aO, .ref aT, .ref aA, .ref aQ])), (aI, .inr (0, [.int 0, .ref aI1, .ref aI2, .ref aI3, .ref aI4]))] s.heap := hP
  have hl := lv_entry ([.ref g]) (n := 1) (Nat.le_of_ble_eq_true rfl)
  rw [lg_entry_eq]
  generalize (lg_sl ([.ref g]) ++ List.replicate (1 - (lg_sl ([.ref g])).length) Slot.unset).toArray = ls at hl ⊢
  have hl : lv_has ls 1 [(0, .ref g)] := hl
  have in0 : ∀ w ∈ u_ws RX0 TX0 5, w ∈ wsX8_items := by decide +kernel
  have in6 : ∀ w ∈ u_ws RX6 TX6 9, w ∈ wsX8_items := by decide +kernel
  have in8 : ∀ w ∈ u_ws RX8 TX8 3, w ∈ wsX8_items := by decide +kernel
  refine lv_aload_n hx hb dX8_items_0 rfl (lv_at hl 0 rfl) ?_
  refine va_get (D := D) (ci := 8) (v := .ref nw) (C := RX8) (T := TX8) (N := 3) hx hb hts in8 hown hK hP 0 rfl rfl 0 (by decide) (hts (.fieldLink RX8 10 "Granary" "now" "LGranary$Stock;") (by decide +kernel)) (fun _ h9 => h9) rfl dX8_items_1 ?_
  refine va_get (D := D) (ci := 6) (v := .ref aI) (C := RX6) (T := TX6) (N := 9) hx hb hts in6 hown hK hP 1 rfl rfl 1 (by decide) (hts (.fieldLink RX8 30 "Granary$Stock" "items" "LGranary$Items;") (by decide +kernel)) (fun _ h9 => h9) rfl dX8_items_4 ?_
  refine va_get (D := D) (ci := 0) (v := .int 0) (C := RX0) (T := TX0) (N := 5) hx hb hts in0 hown hK hP 2 rfl rfl 0 (by decide) (hts (.fieldLink RX8 34 "Granary$Items" "count" "I") (by decide +kernel)) (fun _ h9 => h9) rfl dX8_items_7 ?_
  exact W.iret (v := 0) hx hb hr (fun t ht hW => ⟨0, rfl, rfl, ht⟩) hL dX8_items_10

set_option maxHeartbeats 4000000 in
set_option maxRecDepth 100000 in
/-- sites(), fresh -/
theorem c_sites (l : Launch) (D : va_G) (cI cZ cJ : ClassId) (lo sz : Nat) (g : Nat) (nw : Nat) (la : Nat) (pn : Nat) (dy : Int32) (aI : Nat) (aS : Nat) (aP : Nat) (aL : Nat) (aO : Nat) (aT : Nat) (aA : Nat) (aQ : Nat) (aS1 : Nat) (aS2 : Nat) : Met l yX8_sites wsX8_sites ({ frames := 0, cells := 0, slots := 0, locals := 0 }) (Pre lo D cI cZ cJ [.ref g] sz [(g, .inr (8, [.ref nw, .ref la, .ref pn])), (nw, .inr (6, [.int dy, .ref aI, .ref aS, .ref aP, .ref aL, .ref aO, .ref aT, .ref aA, .ref aQ])), (aS, .inr (5, [.int 0, .ref aS1, .ref aS2]))]) (vp_Si (fun r => r = 0)) 0 0 (fun _ => False) := by
  refine Met.ofW (cc := cX8_sites) (maxL := 1) (ret := (some .int)) (by decide) rfl ?_
  intro p e s m args below meth c s₁ B hml hv
  obtain ⟨rfl, hsz, hP, hD0, hC⟩ := hv
  have hx := B.exec
  have hb := B.bytes
  have hr := B.returns
  have hts := atoms_spec (ws := wsX8_sites) B.pre
  have hown : s.vm.findClass RX8 = some m.cls := findClass_of_methodNamed B.named
  have hlocks := B.notSynchronized
  subst hsz
  have hK := hC.K
  have hD := hD0
  have hS : va_S (fun q => lo ≤ q) s.heap s.heap [] := va_S.rf
  have hAlo : ∀ q, (fun q => lo ≤ q) q → lo ≤ q := fun _ h => h
  have hL : ∀ q ∈ ([] : List Loc), (fun _ : Addr => False) q.base := fun q h => by cases h
  have hP : va_P D vwCl [(g, .inr (8, [.ref nw, .ref la, .ref pn])), (nw, .inr (6, [.int dy, .ref aI, .ref aS, .ref aP, .ref aL, .ref aO, .ref aT, .ref aA, .ref aQ])), (aS, .inr (5, [.int 0, .ref aS1, .ref aS2]))] s.heap := hP
  have hl := lv_entry ([.ref g]) (n := 1) (Nat.le_of_ble_eq_true rfl)
  rw [lg_entry_eq]
  generalize (lg_sl ([.ref g]) ++ List.replicate (1 - (lg_sl ([.ref g])).length) Slot.unset).toArray = ls at hl ⊢
  have hl : lv_has ls 1 [(0, .ref g)] := hl
  have in5 : ∀ w ∈ u_ws RX5 TX5 3, w ∈ wsX8_sites := by decide +kernel
  have in6 : ∀ w ∈ u_ws RX6 TX6 9, w ∈ wsX8_sites := by decide +kernel
  have in8 : ∀ w ∈ u_ws RX8 TX8 3, w ∈ wsX8_sites := by decide +kernel
  refine lv_aload_n hx hb dX8_sites_0 rfl (lv_at hl 0 rfl) ?_
  refine va_get (D := D) (ci := 8) (v := .ref nw) (C := RX8) (T := TX8) (N := 3) hx hb hts in8 hown hK hP 0 rfl rfl 0 (by decide) (hts (.fieldLink RX8 10 "Granary" "now" "LGranary$Stock;") (by decide +kernel)) (fun _ h9 => h9) rfl dX8_sites_1 ?_
  refine va_get (D := D) (ci := 6) (v := .ref aS) (C := RX6) (T := TX6) (N := 9) hx hb hts in6 hown hK hP 1 rfl rfl 2 (by decide) (hts (.fieldLink RX8 48 "Granary$Stock" "sites" "LGranary$Sites;") (by decide +kernel)) (fun _ h9 => h9) rfl dX8_sites_4 ?_
  refine va_get (D := D) (ci := 5) (v := .int 0) (C := RX5) (T := TX5) (N := 3) hx hb hts in5 hown hK hP 2 rfl rfl 0 (by decide) (hts (.fieldLink RX8 52 "Granary$Sites" "count" "I") (by decide +kernel)) (fun _ h9 => h9) rfl dX8_sites_7 ?_
  exact W.iret (v := 0) hx hb hr (fun t ht hW => ⟨0, rfl, rfl, ht⟩) hL dX8_sites_10

set_option maxHeartbeats 4000000 in
set_option maxRecDepth 100000 in
/-- lots(), fresh -/
theorem c_lots (l : Launch) (D : va_G) (cI cZ cJ : ClassId) (lo sz : Nat) (g : Nat) (nw : Nat) (la : Nat) (pn : Nat) (dy : Int32) (aI : Nat) (aS : Nat) (aP : Nat) (aL : Nat) (aO : Nat) (aT : Nat) (aA : Nat) (aQ : Nat) (aL1 : Nat) (aL2 : Nat) (aL3 : Nat) (aL4 : Nat) (aL5 : Nat) : Met l yX8_lots wsX8_lots ({ frames := 0, cells := 0, slots := 0, locals := 0 }) (Pre lo D cI cZ cJ [.ref g] sz [(g, .inr (8, [.ref nw, .ref la, .ref pn])), (nw, .inr (6, [.int dy, .ref aI, .ref aS, .ref aP, .ref aL, .ref aO, .ref aT, .ref aA, .ref aQ])), (aL, .inr (1, [.int 0, .ref aL1, .ref aL2, .ref aL3, .ref aL4, .ref aL5]))]) (vp_Si (fun r => r = 0)) 0 0 (fun _ => False) := by
  refine Met.ofW (cc := cX8_lots) (maxL := 1) (ret := (some .int)) (by decide) rfl ?_
  intro p e s m args below meth c s₁ B hml hv
  obtain ⟨rfl, hsz, hP, hD0, hC⟩ := hv
  have hx := B.exec
  have hb := B.bytes
  have hr := B.returns
  have hts := atoms_spec (ws := wsX8_lots) B.pre
  have hown : s.vm.findClass RX8 = some m.cls := findClass_of_methodNamed B.named
  have hlocks := B.notSynchronized
  subst hsz
  have hK := hC.K
  have hD := hD0
  have hS : va_S (fun q => lo ≤ q) s.heap s.heap [] := va_S.rf
  have hAlo : ∀ q, (fun q => lo ≤ q) q → lo ≤ q := fun _ h => h
  have hL : ∀ q ∈ ([] : List Loc), (fun _ : Addr => False) q.base := fun q h => by cases h
  have hP : va_P D vwCl [(g, .inr (8, [.ref nw, .ref la, .ref pn])), (nw, .inr (6, [.int dy, .ref aI, .ref aS, .ref aP, .ref aL, .ref aO, .ref aT, .ref aA, .ref aQ])), (aL, .inr (1, [.int 0, .ref aL1, .ref aL2, .ref aL3, .ref aL4, .ref aL5]))] s.heap := hP
  have hl := lv_entry ([.ref g]) (n := 1) (Nat.le_of_ble_eq_true rfl)
  rw [lg_entry_eq]
  generalize (lg_sl ([.ref g]) ++ List.replicate (1 - (lg_sl ([.ref g])).length) Slot.unset).toArray = ls at hl ⊢
  have hl : lv_has ls 1 [(0, .ref g)] := hl
  have in1 : ∀ w ∈ u_ws RX1 TX1 6, w ∈ wsX8_lots := by decide +kernel
  have in6 : ∀ w ∈ u_ws RX6 TX6 9, w ∈ wsX8_lots := by decide +kernel
  have in8 : ∀ w ∈ u_ws RX8 TX8 3, w ∈ wsX8_lots := by decide +kernel
  refine lv_aload_n hx hb dX8_lots_0 rfl (lv_at hl 0 rfl) ?_
  refine va_get (D := D) (ci := 8) (v := .ref nw) (C := RX8) (T := TX8) (N := 3) hx hb hts in8 hown hK hP 0 rfl rfl 0 (by decide) (hts (.fieldLink RX8 10 "Granary" "now" "LGranary$Stock;") (by decide +kernel)) (fun _ h9 => h9) rfl dX8_lots_1 ?_
  refine va_get (D := D) (ci := 6) (v := .ref aL) (C := RX6) (T := TX6) (N := 9) hx hb hts in6 hown hK hP 1 rfl rfl 4 (by decide) (hts (.fieldLink RX8 109 "Granary$Stock" "lots" "LGranary$Lots;") (by decide +kernel)) (fun _ h9 => h9) rfl dX8_lots_4 ?_
  refine va_get (D := D) (ci := 1) (v := .int 0) (C := RX1) (T := TX1) (N := 6) hx hb hts in1 hown hK hP 2 rfl rfl 0 (by decide) (hts (.fieldLink RX8 113 "Granary$Lots" "count" "I") (by decide +kernel)) (fun _ h9 => h9) rfl dX8_lots_7 ?_
  exact W.iret (v := 0) hx hb hr (fun t ht hW => ⟨0, rfl, rfl, ht⟩) hL dX8_lots_10

set_option maxHeartbeats 4000000 in
set_option maxRecDepth 100000 in
/-- orders(), fresh -/
theorem c_orders (l : Launch) (D : va_G) (cI cZ cJ : ClassId) (lo sz : Nat) (g : Nat) (nw : Nat) (la : Nat) (pn : Nat) (dy : Int32) (aI : Nat) (aS : Nat) (aP : Nat) (aL : Nat) (aO : Nat) (aT : Nat) (aA : Nat) (aQ : Nat) (aO1 : Nat) (aO2 : Nat) (aO3 : Nat) (aO4 : Nat) (aO5 : Nat) (aO6 : Nat) (aO7 : Nat) (aO8 : Nat) (aO9 : Nat) (aO10 : Nat) : Met l yX8_orders wsX8_orders ({ frames := 0, cells := 0, slots := 0, locals := 0 }) (Pre lo D cI cZ cJ [.ref g] sz [(g, .inr (8, [.ref nw, .ref la, .ref pn])), (nw, .inr (6, [.int dy, .ref aI, .ref aS, .ref aP, .ref aL, .ref aO, .ref aT, .ref aA, .ref aQ])), (aO, .inr (2, [.int 0, .ref aO1, .ref aO2, .ref aO3, .ref aO4, .ref aO5, .ref aO6, .ref aO7, .ref aO8, .ref aO9, .ref aO10]))]) (vp_Si (fun r => r = 0)) 0 0 (fun _ => False) := by
  refine Met.ofW (cc := cX8_orders) (maxL := 1) (ret := (some .int)) (by decide) rfl ?_
  intro p e s m args below meth c s₁ B hml hv
  obtain ⟨rfl, hsz, hP, hD0, hC⟩ := hv
  have hx := B.exec
  have hb := B.bytes
  have hr := B.returns
  have hts := atoms_spec (ws := wsX8_orders) B.pre
  have hown : s.vm.findClass RX8 = some m.cls := findClass_of_methodNamed B.named
  have hlocks := B.notSynchronized
  subst hsz
  have hK := hC.K
  have hD := hD0
  have hS : va_S (fun q => lo ≤ q) s.heap s.heap [] := va_S.rf
  have hAlo : ∀ q, (fun q => lo ≤ q) q → lo ≤ q := fun _ h => h
  have hL : ∀ q ∈ ([] : List Loc), (fun _ : Addr => False) q.base := fun q h => by cases h
  have hP : va_P D vwCl [(g, .inr (8, [.ref nw, .ref la, .ref pn])), (nw, .inr (6, [.int dy, .ref aI, .ref aS, .ref aP, .ref aL, .ref aO, .ref aT, .ref aA, .ref aQ])), (aO, .inr (2, [.int 0, .ref aO1, .ref aO2, .ref aO3, .ref aO4, .ref aO5, .ref aO6, .ref aO7, .ref aO8, .ref aO9, .ref aO10]))] s.heap := hP
  have hl := lv_entry ([.ref g]) (n := 1) (Nat.le_of_ble_eq_true rfl)
  rw [lg_entry_eq]
  generalize (lg_sl ([.ref g]) ++ List.replicate (1 - (lg_sl ([.ref g])).length) Slot.unset).toArray = ls at hl ⊢
  have hl : lv_has ls 1 [(0, .ref g)] := hl
  have in2 : ∀ w ∈ u_ws RX2 TX2 11, w ∈ wsX8_orders := by decide +kernel
  have in6 : ∀ w ∈ u_ws RX6 TX6 9, w ∈ wsX8_orders := by decide +kernel
  have in8 : ∀ w ∈ u_ws RX8 TX8 3, w ∈ wsX8_orders := by decide +kernel
  refine lv_aload_n hx hb dX8_orders_0 rfl (lv_at hl 0 rfl) ?_
  refine va_get (D := D) (ci := 8) (v := .ref nw) (C := RX8) (T := TX8) (N := 3) hx hb hts in8 hown hK hP 0 rfl rfl 0 (by decide) (hts (.fieldLink RX8 10 "Granary" "now" "LGranary$Stock;") (by decide +kernel)) (fun _ h9 => h9) rfl dX8_orders_1 ?_
  refine va_get (D := D) (ci := 6) (v := .ref aO) (C := RX6) (T := TX6) (N := 9) hx hb hts in6 hown hK hP 1 rfl rfl 5 (by decide) (hts (.fieldLink RX8 131 "Granary$Stock" "orders" "LGranary$Orders;") (by decide +kernel)) (fun _ h9 => h9) rfl dX8_orders_4 ?_
  refine va_get (D := D) (ci := 2) (v := .int 0) (C := RX2) (T := TX2) (N := 11) hx hb hts in2 hown hK hP 2 rfl rfl 0 (by decide) (hts (.fieldLink RX8 135 "Granary$Orders" "count" "I") (by decide +kernel)) (fun _ h9 => h9) rfl dX8_orders_7 ?_
  exact W.iret (v := 0) hx hb hr (fun t ht hW => ⟨0, rfl, rfl, ht⟩) hL dX8_orders_10

set_option maxHeartbeats 4000000 in
set_option maxRecDepth 100000 in
/-- transports(), fresh -/
theorem c_transports (l : Launch) (D : va_G) (cI cZ cJ : ClassId) (lo sz : Nat) (g : Nat) (nw : Nat) (la : Nat) (pn : Nat) (dy : Int32) (aI : Nat) (aS : Nat) (aP : Nat) (aL : Nat) (aO : Nat) (aT : Nat) (aA : Nat) (aQ : Nat) (aT1 : Nat) (aT2 : Nat) (aT3 : Nat) (aT4 : Nat) (aT5 : Nat) (aT6 : Nat) : Met l yX8_transports wsX8_transports ({ frames := 0, cells := 0, slots := 0, locals := 0 }) (Pre lo D cI cZ cJ [.ref g] sz [(g, .inr (8, [.ref nw, .ref la, .ref pn])), (nw, .inr (6, [.int dy, .ref aI, .ref aS, .ref aP, .ref aL, .ref aO, .ref aT, .ref aA, .ref aQ])), (aT, .inr (7, [.int 0, .ref aT1, .ref aT2, .ref aT3, .ref aT4, .ref aT5, .ref aT6]))]) (vp_Si (fun r => r = 0)) 0 0 (fun _ => False) := by
  refine Met.ofW (cc := cX8_transports) (maxL := 1) (ret := (some .int)) (by decide) rfl ?_
  intro p e s m args below meth c s₁ B hml hv
  obtain ⟨rfl, hsz, hP, hD0, hC⟩ := hv
  have hx := B.exec
  have hb := B.bytes
  have hr := B.returns
  have hts := atoms_spec (ws := wsX8_transports) B.pre
  have hown : s.vm.findClass RX8 = some m.cls := findClass_of_methodNamed B.named
  have hlocks := B.notSynchronized
  subst hsz
  have hK := hC.K
  have hD := hD0
  have hS : va_S (fun q => lo ≤ q) s.heap s.heap [] := va_S.rf
  have hAlo : ∀ q, (fun q => lo ≤ q) q → lo ≤ q := fun _ h => h
  have hL : ∀ q ∈ ([] : List Loc), (fun _ : Addr => False) q.base := fun q h => by cases h
  have hP : va_P D vwCl [(g, .inr (8, [.ref nw, .ref la, .ref pn])), (nw, .inr (6, [.int dy, .ref aI, .ref aS, .ref aP, .ref aL, .ref aO, .ref aT, .ref aA, .ref aQ])), (aT, .inr (7, [.int 0, .ref aT1, .ref aT2, .ref aT3, .ref aT4, .ref aT5, .ref aT6]))] s.heap := hP
  have hl := lv_entry ([.ref g]) (n := 1) (Nat.le_of_ble_eq_true rfl)
  rw [lg_entry_eq]
  generalize (lg_sl ([.ref g]) ++ List.replicate (1 - (lg_sl ([.ref g])).length) Slot.unset).toArray = ls at hl ⊢
  have hl : lv_has ls 1 [(0, .ref g)] := hl
  have in6 : ∀ w ∈ u_ws RX6 TX6 9, w ∈ wsX8_transports := by decide +kernel
  have in7 : ∀ w ∈ u_ws RX7 TX7 7, w ∈ wsX8_transports := by decide +kernel
  have in8 : ∀ w ∈ u_ws RX8 TX8 3, w ∈ wsX8_transports := by decide +kernel
  refine lv_aload_n hx hb dX8_transports_0 rfl (lv_at hl 0 rfl) ?_
  refine va_get (D := D) (ci := 8) (v := .ref nw) (C := RX8) (T := TX8) (N := 3) hx hb hts in8 hown hK hP 0 rfl rfl 0 (by decide) (hts (.fieldLink RX8 10 "Granary" "now" "LGranary$Stock;") (by decide +kernel)) (fun _ h9 => h9) rfl dX8_transports_1 ?_
  refine va_get (D := D) (ci := 6) (v := .ref aT) (C := RX6) (T := TX6) (N := 9) hx hb hts in6 hown hK hP 1 rfl rfl 6 (by decide) (hts (.fieldLink RX8 183 "Granary$Stock" "transports" "LGranary$Transports;") (by decide +kernel)) (fun _ h9 => h9) rfl dX8_transports_4 ?_
  refine va_get (D := D) (ci := 7) (v := .int 0) (C := RX7) (T := TX7) (N := 7) hx hb hts in7 hown hK hP 2 rfl rfl 0 (by decide) (hts (.fieldLink RX8 187 "Granary$Transports" "count" "I") (by decide +kernel)) (fun _ h9 => h9) rfl dX8_transports_7 ?_
  exact W.iret (v := 0) hx hb hr (fun t ht hW => ⟨0, rfl, rfl, ht⟩) hL dX8_transports_10

set_option maxHeartbeats 4000000 in
set_option maxRecDepth 100000 in
/-- day() -/
theorem c_day (l : Launch) (D : va_G) (cI cZ cJ : ClassId) (lo sz : Nat) (g : Nat) (nw : Nat) (la : Nat) (pn : Nat) (dy : Int32) (aI : Nat) (aS : Nat) (aP : Nat) (aL : Nat) (aO : Nat) (aT : Nat) (aA : Nat) (aQ : Nat) : Met l yX8_day wsX8_day ({ frames := 0, cells := 0, slots := 0, locals := 0 }) (Pre lo D cI cZ cJ [.ref g] sz [(g, .inr (8, [.ref nw, .ref la, .ref pn])), (nw, .inr (6, [.int dy, .ref aI, .ref aS, .ref aP, .ref aL, .ref aO, .ref aT, .ref aA, .ref aQ]))]) (vp_Si (fun r => r = dy)) 0 0 (fun _ => False) := by
  refine Met.ofW (cc := cX8_day) (maxL := 1) (ret := (some .int)) (by decide) rfl ?_
  intro p e s m args below meth c s₁ B hml hv
  obtain ⟨rfl, hsz, hP, hD0, hC⟩ := hv
  have hx := B.exec
  have hb := B.bytes
  have hr := B.returns
  have hts := atoms_spec (ws := wsX8_day) B.pre
  have hown : s.vm.findClass RX8 = some m.cls := findClass_of_methodNamed B.named
  have hlocks := B.notSynchronized
  subst hsz
  have hK := hC.K
  have hD := hD0
  have hS : va_S (fun q => lo ≤ q) s.heap s.heap [] := va_S.rf
  have hAlo : ∀ q, (fun q => lo ≤ q) q → lo ≤ q := fun _ h => h
  have hL : ∀ q ∈ ([] : List Loc), (fun _ : Addr => False) q.base := fun q h => by cases h
  have hP : va_P D vwCl [(g, .inr (8, [.ref nw, .ref la, .ref pn])), (nw, .inr (6, [.int dy, .ref aI, .ref aS, .ref aP, .ref aL, .ref aO, .ref aT, .ref aA, .ref aQ]))] s.heap := hP
  have hl := lv_entry ([.ref g]) (n := 1) (Nat.le_of_ble_eq_true rfl)
  rw [lg_entry_eq]
  generalize (lg_sl ([.ref g]) ++ List.replicate (1 - (lg_sl ([.ref g])).length) Slot.unset).toArray = ls at hl ⊢
  have hl : lv_has ls 1 [(0, .ref g)] := hl
  have in6 : ∀ w ∈ u_ws RX6 TX6 9, w ∈ wsX8_day := by decide +kernel
  have in8 : ∀ w ∈ u_ws RX8 TX8 3, w ∈ wsX8_day := by decide +kernel
  refine lv_aload_n hx hb dX8_day_0 rfl (lv_at hl 0 rfl) ?_
  refine va_get (D := D) (ci := 8) (v := .ref nw) (C := RX8) (T := TX8) (N := 3) hx hb hts in8 hown hK hP 0 rfl rfl 0 (by decide) (hts (.fieldLink RX8 10 "Granary" "now" "LGranary$Stock;") (by decide +kernel)) (fun _ h9 => h9) rfl dX8_day_1 ?_
  refine va_get (D := D) (ci := 6) (v := .int dy) (C := RX6) (T := TX6) (N := 9) hx hb hts in6 hown hK hP 1 rfl rfl 0 (by decide) (hts (.fieldLink RX8 125 "Granary$Stock" "day" "I") (by decide +kernel)) (fun _ h9 => h9) rfl dX8_day_4 ?_
  exact W.iret (v := dy) hx hb hr (fun t ht hW => ⟨dy, rfl, rfl, ht⟩) hL dX8_day_7

set_option maxHeartbeats 4000000 in
set_option maxRecDepth 100000 in
/-- X6_queueOpenOrders -/
theorem c_queueOpen (l : Launch) (D : va_G) (cI cZ cJ : ClassId) (lo sz : Nat) (nw : Nat) (dy : Int32) (aI : Nat) (aS : Nat) (aP : Nat) (aL : Nat) (aO : Nat) (aT : Nat) (aA : Nat) (aQ : Nat) (aO1 : Nat) (aO2 : Nat) (aO3 : Nat) (aO4 : Nat) (aO5 : Nat) (aO6 : Nat) (aO7 : Nat) (aO8 : Nat) (aO9 : Nat) (aO10 : Nat) : Met l yX6_queueOpenOrders wsX6_queueOpenOrders ({ frames := 0, cells := 0, slots := 0, locals := 0 }) (Pre lo D cI cZ cJ [.ref nw] sz [(nw, .inr (6, [.int dy, .ref aI, .ref aS, .ref aP, .ref aL, .ref aO, .ref aT, .ref aA, .ref aQ])), (aO, .inr (2, [.int 0, .ref aO1, .ref aO2, .ref aO3, .ref aO4, .ref aO5, .ref aO6, .ref aO7, .ref aO8, .ref aO9, .ref aO10]))]) (vp_Si (fun r => r = 0)) 0 0 (fun _ => False) := by
  refine Met.ofW (cc := cX6_queueOpenOrders) (maxL := 4) (ret := (some .int)) (by decide) rfl ?_
  intro p e s m args below meth c s₁ B hml hv
  obtain ⟨rfl, hsz, hP, hD0, hC⟩ := hv
  have hx := B.exec
  have hb := B.bytes
  have hr := B.returns
  have hts := atoms_spec (ws := wsX6_queueOpenOrders) B.pre
  have hown : s.vm.findClass RX6 = some m.cls := findClass_of_methodNamed B.named
  have hlocks := B.notSynchronized
  subst hsz
  have hK := hC.K
  have hD := hD0
  have hS : va_S (fun q => lo ≤ q) s.heap s.heap [] := va_S.rf
  have hAlo : ∀ q, (fun q => lo ≤ q) q → lo ≤ q := fun _ h => h
  have hL : ∀ q ∈ ([] : List Loc), (fun _ : Addr => False) q.base := fun q h => by cases h
  have hP : va_P D vwCl [(nw, .inr (6, [.int dy, .ref aI, .ref aS, .ref aP, .ref aL, .ref aO, .ref aT, .ref aA, .ref aQ])), (aO, .inr (2, [.int 0, .ref aO1, .ref aO2, .ref aO3, .ref aO4, .ref aO5, .ref aO6, .ref aO7, .ref aO8, .ref aO9, .ref aO10]))] s.heap := hP
  have hl := lv_entry ([.ref nw]) (n := 4) (Nat.le_of_ble_eq_true rfl)
  rw [lg_entry_eq]
  generalize (lg_sl ([.ref nw]) ++ List.replicate (4 - (lg_sl ([.ref nw])).length) Slot.unset).toArray = ls at hl ⊢
  have hl : lv_has ls 4 [(0, .ref nw)] := hl
  have in2 : ∀ w ∈ u_ws RX2 TX2 11, w ∈ wsX6_queueOpenOrders := by decide +kernel
  have in6 : ∀ w ∈ u_ws RX6 TX6 9, w ∈ wsX6_queueOpenOrders := by decide +kernel
  refine lv_iconst (v := 0) hx hb dX6_queueOpenOrders_0 (by decide) ?_
  refine lv_istore_n (lv' := [(1, .int 0), (0, .ref nw)]) hx hb dX6_queueOpenOrders_1 rfl hl (by decide) rfl (fun ls hl => ?_)
  refine lv_iconst (v := 0) hx hb dX6_queueOpenOrders_2 (by decide) ?_
  refine lv_istore_n (lv' := [(2, .int 0), (1, .int 0), (0, .ref nw)]) hx hb dX6_queueOpenOrders_3 rfl hl (by decide) rfl (fun ls hl => ?_)
  refine lv_iload_n hx hb dX6_queueOpenOrders_4 rfl (lv_at hl 0 rfl) ?_
  refine lv_aload_n hx hb dX6_queueOpenOrders_5 rfl (lv_at hl 2 rfl) ?_
  refine va_get (D := D) (ci := 6) (v := .ref aO) (C := RX6) (T := TX6) (N := 9) hx hb hts in6 hown hK hP 0 rfl rfl 5 (by decide) (hts (.fieldLink RX6 42 "Granary$Stock" "orders" "LGranary$Orders;") (by decide +kernel)) (fun _ h9 => h9) rfl dX6_queueOpenOrders_6 ?_
  refine va_get (D := D) (ci := 2) (v := .int 0) (C := RX2) (T := TX2) (N := 11) hx hb hts in2 hown hK hP 1 rfl rfl 0 (by decide) (hts (.fieldLink RX6 188 "Granary$Orders" "count" "I") (by decide +kernel)) (fun _ h9 => h9) rfl dX6_queueOpenOrders_9 ?_
  refine lv_icmp_ge (tgt := 88) hx hb dX6_queueOpenOrders_12 (by decide) (fun _ => ?_) (fun c9 => absurd (show (0 : Int32) ≤ (0 : Int32) from (by decide)) c9)
  refine lv_iload_n hx hb dX6_queueOpenOrders_88 rfl (lv_at hl 1 rfl) ?_
  exact W.iret (v := 0) hx hb hr (fun t ht hW => ⟨0, rfl, rfl, ht⟩) hL dX6_queueOpenOrders_89

set_option maxHeartbeats 4000000 in
set_option maxRecDepth 100000 in
/-- X6_reserveForAll -/
theorem c_reserveForAll (l : Launch) (D : va_G) (cI cZ cJ : ClassId) (lo sz : Nat) (nw : Nat) (dy : Int32) (aI : Nat) (aS : Nat) (aP : Nat) (aL : Nat) (aO : Nat) (aT : Nat) (aA : Nat) (aQ : Nat) (aO1 : Nat) (aO2 : Nat) (aO3 : Nat) (aO4 : Nat) (aO5 : Nat) (aO6 : Nat) (aO7 : Nat) (aO8 : Nat) (aO9 : Nat) (aO10 : Nat) : Met l yX6_reserveForAll wsX6_reserveForAll ({ frames := 1, cells := 0, slots := 0, locals := 23 }) (Pre lo D cI cZ cJ [.ref nw] sz [(nw, .inr (6, [.int dy, .ref aI, .ref aS, .ref aP, .ref aL, .ref aO, .ref aT, .ref aA, .ref aQ])), (aO, .inr (2, [.int 0, .ref aO1, .ref aO2, .ref aO3, .ref aO4, .ref aO5, .ref aO6, .ref aO7, .ref aO8, .ref aO9, .ref aO10]))]) (va_Sv (fun _ => True)) 0 0 (fun _ => False) := by
  refine Met.ofW (cc := cX6_reserveForAll) (maxL := 3) (ret := none) (by decide) rfl ?_
  intro p e s m args below meth c s₁ B hml hv
  obtain ⟨rfl, hsz, hP, hD0, hC⟩ := hv
  have hx := B.exec
  have hb := B.bytes
  have hr := B.returns
  have hts := atoms_spec (ws := wsX6_reserveForAll) B.pre
  have hown : s.vm.findClass RX6 = some m.cls := findClass_of_methodNamed B.named
  have hlocks := B.notSynchronized
  subst hsz
  have hK := hC.K
  have hD := hD0
  have hS : va_S (fun q => lo ≤ q) s.heap s.heap [] := va_S.rf
  have hAlo : ∀ q, (fun q => lo ≤ q) q → lo ≤ q := fun _ h => h
  have hL : ∀ q ∈ ([] : List Loc), (fun _ : Addr => False) q.base := fun q h => by cases h
  have hP : va_P D vwCl [(nw, .inr (6, [.int dy, .ref aI, .ref aS, .ref aP, .ref aL, .ref aO, .ref aT, .ref aA, .ref aQ])), (aO, .inr (2, [.int 0, .ref aO1, .ref aO2, .ref aO3, .ref aO4, .ref aO5, .ref aO6, .ref aO7, .ref aO8, .ref aO9, .ref aO10]))] s.heap := hP
  have hl := lv_entry ([.ref nw]) (n := 3) (Nat.le_of_ble_eq_true rfl)
  rw [lg_entry_eq]
  generalize (lg_sl ([.ref nw]) ++ List.replicate (3 - (lg_sl ([.ref nw])).length) Slot.unset).toArray = ls at hl ⊢
  have hl : lv_has ls 3 [(0, .ref nw)] := hl
  refine lv_aload_n hx hb dX6_reserveForAll_0 rfl (lv_at hl 0 rfl) ?_
  have hPc := hP.sub (ws' := [(nw, .inr (6, [.int dy, .ref aI, .ref aS, .ref aP, .ref aL, .ref aO, .ref aT, .ref aA, .ref aQ])), (aO, .inr (2, [.int 0, .ref aO1, .ref aO2, .ref aO3, .ref aO4, .ref aO5, .ref aO6, .ref aO7, .ref aO8, .ref aO9, .ref aO10]))]) [0, 1] rfl
  have hDc := hD.sub (ws' := [(nw, .inr (6, [.int dy, .ref aI, .ref aS, .ref aP, .ref aL, .ref aO, .ref aT, .ref aA, .ref aQ])), (aO, .inr (2, [.int 0, .ref aO1, .ref aO2, .ref aO3, .ref aO4, .ref aO5, .ref aO6, .ref aO7, .ref aO8, .ref aO9, .ref aO10]))]) [0, 1] (by decide) rfl
  refine vp_callSi (W.runV (As := []) (rest := []) ⟨hx, hb, hml, hown, hts⟩ (c_queueOpen l D cI cZ cJ lo s.heap.size nw dy aI aS aP aL aO aT aA aQ aO1 aO2 aO3 aO4 aO5 aO6 aO7 aO8 aO9 aO10) (cwV 0 hts gX6_reserveForAll_X6_queueOpenOrders rfl rfl rfl (by decide +kernel) ⟨(Nat.le_of_ble_eq_true rfl), (Nat.le_of_ble_eq_true rfl)⟩) ⟨Pre.blind, va_recv hK hP (ci := 6) (q0 := 0) rfl rfl, Pre.mk hPc (hDc.weaken (fun _ _ _ h => hAlo _ h)) hC hS hAlo⟩ rfl rfl hl.1 rfl (lv_room (Nat.le_of_ble_eq_true rfl)) dX6_reserveForAll_1 ⟨(Nat.le_of_ble_eq_true rfl), (Nat.le_of_ble_eq_true rfl)⟩) (fun r_1 e_2 => ?_)
  have e_2 : r_1 = 0 := e_2
  subst e_2
  refine lv_istore_n (lv' := [(1, .int 0), (0, .ref nw)]) hx hb dX6_reserveForAll_4 rfl hl (by decide) rfl (fun ls hl => ?_)
  refine lv_iconst (v := 0) hx hb dX6_reserveForAll_5 (by decide) ?_
  refine lv_istore_n (lv' := [(2, .int 0), (1, .int 0), (0, .ref nw)]) hx hb dX6_reserveForAll_6 rfl hl (by decide) rfl (fun ls hl => ?_)
  refine lv_iload_n hx hb dX6_reserveForAll_7 rfl (lv_at hl 0 rfl) ?_
  refine lv_iload_n hx hb dX6_reserveForAll_8 rfl (lv_at hl 1 rfl) ?_
  refine lv_icmp_ge (tgt := 28) hx hb dX6_reserveForAll_9 (by decide) (fun _ => ?_) (fun c9 => absurd (show (0 : Int32) ≤ (0 : Int32) from (by decide)) c9)
  exact W.vret hx hb hr (fun t ht hW => ⟨rfl, trivial, ht⟩) hL dX6_reserveForAll_28

set_option maxHeartbeats 4000000 in
set_option maxRecDepth 100000 in
/-- X2_allReserved -/
theorem c_allReserved (l : Launch) (D : va_G) (cI cZ cJ : ClassId) (lo sz : Nat) (aO : Nat) (aO1 : Nat) (aO2 : Nat) (aO3 : Nat) (aO4 : Nat) (aO5 : Nat) (aO6 : Nat) (aO7 : Nat) (aO8 : Nat) (aO9 : Nat) (aO10 : Nat) : Met l yX2_allReserved wsX2_allReserved ({ frames := 0, cells := 0, slots := 0, locals := 0 }) (Pre lo D cI cZ cJ [.ref aO] sz [(aO, .inr (2, [.int 0, .ref aO1, .ref aO2, .ref aO3, .ref aO4, .ref aO5, .ref aO6, .ref aO7, .ref aO8, .ref aO9, .ref aO10]))]) (vp_Si (fun r => r = 0)) 0 0 (fun _ => False) := by
  refine Met.ofW (cc := cX2_allReserved) (maxL := 3) (ret := (some .int)) (by decide) rfl ?_
  intro p e s m args below meth c s₁ B hml hv
  obtain ⟨rfl, hsz, hP, hD0, hC⟩ := hv
  have hx := B.exec
  have hb := B.bytes
  have hr := B.returns
  have hts := atoms_spec (ws := wsX2_allReserved) B.pre
  have hown : s.vm.findClass RX2 = some m.cls := findClass_of_methodNamed B.named
  have hlocks := B.notSynchronized
  subst hsz
  have hK := hC.K
  have hD := hD0
  have hS : va_S (fun q => lo ≤ q) s.heap s.heap [] := va_S.rf
  have hAlo : ∀ q, (fun q => lo ≤ q) q → lo ≤ q := fun _ h => h
  have hL : ∀ q ∈ ([] : List Loc), (fun _ : Addr => False) q.base := fun q h => by cases h
  have hP : va_P D vwCl [(aO, .inr (2, [.int 0, .ref aO1, .ref aO2, .ref aO3, .ref aO4, .ref aO5, .ref aO6, .ref aO7, .ref aO8, .ref aO9, .ref aO10]))] s.heap := hP
  have hl := lv_entry ([.ref aO]) (n := 3) (Nat.le_of_ble_eq_true rfl)
  rw [lg_entry_eq]
  generalize (lg_sl ([.ref aO]) ++ List.replicate (3 - (lg_sl ([.ref aO])).length) Slot.unset).toArray = ls at hl ⊢
  have hl : lv_has ls 3 [(0, .ref aO)] := hl
  have in2 : ∀ w ∈ u_ws RX2 TX2 11, w ∈ wsX2_allReserved := by decide +kernel
  refine lv_iconst (v := 0) hx hb dX2_allReserved_0 (by decide) ?_
  refine lv_istore_n (lv' := [(1, .int 0), (0, .ref aO)]) hx hb dX2_allReserved_1 rfl hl (by decide) rfl (fun ls hl => ?_)
  refine lv_iconst (v := 0) hx hb dX2_allReserved_2 (by decide) ?_
  refine lv_istore_n (lv' := [(2, .int 0), (1, .int 0), (0, .ref aO)]) hx hb dX2_allReserved_3 rfl hl (by decide) rfl (fun ls hl => ?_)
  refine lv_iload_n hx hb dX2_allReserved_4 rfl (lv_at hl 0 rfl) ?_
  refine lv_aload_n hx hb dX2_allReserved_5 rfl (lv_at hl 2 rfl) ?_
  refine va_get (D := D) (ci := 2) (v := .int 0) (C := RX2) (T := TX2) (N := 11) hx hb hts in2 hown hK hP 0 rfl rfl 0 (by decide) (hts (.fieldLink RX2 42 "Granary$Orders" "count" "I") (by decide +kernel)) (fun _ h9 => h9) rfl dX2_allReserved_6 ?_
  refine lv_icmp_ge (tgt := 27) hx hb dX2_allReserved_9 (by decide) (fun _ => ?_) (fun c9 => absurd (show (0 : Int32) ≤ (0 : Int32) from (by decide)) c9)
  refine lv_iload_n hx hb dX2_allReserved_27 rfl (lv_at hl 1 rfl) ?_
  exact W.iret (v := 0) hx hb hr (fun t ht hW => ⟨0, rfl, rfl, ht⟩) hL dX2_allReserved_28

set_option maxHeartbeats 4000000 in
set_option maxRecDepth 100000 in
/-- X8_reserveAnew -/
theorem c_reserveAnew (l : Launch) (D : va_G) (cI cZ cJ : ClassId) (lo sz : Nat) (g : Nat) (nw : Nat) (la : Nat) (pn : Nat) (dy : Int32) (aI : Nat) (aS : Nat) (aP : Nat) (aL : Nat) (aO : Nat) (aT : Nat) (aA : Nat) (aQ : Nat) (aO1 : Nat) (aO2 : Nat) (aO3 : Nat) (aO4 : Nat) (aO5 : Nat) (aO6 : Nat) (aO7 : Nat) (aO8 : Nat) (aO9 : Nat) (aO10 : Nat) : Met l yX8_reserveAnew wsX8_reserveAnew ({ frames := 2, cells := 0, slots := 0, locals := 45 }) (Pre lo D cI cZ cJ [.ref g] sz [(g, .inr (8, [.ref nw, .ref la, .ref pn])), (nw, .inr (6, [.int dy, .ref aI, .ref aS, .ref aP, .ref aL, .ref aO, .ref aT, .ref aA, .ref aQ])), (aO, .inr (2, [.int 0, .ref aO1, .ref aO2, .ref aO3, .ref aO4, .ref aO5, .ref aO6, .ref aO7, .ref aO8, .ref aO9, .ref aO10]))]) (vp_Si (fun r => r = 0)) 0 0 (fun _ => False) := by
  refine Met.ofW (cc := cX8_reserveAnew) (maxL := 2) (ret := (some .int)) (by decide) rfl ?_
  intro p e s m args below meth c s₁ B hml hv
  obtain ⟨rfl, hsz, hP, hD0, hC⟩ := hv
  have hx := B.exec
  have hb := B.bytes
  have hr := B.returns
  have hts := atoms_spec (ws := wsX8_reserveAnew) B.pre
  have hown : s.vm.findClass RX8 = some m.cls := findClass_of_methodNamed B.named
  have hlocks := B.notSynchronized
  subst hsz
  have hK := hC.K
  have hD := hD0
  have hS : va_S (fun q => lo ≤ q) s.heap s.heap [] := va_S.rf
  have hAlo : ∀ q, (fun q => lo ≤ q) q → lo ≤ q := fun _ h => h
  have hL : ∀ q ∈ ([] : List Loc), (fun _ : Addr => False) q.base := fun q h => by cases h
  have hP : va_P D vwCl [(g, .inr (8, [.ref nw, .ref la, .ref pn])), (nw, .inr (6, [.int dy, .ref aI, .ref aS, .ref aP, .ref aL, .ref aO, .ref aT, .ref aA, .ref aQ])), (aO, .inr (2, [.int 0, .ref aO1, .ref aO2, .ref aO3, .ref aO4, .ref aO5, .ref aO6, .ref aO7, .ref aO8, .ref aO9, .ref aO10]))] s.heap := hP
  have hl := lv_entry ([.ref g]) (n := 2) (Nat.le_of_ble_eq_true rfl)
  rw [lg_entry_eq]
  generalize (lg_sl ([.ref g]) ++ List.replicate (2 - (lg_sl ([.ref g])).length) Slot.unset).toArray = ls at hl ⊢
  have hl : lv_has ls 2 [(0, .ref g)] := hl
  have in2 : ∀ w ∈ u_ws RX2 TX2 11, w ∈ wsX8_reserveAnew := by decide +kernel
  have in6 : ∀ w ∈ u_ws RX6 TX6 9, w ∈ wsX8_reserveAnew := by decide +kernel
  have in8 : ∀ w ∈ u_ws RX8 TX8 3, w ∈ wsX8_reserveAnew := by decide +kernel
  refine lv_iconst (v := 0) hx hb dX8_reserveAnew_0 (by decide) ?_
  refine lv_istore_n (lv' := [(1, .int 0), (0, .ref g)]) hx hb dX8_reserveAnew_1 rfl hl (by decide) rfl (fun ls hl => ?_)
  refine lv_iload_n hx hb dX8_reserveAnew_2 rfl (lv_at hl 0 rfl) ?_
  refine lv_aload_n hx hb dX8_reserveAnew_3 rfl (lv_at hl 1 rfl) ?_
  refine va_get (D := D) (ci := 8) (v := .ref nw) (C := RX8) (T := TX8) (N := 3) hx hb hts in8 hown hK hP 0 rfl rfl 0 (by decide) (hts (.fieldLink RX8 10 "Granary" "now" "LGranary$Stock;") (by decide +kernel)) (fun _ h9 => h9) rfl dX8_reserveAnew_4 ?_
  refine va_get (D := D) (ci := 6) (v := .ref aO) (C := RX6) (T := TX6) (N := 9) hx hb hts in6 hown hK hP 1 rfl rfl 5 (by decide) (hts (.fieldLink RX8 131 "Granary$Stock" "orders" "LGranary$Orders;") (by decide +kernel)) (fun _ h9 => h9) rfl dX8_reserveAnew_7 ?_
  refine va_get (D := D) (ci := 2) (v := .int 0) (C := RX2) (T := TX2) (N := 11) hx hb hts in2 hown hK hP 2 rfl rfl 0 (by decide) (hts (.fieldLink RX8 135 "Granary$Orders" "count" "I") (by decide +kernel)) (fun _ h9 => h9) rfl dX8_reserveAnew_10 ?_
  refine lv_icmp_ge (tgt := 30) hx hb dX8_reserveAnew_13 (by decide) (fun _ => ?_) (fun c9 => absurd (show (0 : Int32) ≤ (0 : Int32) from (by decide)) c9)
  refine lv_aload_n hx hb dX8_reserveAnew_30 rfl (lv_at hl 1 rfl) ?_
  refine va_get (D := D) (ci := 8) (v := .ref nw) (C := RX8) (T := TX8) (N := 3) hx hb hts in8 hown hK hP 0 rfl rfl 0 (by decide) (hts (.fieldLink RX8 10 "Granary" "now" "LGranary$Stock;") (by decide +kernel)) (fun _ h9 => h9) rfl dX8_reserveAnew_31 ?_
  have hPc := hP.sub (ws' := [(nw, .inr (6, [.int dy, .ref aI, .ref aS, .ref aP, .ref aL, .ref aO, .ref aT, .ref aA, .ref aQ])), (aO, .inr (2, [.int 0, .ref aO1, .ref aO2, .ref aO3, .ref aO4, .ref aO5, .ref aO6, .ref aO7, .ref aO8, .ref aO9, .ref aO10]))]) [1, 2] rfl
  have hDc := hD.sub (ws' := [(nw, .inr (6, [.int dy, .ref aI, .ref aS, .ref aP, .ref aL, .ref aO, .ref aT, .ref aA, .ref aQ])), (aO, .inr (2, [.int 0, .ref aO1, .ref aO2, .ref aO3, .ref aO4, .ref aO5, .ref aO6, .ref aO7, .ref aO8, .ref aO9, .ref aO10]))]) [1, 2] (by decide) rfl
  refine va_csv (W.runV (As := []) (rest := []) ⟨hx, hb, hml, hown, hts⟩ (c_reserveForAll l D cI cZ cJ lo s.heap.size nw dy aI aS aP aL aO aT aA aQ aO1 aO2 aO3 aO4 aO5 aO6 aO7 aO8 aO9 aO10) (cwV 0 hts gX8_reserveAnew_X6_reserveForAll rfl rfl rfl (by decide +kernel) ⟨(Nat.le_of_ble_eq_true rfl), (Nat.le_of_ble_eq_true rfl)⟩) ⟨Pre.blind, va_recv hK hP (ci := 6) (q0 := 1) rfl rfl, Pre.mk hPc (hDc.weaken (fun _ _ _ h => hAlo _ h)) hC hS hAlo⟩ rfl rfl hl.1 rfl (lv_room (Nat.le_of_ble_eq_true rfl)) dX8_reserveAnew_34 ⟨(Nat.le_of_ble_eq_true rfl), (Nat.le_of_ble_eq_true rfl)⟩) (fun e_1 => ?_)
  refine lv_aload_n hx hb dX8_reserveAnew_37 rfl (lv_at hl 1 rfl) ?_
  refine va_get (D := D) (ci := 8) (v := .ref nw) (C := RX8) (T := TX8) (N := 3) hx hb hts in8 hown hK hP 0 rfl rfl 0 (by decide) (hts (.fieldLink RX8 10 "Granary" "now" "LGranary$Stock;") (by decide +kernel)) (fun _ h9 => h9) rfl dX8_reserveAnew_38 ?_
  refine va_get (D := D) (ci := 6) (v := .ref aO) (C := RX6) (T := TX6) (N := 9) hx hb hts in6 hown hK hP 1 rfl rfl 5 (by decide) (hts (.fieldLink RX8 131 "Granary$Stock" "orders" "LGranary$Orders;") (by decide +kernel)) (fun _ h9 => h9) rfl dX8_reserveAnew_41 ?_
  have hPc := hP.sub (ws' := [(aO, .inr (2, [.int 0, .ref aO1, .ref aO2, .ref aO3, .ref aO4, .ref aO5, .ref aO6, .ref aO7, .ref aO8, .ref aO9, .ref aO10]))]) [2] rfl
  have hDc := hD.sub (ws' := [(aO, .inr (2, [.int 0, .ref aO1, .ref aO2, .ref aO3, .ref aO4, .ref aO5, .ref aO6, .ref aO7, .ref aO8, .ref aO9, .ref aO10]))]) [2] (by decide) rfl
  refine vp_callSi (W.runV (As := []) (rest := []) ⟨hx, hb, hml, hown, hts⟩ (c_allReserved l D cI cZ cJ lo s.heap.size aO aO1 aO2 aO3 aO4 aO5 aO6 aO7 aO8 aO9 aO10) (cwV 0 hts gX8_reserveAnew_X2_allReserved rfl rfl rfl (by decide +kernel) ⟨(Nat.le_of_ble_eq_true rfl), (Nat.le_of_ble_eq_true rfl)⟩) ⟨Pre.blind, va_recv hK hP (ci := 2) (q0 := 2) rfl rfl, Pre.mk hPc (hDc.weaken (fun _ _ _ h => hAlo _ h)) hC hS hAlo⟩ rfl rfl hl.1 rfl (lv_room (Nat.le_of_ble_eq_true rfl)) dX8_reserveAnew_44 ⟨(Nat.le_of_ble_eq_true rfl), (Nat.le_of_ble_eq_true rfl)⟩) (fun r_2 e_3 => ?_)
  have e_3 : r_2 = 0 := e_3
  subst e_3
  exact W.iret (v := 0) hx hb hr (fun t ht hW => ⟨0, rfl, rfl, ht⟩) hL dX8_reserveAnew_47

set_option maxHeartbeats 4000000 in
set_option maxRecDepth 100000 in
/-- X6_wasteExpired -/
theorem c_wasteExpired (l : Launch) (D : va_G) (cI cZ cJ : ClassId) (lo sz : Nat) (nw : Nat) (dy : Int32) (aI : Nat) (aS : Nat) (aP : Nat) (aL : Nat) (aO : Nat) (aT : Nat) (aA : Nat) (aQ : Nat) (aL1 : Nat) (aL2 : Nat) (aL3 : Nat) (aL4 : Nat) (aL5 : Nat) : Met l yX6_wasteExpired wsX6_wasteExpired ({ frames := 0, cells := 0, slots := 0, locals := 0 }) (Pre lo D cI cZ cJ [.ref nw] sz [(nw, .inr (6, [.int dy, .ref aI, .ref aS, .ref aP, .ref aL, .ref aO, .ref aT, .ref aA, .ref aQ])), (aL, .inr (1, [.int 0, .ref aL1, .ref aL2, .ref aL3, .ref aL4, .ref aL5]))]) (va_Sv (fun _ => True)) 0 0 (fun _ => False) := by
  refine Met.ofW (cc := cX6_wasteExpired) (maxL := 3) (ret := none) (by decide) rfl ?_
  intro p e s m args below meth c s₁ B hml hv
  obtain ⟨rfl, hsz, hP, hD0, hC⟩ := hv
  have hx := B.exec
  have hb := B.bytes
  have hr := B.returns
  have hts := atoms_spec (ws := wsX6_wasteExpired) B.pre
  have hown : s.vm.findClass RX6 = some m.cls := findClass_of_methodNamed B.named
  have hlocks := B.notSynchronized
  subst hsz
  have hK := hC.K
  have hD := hD0
  have hS : va_S (fun q => lo ≤ q) s.heap s.heap [] := va_S.rf
  have hAlo : ∀ q, (fun q => lo ≤ q) q → lo ≤ q := fun _ h => h
  have hL : ∀ q ∈ ([] : List Loc), (fun _ : Addr => False) q.base := fun q h => by cases h
  have hP : va_P D vwCl [(nw, .inr (6, [.int dy, .ref aI, .ref aS, .ref aP, .ref aL, .ref aO, .ref aT, .ref aA, .ref aQ])), (aL, .inr (1, [.int 0, .ref aL1, .ref aL2, .ref aL3, .ref aL4, .ref aL5]))] s.heap := hP
  have hl := lv_entry ([.ref nw]) (n := 3) (Nat.le_of_ble_eq_true rfl)
  rw [lg_entry_eq]
  generalize (lg_sl ([.ref nw]) ++ List.replicate (3 - (lg_sl ([.ref nw])).length) Slot.unset).toArray = ls at hl ⊢
  have hl : lv_has ls 3 [(0, .ref nw)] := hl
  have in1 : ∀ w ∈ u_ws RX1 TX1 6, w ∈ wsX6_wasteExpired := by decide +kernel
  have in6 : ∀ w ∈ u_ws RX6 TX6 9, w ∈ wsX6_wasteExpired := by decide +kernel
  refine lv_iconst (v := 0) hx hb dX6_wasteExpired_0 (by decide) ?_
  refine lv_istore_n (lv' := [(1, .int 0), (0, .ref nw)]) hx hb dX6_wasteExpired_1 rfl hl (by decide) rfl (fun ls hl => ?_)
  refine lv_iload_n hx hb dX6_wasteExpired_2 rfl (lv_at hl 0 rfl) ?_
  refine lv_aload_n hx hb dX6_wasteExpired_3 rfl (lv_at hl 1 rfl) ?_
  refine va_get (D := D) (ci := 6) (v := .ref aL) (C := RX6) (T := TX6) (N := 9) hx hb hts in6 hown hK hP 0 rfl rfl 4 (by decide) (hts (.fieldLink RX6 35 "Granary$Stock" "lots" "LGranary$Lots;") (by decide +kernel)) (fun _ h9 => h9) rfl dX6_wasteExpired_4 ?_
  refine va_get (D := D) (ci := 1) (v := .int 0) (C := RX1) (T := TX1) (N := 6) hx hb hts in1 hown hK hP 1 rfl rfl 0 (by decide) (hts (.fieldLink RX6 148 "Granary$Lots" "count" "I") (by decide +kernel)) (fun _ h9 => h9) rfl dX6_wasteExpired_7 ?_
  refine lv_icmp_ge (tgt := 114) hx hb dX6_wasteExpired_10 (by decide) (fun _ => ?_) (fun c9 => absurd (show (0 : Int32) ≤ (0 : Int32) from (by decide)) c9)
  exact W.vret hx hb hr (fun t ht hW => ⟨rfl, trivial, ht⟩) hL dX6_wasteExpired_114

set_option maxHeartbeats 4000000 in
set_option maxRecDepth 100000 in
/-- X6_takeArrivals -/
theorem c_takeArrivals (l : Launch) (D : va_G) (cI cZ cJ : ClassId) (lo sz : Nat) (nw : Nat) (dy : Int32) (aI : Nat) (aS : Nat) (aP : Nat) (aL : Nat) (aO : Nat) (aT : Nat) (aA : Nat) (aQ : Nat) (aT1 : Nat) (aT2 : Nat) (aT3 : Nat) (aT4 : Nat) (aT5 : Nat) (aT6 : Nat) : Met l yX6_takeArrivals wsX6_takeArrivals ({ frames := 0, cells := 0, slots := 0, locals := 0 }) (Pre lo D cI cZ cJ [.ref nw] sz [(nw, .inr (6, [.int dy, .ref aI, .ref aS, .ref aP, .ref aL, .ref aO, .ref aT, .ref aA, .ref aQ])), (aT, .inr (7, [.int 0, .ref aT1, .ref aT2, .ref aT3, .ref aT4, .ref aT5, .ref aT6]))]) (va_Sv (fun _ => True)) 0 0 (fun _ => False) := by
  refine Met.ofW (cc := cX6_takeArrivals) (maxL := 2) (ret := none) (by decide) rfl ?_
  intro p e s m args below meth c s₁ B hml hv
  obtain ⟨rfl, hsz, hP, hD0, hC⟩ := hv
  have hx := B.exec
  have hb := B.bytes
  have hr := B.returns
  have hts := atoms_spec (ws := wsX6_takeArrivals) B.pre
  have hown : s.vm.findClass RX6 = some m.cls := findClass_of_methodNamed B.named
  have hlocks := B.notSynchronized
  subst hsz
  have hK := hC.K
  have hD := hD0
  have hS : va_S (fun q => lo ≤ q) s.heap s.heap [] := va_S.rf
  have hAlo : ∀ q, (fun q => lo ≤ q) q → lo ≤ q := fun _ h => h
  have hL : ∀ q ∈ ([] : List Loc), (fun _ : Addr => False) q.base := fun q h => by cases h
  have hP : va_P D vwCl [(nw, .inr (6, [.int dy, .ref aI, .ref aS, .ref aP, .ref aL, .ref aO, .ref aT, .ref aA, .ref aQ])), (aT, .inr (7, [.int 0, .ref aT1, .ref aT2, .ref aT3, .ref aT4, .ref aT5, .ref aT6]))] s.heap := hP
  have hl := lv_entry ([.ref nw]) (n := 2) (Nat.le_of_ble_eq_true rfl)
  rw [lg_entry_eq]
  generalize (lg_sl ([.ref nw]) ++ List.replicate (2 - (lg_sl ([.ref nw])).length) Slot.unset).toArray = ls at hl ⊢
  have hl : lv_has ls 2 [(0, .ref nw)] := hl
  have in6 : ∀ w ∈ u_ws RX6 TX6 9, w ∈ wsX6_takeArrivals := by decide +kernel
  have in7 : ∀ w ∈ u_ws RX7 TX7 7, w ∈ wsX6_takeArrivals := by decide +kernel
  refine lv_iconst (v := 0) hx hb dX6_takeArrivals_0 (by decide) ?_
  refine lv_istore_n (lv' := [(1, .int 0), (0, .ref nw)]) hx hb dX6_takeArrivals_1 rfl hl (by decide) rfl (fun ls hl => ?_)
  refine lv_iload_n hx hb dX6_takeArrivals_2 rfl (lv_at hl 0 rfl) ?_
  refine lv_aload_n hx hb dX6_takeArrivals_3 rfl (lv_at hl 1 rfl) ?_
  refine va_get (D := D) (ci := 6) (v := .ref aT) (C := RX6) (T := TX6) (N := 9) hx hb hts in6 hown hK hP 0 rfl rfl 6 (by decide) (hts (.fieldLink RX6 49 "Granary$Stock" "transports" "LGranary$Transports;") (by decide +kernel)) (fun _ h9 => h9) rfl dX6_takeArrivals_4 ?_
  refine va_get (D := D) (ci := 7) (v := .int 0) (C := RX7) (T := TX7) (N := 7) hx hb hts in7 hown hK hP 1 rfl rfl 0 (by decide) (hts (.fieldLink RX6 265 "Granary$Transports" "count" "I") (by decide +kernel)) (fun _ h9 => h9) rfl dX6_takeArrivals_7 ?_
  refine lv_icmp_ge (tgt := 53) hx hb dX6_takeArrivals_10 (by decide) (fun _ => ?_) (fun c9 => absurd (show (0 : Int32) ≤ (0 : Int32) from (by decide)) c9)
  exact W.vret hx hb hr (fun t ht hW => ⟨rfl, trivial, ht⟩) hL dX6_takeArrivals_53

set_option maxHeartbeats 4000000 in
set_option maxRecDepth 100000 in
/-- X6_serveDueOrders -/
theorem c_serveDueOrders (l : Launch) (D : va_G) (cI cZ cJ : ClassId) (lo sz : Nat) (nw : Nat) (dy : Int32) (aI : Nat) (aS : Nat) (aP : Nat) (aL : Nat) (aO : Nat) (aT : Nat) (aA : Nat) (aQ : Nat) (aO1 : Nat) (aO2 : Nat) (aO3 : Nat) (aO4 : Nat) (aO5 : Nat) (aO6 : Nat) (aO7 : Nat) (aO8 : Nat) (aO9 : Nat) (aO10 : Nat) : Met l yX6_serveDueOrders wsX6_serveDueOrders ({ frames := 0, cells := 0, slots := 0, locals := 0 }) (Pre lo D cI cZ cJ [.ref nw] sz [(nw, .inr (6, [.int dy, .ref aI, .ref aS, .ref aP, .ref aL, .ref aO, .ref aT, .ref aA, .ref aQ])), (aO, .inr (2, [.int 0, .ref aO1, .ref aO2, .ref aO3, .ref aO4, .ref aO5, .ref aO6, .ref aO7, .ref aO8, .ref aO9, .ref aO10]))]) (va_Sv (fun _ => True)) 0 0 (fun _ => False) := by
  refine Met.ofW (cc := cX6_serveDueOrders) (maxL := 2) (ret := none) (by decide) rfl ?_
  intro p e s m args below meth c s₁ B hml hv
  obtain ⟨rfl, hsz, hP, hD0, hC⟩ := hv
  have hx := B.exec
  have hb := B.bytes
  have hr := B.returns
  have hts := atoms_spec (ws := wsX6_serveDueOrders) B.pre
  have hown : s.vm.findClass RX6 = some m.cls := findClass_of_methodNamed B.named
  have hlocks := B.notSynchronized
  subst hsz
  have hK := hC.K
  have hD := hD0
  have hS : va_S (fun q => lo ≤ q) s.heap s.heap [] := va_S.rf
  have hAlo : ∀ q, (fun q => lo ≤ q) q → lo ≤ q := fun _ h => h
  have hL : ∀ q ∈ ([] : List Loc), (fun _ : Addr => False) q.base := fun q h => by cases h
  have hP : va_P D vwCl [(nw, .inr (6, [.int dy, .ref aI, .ref aS, .ref aP, .ref aL, .ref aO, .ref aT, .ref aA, .ref aQ])), (aO, .inr (2, [.int 0, .ref aO1, .ref aO2, .ref aO3, .ref aO4, .ref aO5, .ref aO6, .ref aO7, .ref aO8, .ref aO9, .ref aO10]))] s.heap := hP
  have hl := lv_entry ([.ref nw]) (n := 2) (Nat.le_of_ble_eq_true rfl)
  rw [lg_entry_eq]
  generalize (lg_sl ([.ref nw]) ++ List.replicate (2 - (lg_sl ([.ref nw])).length) Slot.unset).toArray = ls at hl ⊢
  have hl : lv_has ls 2 [(0, .ref nw)] := hl
  have in2 : ∀ w ∈ u_ws RX2 TX2 11, w ∈ wsX6_serveDueOrders := by decide +kernel
  have in6 : ∀ w ∈ u_ws RX6 TX6 9, w ∈ wsX6_serveDueOrders := by decide +kernel
  refine lv_iconst (v := 0) hx hb dX6_serveDueOrders_0 (by decide) ?_
  refine lv_istore_n (lv' := [(1, .int 0), (0, .ref nw)]) hx hb dX6_serveDueOrders_1 rfl hl (by decide) rfl (fun ls hl => ?_)
  refine lv_iload_n hx hb dX6_serveDueOrders_2 rfl (lv_at hl 0 rfl) ?_
  refine lv_aload_n hx hb dX6_serveDueOrders_3 rfl (lv_at hl 1 rfl) ?_
  refine va_get (D := D) (ci := 6) (v := .ref aO) (C := RX6) (T := TX6) (N := 9) hx hb hts in6 hown hK hP 0 rfl rfl 5 (by decide) (hts (.fieldLink RX6 42 "Granary$Stock" "orders" "LGranary$Orders;") (by decide +kernel)) (fun _ h9 => h9) rfl dX6_serveDueOrders_4 ?_
  refine va_get (D := D) (ci := 2) (v := .int 0) (C := RX2) (T := TX2) (N := 11) hx hb hts in2 hown hK hP 1 rfl rfl 0 (by decide) (hts (.fieldLink RX6 188 "Granary$Orders" "count" "I") (by decide +kernel)) (fun _ h9 => h9) rfl dX6_serveDueOrders_7 ?_
  refine lv_icmp_ge (tgt := 83) hx hb dX6_serveDueOrders_10 (by decide) (fun _ => ?_) (fun c9 => absurd (show (0 : Int32) ≤ (0 : Int32) from (by decide)) c9)
  exact W.vret hx hb hr (fun t ht hW => ⟨rfl, trivial, ht⟩) hL dX6_serveDueOrders_83

set_option maxHeartbeats 4000000 in
set_option maxRecDepth 100000 in
/-- X6_reviewAll -/
theorem c_reviewAll (l : Launch) (D : va_G) (cI cZ cJ : ClassId) (lo sz : Nat) (nw : Nat) (dy : Int32) (aI : Nat) (aS : Nat) (aP : Nat) (aL : Nat) (aO : Nat) (aT : Nat) (aA : Nat) (aQ : Nat) (aI1 : Nat) (aI2 : Nat) (aI3 : Nat) (aI4 : Nat) : Met l yX6_reviewAll wsX6_reviewAll ({ frames := 0, cells := 0, slots := 0, locals := 0 }) (Pre lo D cI cZ cJ [.ref nw] sz [(nw, .inr (6, [.int dy, .ref aI, .ref aS, .ref aP, .ref aL, .ref aO, .ref aT, .ref aA, .ref aQ])), (aI, .inr (0, [.int 0, .ref aI1, .ref aI2, .ref aI3, .ref aI4]))]) (va_Sv (fun _ => True)) 0 0 (fun _ => False) := by
  refine Met.ofW (cc := cX6_reviewAll) (maxL := 3) (ret := none) (by decide) rfl ?_
  intro p e s m args below meth c s₁ B hml hv
  obtain ⟨rfl, hsz, hP, hD0, hC⟩ := hv
  have hx := B.exec
  have hb := B.bytes
  have hr := B.returns
  have hts := atoms_spec (ws := wsX6_reviewAll) B.pre
  have hown : s.vm.findClass RX6 = some m.cls := findClass_of_methodNamed B.named
  have hlocks := B.notSynchronized
  subst hsz
  have hK := hC.K
  have hD := hD0
  have hS : va_S (fun q => lo ≤ q) s.heap s.heap [] := va_S.rf
  have hAlo : ∀ q, (fun q => lo ≤ q) q → lo ≤ q := fun _ h => h
  have hL : ∀ q ∈ ([] : List Loc), (fun _ : Addr => False) q.base := fun q h => by cases h
  have hP : va_P D vwCl [(nw, .inr (6, [.int dy, .ref aI, .ref aS, .ref aP, .ref aL, .ref aO, .ref aT, .ref aA, .ref aQ])), (aI, .inr (0, [.int 0, .ref aI1, .ref aI2, .ref aI3, .ref aI4]))] s.heap := hP
  have hl := lv_entry ([.ref nw]) (n := 3) (Nat.le_of_ble_eq_true rfl)
  rw [lg_entry_eq]
  generalize (lg_sl ([.ref nw]) ++ List.replicate (3 - (lg_sl ([.ref nw])).length) Slot.unset).toArray = ls at hl ⊢
  have hl : lv_has ls 3 [(0, .ref nw)] := hl
  have in0 : ∀ w ∈ u_ws RX0 TX0 5, w ∈ wsX6_reviewAll := by decide +kernel
  have in6 : ∀ w ∈ u_ws RX6 TX6 9, w ∈ wsX6_reviewAll := by decide +kernel
  refine lv_iconst (v := 0) hx hb dX6_reviewAll_0 (by decide) ?_
  refine lv_istore_n (lv' := [(1, .int 0), (0, .ref nw)]) hx hb dX6_reviewAll_1 rfl hl (by decide) rfl (fun ls hl => ?_)
  refine lv_iload_n hx hb dX6_reviewAll_2 rfl (lv_at hl 0 rfl) ?_
  refine lv_aload_n hx hb dX6_reviewAll_3 rfl (lv_at hl 1 rfl) ?_
  refine va_get (D := D) (ci := 6) (v := .ref aI) (C := RX6) (T := TX6) (N := 9) hx hb hts in6 hown hK hP 0 rfl rfl 1 (by decide) (hts (.fieldLink RX6 12 "Granary$Stock" "items" "LGranary$Items;") (by decide +kernel)) (fun _ h9 => h9) rfl dX6_reviewAll_4 ?_
  refine va_get (D := D) (ci := 0) (v := .int 0) (C := RX0) (T := TX0) (N := 5) hx hb hts in0 hown hK hP 1 rfl rfl 0 (by decide) (hts (.fieldLink RX6 287 "Granary$Items" "count" "I") (by decide +kernel)) (fun _ h9 => h9) rfl dX6_reviewAll_7 ?_
  refine lv_icmp_ge (tgt := 44) hx hb dX6_reviewAll_10 (by decide) (fun _ => ?_) (fun c9 => absurd (show (0 : Int32) ≤ (0 : Int32) from (by decide)) c9)
  exact W.vret hx hb hr (fun t ht hW => ⟨rfl, trivial, ht⟩) hL dX6_reviewAll_44

set_option maxHeartbeats 4000000 in
set_option maxRecDepth 100000 in
/-- X6_countHolding -/
theorem c_countHolding (l : Launch) (D : va_G) (cI cZ cJ : ClassId) (lo sz : Nat) (nw : Nat) (dy : Int32) (aI : Nat) (aS : Nat) (aP : Nat) (aL : Nat) (aO : Nat) (aT : Nat) (aA : Nat) (aQ : Nat) (aL1 : Nat) (aL2 : Nat) (aL3 : Nat) (aL4 : Nat) (aL5 : Nat) : Met l yX6_countHolding wsX6_countHolding ({ frames := 0, cells := 0, slots := 0, locals := 0 }) (Pre lo D cI cZ cJ [.ref nw] sz [(nw, .inr (6, [.int dy, .ref aI, .ref aS, .ref aP, .ref aL, .ref aO, .ref aT, .ref aA, .ref aQ])), (aL, .inr (1, [.int 0, .ref aL1, .ref aL2, .ref aL3, .ref aL4, .ref aL5]))]) (va_Sv (fun _ => True)) 0 0 (fun _ => False) := by
  refine Met.ofW (cc := cX6_countHolding) (maxL := 2) (ret := none) (by decide) rfl ?_
  intro p e s m args below meth c s₁ B hml hv
  obtain ⟨rfl, hsz, hP, hD0, hC⟩ := hv
  have hx := B.exec
  have hb := B.bytes
  have hr := B.returns
  have hts := atoms_spec (ws := wsX6_countHolding) B.pre
  have hown : s.vm.findClass RX6 = some m.cls := findClass_of_methodNamed B.named
  have hlocks := B.notSynchronized
  subst hsz
  have hK := hC.K
  have hD := hD0
  have hS : va_S (fun q => lo ≤ q) s.heap s.heap [] := va_S.rf
  have hAlo : ∀ q, (fun q => lo ≤ q) q → lo ≤ q := fun _ h => h
  have hL : ∀ q ∈ ([] : List Loc), (fun _ : Addr => False) q.base := fun q h => by cases h
  have hP : va_P D vwCl [(nw, .inr (6, [.int dy, .ref aI, .ref aS, .ref aP, .ref aL, .ref aO, .ref aT, .ref aA, .ref aQ])), (aL, .inr (1, [.int 0, .ref aL1, .ref aL2, .ref aL3, .ref aL4, .ref aL5]))] s.heap := hP
  have hl := lv_entry ([.ref nw]) (n := 2) (Nat.le_of_ble_eq_true rfl)
  rw [lg_entry_eq]
  generalize (lg_sl ([.ref nw]) ++ List.replicate (2 - (lg_sl ([.ref nw])).length) Slot.unset).toArray = ls at hl ⊢
  have hl : lv_has ls 2 [(0, .ref nw)] := hl
  have in1 : ∀ w ∈ u_ws RX1 TX1 6, w ∈ wsX6_countHolding := by decide +kernel
  have in6 : ∀ w ∈ u_ws RX6 TX6 9, w ∈ wsX6_countHolding := by decide +kernel
  refine lv_iconst (v := 0) hx hb dX6_countHolding_0 (by decide) ?_
  refine lv_istore_n (lv' := [(1, .int 0), (0, .ref nw)]) hx hb dX6_countHolding_1 rfl hl (by decide) rfl (fun ls hl => ?_)
  refine lv_iload_n hx hb dX6_countHolding_2 rfl (lv_at hl 0 rfl) ?_
  refine lv_aload_n hx hb dX6_countHolding_3 rfl (lv_at hl 1 rfl) ?_
  refine va_get (D := D) (ci := 6) (v := .ref aL) (C := RX6) (T := TX6) (N := 9) hx hb hts in6 hown hK hP 0 rfl rfl 4 (by decide) (hts (.fieldLink RX6 35 "Granary$Stock" "lots" "LGranary$Lots;") (by decide +kernel)) (fun _ h9 => h9) rfl dX6_countHolding_4 ?_
  refine va_get (D := D) (ci := 1) (v := .int 0) (C := RX1) (T := TX1) (N := 6) hx hb hts in1 hown hK hP 1 rfl rfl 0 (by decide) (hts (.fieldLink RX6 148 "Granary$Lots" "count" "I") (by decide +kernel)) (fun _ h9 => h9) rfl dX6_countHolding_7 ?_
  refine lv_icmp_ge (tgt := 54) hx hb dX6_countHolding_10 (by decide) (fun _ => ?_) (fun c9 => absurd (show (0 : Int32) ≤ (0 : Int32) from (by decide)) c9)
  exact W.vret hx hb hr (fun t ht hW => ⟨rfl, trivial, ht⟩) hL dX6_countHolding_54

set_option maxHeartbeats 4000000 in
set_option maxRecDepth 100000 in
/-- X2_punctualPart -/
theorem c_roomless (l : Launch) (D : va_G) (cI cZ cJ : ClassId) (lo sz : Nat) (aO : Nat) (aO1 : Nat) (aO2 : Nat) (aO3 : Nat) (aO4 : Nat) (aO5 : Nat) (aO6 : Nat) (aO7 : Nat) (aO8 : Nat) (aO9 : Nat) (aO10 : Nat) : Met l yX2_punctualPart wsX2_punctualPart ({ frames := 0, cells := 0, slots := 0, locals := 0 }) (Pre lo D cI cZ cJ [.ref aO] sz [(aO, .inr (2, [.int 0, .ref aO1, .ref aO2, .ref aO3, .ref aO4, .ref aO5, .ref aO6, .ref aO7, .ref aO8, .ref aO9, .ref aO10]))]) (vp_Sd (fun r => r = FP.dconst1)) 0 0 (fun _ => False) := by
  refine Met.ofW (cc := cX2_punctualPart) (maxL := 4) (ret := (some .double)) (by decide) rfl ?_
  intro p e s m args below meth c s₁ B hml hv
  obtain ⟨rfl, hsz, hP, hD0, hC⟩ := hv
  have hx := B.exec
  have hb := B.bytes
  have hr := B.returns
  have hts := atoms_spec (ws := wsX2_punctualPart) B.pre
  have hown : s.vm.findClass RX2 = some m.cls := findClass_of_methodNamed B.named
  have hlocks := B.notSynchronized
  subst hsz
  have hK := hC.K
  have hD := hD0
  have hS : va_S (fun q => lo ≤ q) s.heap s.heap [] := va_S.rf
  have hAlo : ∀ q, (fun q => lo ≤ q) q → lo ≤ q := fun _ h => h
  have hL : ∀ q ∈ ([] : List Loc), (fun _ : Addr => False) q.base := fun q h => by cases h
  have hP : va_P D vwCl [(aO, .inr (2, [.int 0, .ref aO1, .ref aO2, .ref aO3, .ref aO4, .ref aO5, .ref aO6, .ref aO7, .ref aO8, .ref aO9, .ref aO10]))] s.heap := hP
  have hl := lv_entry ([.ref aO]) (n := 4) (Nat.le_of_ble_eq_true rfl)
  rw [lg_entry_eq]
  generalize (lg_sl ([.ref aO]) ++ List.replicate (4 - (lg_sl ([.ref aO])).length) Slot.unset).toArray = ls at hl ⊢
  have hl : lv_has ls 4 [(0, .ref aO)] := hl
  have in2 : ∀ w ∈ u_ws RX2 TX2 11, w ∈ wsX2_punctualPart := by decide +kernel
  refine lv_iconst (v := 0) hx hb dX2_punctualPart_0 (by decide) ?_
  refine lv_istore_n (lv' := [(1, .int 0), (0, .ref aO)]) hx hb dX2_punctualPart_1 rfl hl (by decide) rfl (fun ls hl => ?_)
  refine lv_iconst (v := 0) hx hb dX2_punctualPart_2 (by decide) ?_
  refine lv_istore_n (lv' := [(2, .int 0), (1, .int 0), (0, .ref aO)]) hx hb dX2_punctualPart_3 rfl hl (by decide) rfl (fun ls hl => ?_)
  refine lv_iconst (v := 0) hx hb dX2_punctualPart_4 (by decide) ?_
  refine lv_istore_n (lv' := [(3, .int 0), (2, .int 0), (1, .int 0), (0, .ref aO)]) hx hb dX2_punctualPart_5 rfl hl (by decide) rfl (fun ls hl => ?_)
  refine lv_iload_n hx hb dX2_punctualPart_6 rfl (lv_at hl 0 rfl) ?_
  refine lv_aload_n hx hb dX2_punctualPart_7 rfl (lv_at hl 3 rfl) ?_
  refine va_get (D := D) (ci := 2) (v := .int 0) (C := RX2) (T := TX2) (N := 11) hx hb hts in2 hown hK hP 0 rfl rfl 0 (by decide) (hts (.fieldLink RX2 42 "Granary$Orders" "count" "I") (by decide +kernel)) (fun _ h9 => h9) rfl dX2_punctualPart_8 ?_
  refine lv_icmp_ge (tgt := 51) hx hb dX2_punctualPart_11 (by decide) (fun _ => ?_) (fun c9 => absurd (show (0 : Int32) ≤ (0 : Int32) from (by decide)) c9)
  refine lv_iload_n hx hb dX2_punctualPart_51 rfl (lv_at hl 2 rfl) ?_
  refine lv_if_ne (tgt := 59) hx hb dX2_punctualPart_52 (by decide) (fun c9 => absurd (show (0 : Int32) = (0 : Int32) from (by decide)) c9) (fun _ => ?_)
  refine lv_dconst1 hx hb dX2_punctualPart_55 ?_
  refine lv_goto (tgt := 64) hx hb dX2_punctualPart_56 (by decide) ?_
  exact W.dret (v := FP.dconst1) hx hb hr (fun t ht hW => ⟨FP.dconst1, rfl, rfl, ht⟩) hL dX2_punctualPart_64

set_option maxHeartbeats 4000000 in
set_option maxRecDepth 100000 in
/-- X8_punctuality -/
theorem c_punctuality (l : Launch) (D : va_G) (cI cZ cJ : ClassId) (lo sz : Nat) (g : Nat) (nw : Nat) (la : Nat) (pn : Nat) (dy : Int32) (aI : Nat) (aS : Nat) (aP : Nat) (aL : Nat) (aO : Nat) (aT : Nat) (aA : Nat) (aQ : Nat) (aO1 : Nat) (aO2 : Nat) (aO3 : Nat) (aO4 : Nat) (aO5 : Nat) (aO6 : Nat) (aO7 : Nat) (aO8 : Nat) (aO9 : Nat) (aO10 : Nat) : Met l yX8_punctuality wsX8_punctuality ({ frames := 1, cells := 0, slots := 0, locals := 23 }) (Pre lo D cI cZ cJ [.ref g] sz [(g, .inr (8, [.ref nw, .ref la, .ref pn])), (nw, .inr (6, [.int dy, .ref aI, .ref aS, .ref aP, .ref aL, .ref aO, .ref aT, .ref aA, .ref aQ])), (aO, .inr (2, [.int 0, .ref aO1, .ref aO2, .ref aO3, .ref aO4, .ref aO5, .ref aO6, .ref aO7, .ref aO8, .ref aO9, .ref aO10]))]) (vp_Sd (fun r => r = FP.dconst1)) 0 0 (fun _ => False) := by
  refine Met.ofW (cc := cX8_punctuality) (maxL := 1) (ret := (some .double)) (by decide) rfl ?_
  intro p e s m args below meth c s₁ B hml hv
  obtain ⟨rfl, hsz, hP, hD0, hC⟩ := hv
  have hx := B.exec
  have hb := B.bytes
  have hr := B.returns
  have hts := atoms_spec (ws := wsX8_punctuality) B.pre
  have hown : s.vm.findClass RX8 = some m.cls := findClass_of_methodNamed B.named
  have hlocks := B.notSynchronized
  subst hsz
  have hK := hC.K
  have hD := hD0
  have hS : va_S (fun q => lo ≤ q) s.heap s.heap [] := va_S.rf
  have hAlo : ∀ q, (fun q => lo ≤ q) q → lo ≤ q := fun _ h => h
  have hL : ∀ q ∈ ([] : List Loc), (fun _ : Addr => False) q.base := fun q h => by cases h
  have hP : va_P D vwCl [(g, .inr (8, [.ref nw, .ref la, .ref pn])), (nw, .inr (6, [.int dy, .ref aI, .ref aS, .ref aP, .ref aL, .ref aO, .ref aT, .ref aA, .ref aQ])), (aO, .inr (2, [.int 0, .ref aO1, .ref aO2, .ref aO3, .ref aO4, .ref aO5, .ref aO6, .ref aO7, .ref aO8, .ref aO9, .ref aO10]))] s.heap := hP
  have hl := lv_entry ([.ref g]) (n := 1) (Nat.le_of_ble_eq_true rfl)
  rw [lg_entry_eq]
  generalize (lg_sl ([.ref g]) ++ List.replicate (1 - (lg_sl ([.ref g])).length) Slot.unset).toArray = ls at hl ⊢
  have hl : lv_has ls 1 [(0, .ref g)] := hl
  have in6 : ∀ w ∈ u_ws RX6 TX6 9, w ∈ wsX8_punctuality := by decide +kernel
  have in8 : ∀ w ∈ u_ws RX8 TX8 3, w ∈ wsX8_punctuality := by decide +kernel
  refine lv_aload_n hx hb dX8_punctuality_0 rfl (lv_at hl 0 rfl) ?_
  refine va_get (D := D) (ci := 8) (v := .ref nw) (C := RX8) (T := TX8) (N := 3) hx hb hts in8 hown hK hP 0 rfl rfl 0 (by decide) (hts (.fieldLink RX8 10 "Granary" "now" "LGranary$Stock;") (by decide +kernel)) (fun _ h9 => h9) rfl dX8_punctuality_1 ?_
  refine va_get (D := D) (ci := 6) (v := .ref aO) (C := RX6) (T := TX6) (N := 9) hx hb hts in6 hown hK hP 1 rfl rfl 5 (by decide) (hts (.fieldLink RX8 131 "Granary$Stock" "orders" "LGranary$Orders;") (by decide +kernel)) (fun _ h9 => h9) rfl dX8_punctuality_4 ?_
  have hPc := hP.sub (ws' := [(aO, .inr (2, [.int 0, .ref aO1, .ref aO2, .ref aO3, .ref aO4, .ref aO5, .ref aO6, .ref aO7, .ref aO8, .ref aO9, .ref aO10]))]) [2] rfl
  have hDc := hD.sub (ws' := [(aO, .inr (2, [.int 0, .ref aO1, .ref aO2, .ref aO3, .ref aO4, .ref aO5, .ref aO6, .ref aO7, .ref aO8, .ref aO9, .ref aO10]))]) [2] (by decide) rfl
  refine vp_callSd (W.runV (As := []) (rest := []) ⟨hx, hb, hml, hown, hts⟩ (c_roomless l D cI cZ cJ lo s.heap.size aO aO1 aO2 aO3 aO4 aO5 aO6 aO7 aO8 aO9 aO10) (cwV 0 hts gX8_punctuality_X2_punctualPart rfl rfl rfl (by decide +kernel) ⟨(Nat.le_of_ble_eq_true rfl), (Nat.le_of_ble_eq_true rfl)⟩) ⟨Pre.blind, va_recv hK hP (ci := 2) (q0 := 2) rfl rfl, Pre.mk hPc (hDc.weaken (fun _ _ _ h => hAlo _ h)) hC hS hAlo⟩ rfl rfl hl.1 rfl (lv_room (Nat.le_of_ble_eq_true rfl)) dX8_punctuality_7 ⟨(Nat.le_of_ble_eq_true rfl), (Nat.le_of_ble_eq_true rfl)⟩) (fun r_1 e_2 => ?_)
  have e_2 : r_1 = FP.dconst1 := e_2
  subst e_2
  exact W.dret (v := FP.dconst1) hx hb hr (fun t ht hW => ⟨FP.dconst1, rfl, rfl, ht⟩) hL dX8_punctuality_10

set_option maxHeartbeats 4000000 in
set_option maxRecDepth 100000 in
/-- mix -/
theorem c_mix (l : Launch) (D : va_G) (cI cZ cJ : ClassId) (lo sz : Nat) (x : Int64) (y : Int64) : Met l yX8_mix wsX8_mix ({ frames := 0, cells := 0, slots := 0, locals := 0 }) (Pre lo D cI cZ cJ [.long x, .long y] sz []) (vp_Sl (fun r => r = x * 31 + y)) 0 0 (fun _ => False) := by
  refine Met.ofW (cc := cX8_mix) (maxL := 4) (ret := (some .long)) (by decide) rfl ?_
  intro p e s m args below meth c s₁ B hml hv
  obtain ⟨rfl, hsz, hP, hD0, hC⟩ := hv
  have hx := B.exec
  have hb := B.bytes
  have hr := B.returns
  have hts := atoms_spec (ws := wsX8_mix) B.pre
  have hown : s.vm.findClass RX8 = some m.cls := findClass_of_methodNamed B.named
  have hlocks := B.notSynchronized
  subst hsz
  have hK := hC.K
  have hD := hD0
  have hS : va_S (fun q => lo ≤ q) s.heap s.heap [] := va_S.rf
  have hAlo : ∀ q, (fun q => lo ≤ q) q → lo ≤ q := fun _ h => h
  have hL : ∀ q ∈ ([] : List Loc), (fun _ : Addr => False) q.base := fun q h => by cases h
  have hP : va_P D vwCl [] s.heap := hP
  have hl := lv_entry ([.long x, .long y]) (n := 4) (Nat.le_of_ble_eq_true rfl)
  rw [lg_entry_eq]
  generalize (lg_sl ([.long x, .long y]) ++ List.replicate (4 - (lg_sl ([.long x, .long y])).length) Slot.unset).toArray = ls at hl ⊢
  have hl : lv_has ls 4 [(0, .long x), (2, .long y)] := hl
  refine lv_lload_n hx hb dX8_mix_0 rfl (lv_at hl 0 rfl) ?_
  refine lv_ldc2 hx hb (v := 31) hown (hts (.constantLong RX8 285 (31)) (by decide +kernel)) dX8_mix_1 ?_
  refine lv_lmul hx hb dX8_mix_4 ?_
  refine lv_lload_n hx hb dX8_mix_5 rfl (lv_at hl 1 rfl) ?_
  refine lv_ladd hx hb dX8_mix_6 ?_
  exact W.lret (v := ((x * 31) + y)) hx hb hr (fun t ht hW => ⟨((x * 31) + y), rfl, rfl, ht⟩) hL dX8_mix_7

set_option maxHeartbeats 4000000 in
set_option maxRecDepth 100000 in
/-- mixCounts on a fresh object -/
theorem c_mixCounts (l : Launch) (D : va_G) (cI cZ cJ : ClassId) (lo sz : Nat) (g : Nat) (nw : Nat) (la : Nat) (pn : Nat) (aI : Nat) (aS : Nat) (aP : Nat) (aL : Nat) (aO : Nat) (aT : Nat) (aA : Nat) (aQ : Nat) (aI1 : Nat) (aI2 : Nat) (aI3 : Nat) (aI4 : Nat) (aS1 : Nat) (aS2 : Nat) (aL1 : Nat) (aL2 : Nat) (aL3 : Nat) (aL4 : Nat) (aL5 : Nat) (aO1 : Nat) (aO2 : Nat) (aO3 : Nat) (aO4 : Nat) (aO5 : Nat) (aO6 : Nat) (aO7 : Nat) (aO8 : Nat) (aO9 : Nat) (aO10 : Nat) (aT1 : Nat) (aT2 : Nat) (aT3 : Nat) (aT4 : Nat) (aT5 : Nat) (aT6 : Nat) : Met l yX8_mixCounts wsX8_mixCounts ({ frames := 1, cells := 0, slots := 0, locals := 23 }) (Pre lo D cI cZ cJ [.ref g, .long 58035] sz [(g, .inr (8, [.ref nw, .ref la, .ref pn])), (nw, .inr (6, [.int 0, .ref aI, .ref aS, .ref aP, .ref aL, .ref aO, .ref aT, .ref aA, .ref aQ])), (aI, .inr (0, [.int 0, .ref aI1, .ref aI2, .ref aI3, .ref aI4])), (aS, .inr (5, [.int 0, .ref aS1, .ref aS2])), (aL, .inr (1, [.int 0, .ref aL1, .ref aL2, .ref aL3, .ref aL4, .ref aL5])), (aO, .inr (2, [.int 0, .ref aO1, .ref aO2, .ref aO3, .ref aO4, .ref aO5, .ref aO6, .ref aO7, .ref aO8, .ref aO9, .ref aO10])), (aT, .inr (7, [.int 0, .ref aT1, .ref aT2, .ref aT3, .ref aT4, .ref aT5, .ref aT6])), (aA, .inl (cI, 5, .inl (fun _ => 0)))]) (vp_Sl (fun r => r = (-1158569213909762195))) 0 0 (fun _ => False) := by
  refine Met.ofW (cc := cX8_mixCounts) (maxL := 6) (ret := (some .long)) (by decide) rfl ?_
  intro p e s m args below meth c s₁ B hml hv
  obtain ⟨rfl, hsz, hP, hD0, hC⟩ := hv
  have hx := B.exec
  have hb := B.bytes
  have hr := B.returns
  have hts := atoms_spec (ws := wsX8_mixCounts) B.pre
  have hown : s.vm.findClass RX8 = some m.cls := findClass_of_methodNamed B.named
  have hlocks := B.notSynchronized
  subst hsz
  have hK := hC.K
  have hD := hD0
  have hS : va_S (fun q => lo ≤ q) s.heap s.heap [] := va_S.rf
  have hAlo : ∀ q, (fun q => lo ≤ q) q → lo ≤ q := fun _ h => h
  have hL : ∀ q ∈ ([] : List Loc), (fun _ : Addr => False) q.base := fun q h => by cases h
  have hP : va_P D vwCl [(g, .inr (8, [.ref nw, .ref la, .ref pn])), (nw, .inr (6, [.int 0, .ref aI, .ref aS, .ref aP, .ref aL, .ref aO, .ref aT, .ref aA, .ref aQ])), (aI, .inr (0, [.int 0, .ref aI1, .ref aI2, .ref aI3, .ref aI4])), (aS, .inr (5, [.int 0, .ref aS1, .ref aS2])), (aL, .inr (1, [.int 0, .ref aL1, .ref aL2, .ref aL3, .ref aL4, .ref aL5])), (aO, .inr (2, [.int 0, .ref aO1, .ref aO2, .ref aO3, .ref aO4, .ref aO5, .ref aO6, .ref aO7, .ref aO8, .ref aO9, .ref aO10])), (aT, .inr (7, [.int 0, .ref aT1, .ref aT2, .ref aT3, .ref aT4, .ref aT5, .ref aT6])), (aA, .inl (cI, 5, .inl (fun _ => 0)))] s.heap := hP
  have hl := lv_entry ([.ref g, .long 58035]) (n := 6) (Nat.le_of_ble_eq_true rfl)
  rw [lg_entry_eq]
  generalize (lg_sl ([.ref g, .long 58035]) ++ List.replicate (6 - (lg_sl ([.ref g, .long 58035])).length) Slot.unset).toArray = ls at hl ⊢
  have hl : lv_has ls 6 [(0, .ref g), (1, .long 58035)] := hl
  have in0 : ∀ w ∈ u_ws RX0 TX0 5, w ∈ wsX8_mixCounts := by decide +kernel
  have in1 : ∀ w ∈ u_ws RX1 TX1 6, w ∈ wsX8_mixCounts := by decide +kernel
  have in2 : ∀ w ∈ u_ws RX2 TX2 11, w ∈ wsX8_mixCounts := by decide +kernel
  have in5 : ∀ w ∈ u_ws RX5 TX5 3, w ∈ wsX8_mixCounts := by decide +kernel
  have in6 : ∀ w ∈ u_ws RX6 TX6 9, w ∈ wsX8_mixCounts := by decide +kernel
  have in7 : ∀ w ∈ u_ws RX7 TX7 7, w ∈ wsX8_mixCounts := by decide +kernel
  have in8 : ∀ w ∈ u_ws RX8 TX8 3, w ∈ wsX8_mixCounts := by decide +kernel
  refine lv_lload_n hx hb dX8_mixCounts_0 rfl (lv_at hl 1 rfl) ?_
  refine lv_aload_n hx hb dX8_mixCounts_1 rfl (lv_at hl 0 rfl) ?_
  refine va_get (D := D) (ci := 8) (v := .ref nw) (C := RX8) (T := TX8) (N := 3) hx hb hts in8 hown hK hP 0 rfl rfl 0 (by decide) (hts (.fieldLink RX8 10 "Granary" "now" "LGranary$Stock;") (by decide +kernel)) (fun _ h9 => h9) rfl dX8_mixCounts_2 ?_
  refine va_get (D := D) (ci := 6) (v := .int 0) (C := RX6) (T := TX6) (N := 9) hx hb hts in6 hown hK hP 1 rfl rfl 0 (by decide) (hts (.fieldLink RX8 125 "Granary$Stock" "day" "I") (by decide +kernel)) (fun _ h9 => h9) rfl dX8_mixCounts_5 ?_
  refine lv_i2l (v := 0) hx hb dX8_mixCounts_8 (by decide) ?_
  have hPc := hP.sub (ws' := []) [] rfl
  have hDc := hD.sub (ws' := []) [] (by decide) rfl
  refine vp_callSl (W.runS (As := [.long 58035, .long 0]) (rest := []) ⟨hx, hb, hml, hown, hts⟩ (c_mix l D cI cZ cJ lo s.heap.size 58035 0) (va_cwS 2 hts gX8_mixCounts_X8_mix rfl rfl rfl (by decide +kernel) ⟨(Nat.le_of_ble_eq_true rfl), (Nat.le_of_ble_eq_true rfl)⟩) ⟨Pre.blind, Pre.mk hPc (hDc.weaken (fun _ _ _ h => hAlo _ h)) hC hS hAlo⟩ rfl rfl hl.1 rfl (lv_room (Nat.le_of_ble_eq_true rfl)) dX8_mixCounts_9 ⟨(Nat.le_of_ble_eq_true rfl), (Nat.le_of_ble_eq_true rfl)⟩) (fun r_1 e_2 => ?_)
  have e_2 : r_1 = 58035 * 31 + 0 := e_2
  subst e_2
  refine lv_tol (y := 1799085) (by decide +kernel) ?_
  refine lv_lstore_n (lv' := [(3, .long 1799085), (0, .ref g), (1, .long 58035)]) hx hb dX8_mixCounts_12 rfl hl (by decide) rfl (fun ls hl => ?_)
  refine lv_lload_n hx hb dX8_mixCounts_13 rfl (lv_at hl 0 rfl) ?_
  refine lv_aload_n hx hb dX8_mixCounts_14 rfl (lv_at hl 1 rfl) ?_
  refine va_get (D := D) (ci := 8) (v := .ref nw) (C := RX8) (T := TX8) (N := 3) hx hb hts in8 hown hK hP 0 rfl rfl 0 (by decide) (hts (.fieldLink RX8 10 "Granary" "now" "LGranary$Stock;") (by decide +kernel)) (fun _ h9 => h9) rfl dX8_mixCounts_15 ?_
  refine va_get (D := D) (ci := 6) (v := .ref aI) (C := RX6) (T := TX6) (N := 9) hx hb hts in6 hown hK hP 1 rfl rfl 1 (by decide) (hts (.fieldLink RX8 30 "Granary$Stock" "items" "LGranary$Items;") (by decide +kernel)) (fun _ h9 => h9) rfl dX8_mixCounts_18 ?_
  refine va_get (D := D) (ci := 0) (v := .int 0) (C := RX0) (T := TX0) (N := 5) hx hb hts in0 hown hK hP 2 rfl rfl 0 (by decide) (hts (.fieldLink RX8 34 "Granary$Items" "count" "I") (by decide +kernel)) (fun _ h9 => h9) rfl dX8_mixCounts_21 ?_
  refine lv_i2l (v := 0) hx hb dX8_mixCounts_24 (by decide) ?_
  have hPc := hP.sub (ws' := []) [] rfl
  have hDc := hD.sub (ws' := []) [] (by decide) rfl
  refine vp_callSl (W.runS (As := [.long 1799085, .long 0]) (rest := []) ⟨hx, hb, hml, hown, hts⟩ (c_mix l D cI cZ cJ lo s.heap.size 1799085 0) (va_cwS 2 hts gX8_mixCounts_X8_mix rfl rfl rfl (by decide +kernel) ⟨(Nat.le_of_ble_eq_true rfl), (Nat.le_of_ble_eq_true rfl)⟩) ⟨Pre.blind, Pre.mk hPc (hDc.weaken (fun _ _ _ h => hAlo _ h)) hC hS hAlo⟩ rfl rfl hl.1 rfl (lv_room (Nat.le_of_ble_eq_true rfl)) dX8_mixCounts_25 ⟨(Nat.le_of_ble_eq_true rfl), (Nat.le_of_ble_eq_true rfl)⟩) (fun r_3 e_4 => ?_)
  have e_4 : r_3 = 1799085 * 31 + 0 := e_4
  subst e_4
  refine lv_tol (y := 55771635) (by decide +kernel) ?_
  refine lv_lstore_n (lv' := [(3, .long 55771635), (0, .ref g), (1, .long 58035)]) hx hb dX8_mixCounts_28 rfl hl (by decide) rfl (fun ls hl => ?_)
  refine lv_lload_n hx hb dX8_mixCounts_29 rfl (lv_at hl 0 rfl) ?_
  refine lv_aload_n hx hb dX8_mixCounts_30 rfl (lv_at hl 1 rfl) ?_
  refine va_get (D := D) (ci := 8) (v := .ref nw) (C := RX8) (T := TX8) (N := 3) hx hb hts in8 hown hK hP 0 rfl rfl 0 (by decide) (hts (.fieldLink RX8 10 "Granary" "now" "LGranary$Stock;") (by decide +kernel)) (fun _ h9 => h9) rfl dX8_mixCounts_31 ?_
  refine va_get (D := D) (ci := 6) (v := .ref aS) (C := RX6) (T := TX6) (N := 9) hx hb hts in6 hown hK hP 1 rfl rfl 2 (by decide) (hts (.fieldLink RX8 48 "Granary$Stock" "sites" "LGranary$Sites;") (by decide +kernel)) (fun _ h9 => h9) rfl dX8_mixCounts_34 ?_
  refine va_get (D := D) (ci := 5) (v := .int 0) (C := RX5) (T := TX5) (N := 3) hx hb hts in5 hown hK hP 3 rfl rfl 0 (by decide) (hts (.fieldLink RX8 52 "Granary$Sites" "count" "I") (by decide +kernel)) (fun _ h9 => h9) rfl dX8_mixCounts_37 ?_
  refine lv_i2l (v := 0) hx hb dX8_mixCounts_40 (by decide) ?_
  have hPc := hP.sub (ws' := []) [] rfl
  have hDc := hD.sub (ws' := []) [] (by decide) rfl
  refine vp_callSl (W.runS (As := [.long 55771635, .long 0]) (rest := []) ⟨hx, hb, hml, hown, hts⟩ (c_mix l D cI cZ cJ lo s.heap.size 55771635 0) (va_cwS 2 hts gX8_mixCounts_X8_mix rfl rfl rfl (by decide +kernel) ⟨(Nat.le_of_ble_eq_true rfl), (Nat.le_of_ble_eq_true rfl)⟩) ⟨Pre.blind, Pre.mk hPc (hDc.weaken (fun _ _ _ h => hAlo _ h)) hC hS hAlo⟩ rfl rfl hl.1 rfl (lv_room (Nat.le_of_ble_eq_true rfl)) dX8_mixCounts_41 ⟨(Nat.le_of_ble_eq_true rfl), (Nat.le_of_ble_eq_true rfl)⟩) (fun r_5 e_6 => ?_)
  have e_6 : r_5 = 55771635 * 31 + 0 := e_6
  subst e_6
  refine lv_tol (y := 1728920685) (by decide +kernel) ?_
  refine lv_lstore_n (lv' := [(3, .long 1728920685), (0, .ref g), (1, .long 58035)]) hx hb dX8_mixCounts_44 rfl hl (by decide) rfl (fun ls hl => ?_)
  refine lv_lload_n hx hb dX8_mixCounts_45 rfl (lv_at hl 0 rfl) ?_
  refine lv_aload_n hx hb dX8_mixCounts_46 rfl (lv_at hl 1 rfl) ?_
  refine va_get (D := D) (ci := 8) (v := .ref nw) (C := RX8) (T := TX8) (N := 3) hx hb hts in8 hown hK hP 0 rfl rfl 0 (by decide) (hts (.fieldLink RX8 10 "Granary" "now" "LGranary$Stock;") (by decide +kernel)) (fun _ h9 => h9) rfl dX8_mixCounts_47 ?_
  refine va_get (D := D) (ci := 6) (v := .ref aL) (C := RX6) (T := TX6) (N := 9) hx hb hts in6 hown hK hP 1 rfl rfl 4 (by decide) (hts (.fieldLink RX8 109 "Granary$Stock" "lots" "LGranary$Lots;") (by decide +kernel)) (fun _ h9 => h9) rfl dX8_mixCounts_50 ?_
  refine va_get (D := D) (ci := 1) (v := .int 0) (C := RX1) (T := TX1) (N := 6) hx hb hts in1 hown hK hP 4 rfl rfl 0 (by decide) (hts (.fieldLink RX8 113 "Granary$Lots" "count" "I") (by decide +kernel)) (fun _ h9 => h9) rfl dX8_mixCounts_53 ?_
  refine lv_i2l (v := 0) hx hb dX8_mixCounts_56 (by decide) ?_
  have hPc := hP.sub (ws' := []) [] rfl
  have hDc := hD.sub (ws' := []) [] (by decide) rfl
  refine vp_callSl (W.runS (As := [.long 1728920685, .long 0]) (rest := []) ⟨hx, hb, hml, hown, hts⟩ (c_mix l D cI cZ cJ lo s.heap.size 1728920685 0) (va_cwS 2 hts gX8_mixCounts_X8_mix rfl rfl rfl (by decide +kernel) ⟨(Nat.le_of_ble_eq_true rfl), (Nat.le_of_ble_eq_true rfl)⟩) ⟨Pre.blind, Pre.mk hPc (hDc.weaken (fun _ _ _ h => hAlo _ h)) hC hS hAlo⟩ rfl rfl hl.1 rfl (lv_room (Nat.le_of_ble_eq_true rfl)) dX8_mixCounts_57 ⟨(Nat.le_of_ble_eq_true rfl), (Nat.le_of_ble_eq_true rfl)⟩) (fun r_7 e_8 => ?_)
  have e_8 : r_7 = 1728920685 * 31 + 0 := e_8
  subst e_8
  refine lv_tol (y := 53596541235) (by decide +kernel) ?_
  refine lv_lstore_n (lv' := [(3, .long 53596541235), (0, .ref g), (1, .long 58035)]) hx hb dX8_mixCounts_60 rfl hl (by decide) rfl (fun ls hl => ?_)
  refine lv_lload_n hx hb dX8_mixCounts_61 rfl (lv_at hl 0 rfl) ?_
  refine lv_aload_n hx hb dX8_mixCounts_62 rfl (lv_at hl 1 rfl) ?_
  refine va_get (D := D) (ci := 8) (v := .ref nw) (C := RX8) (T := TX8) (N := 3) hx hb hts in8 hown hK hP 0 rfl rfl 0 (by decide) (hts (.fieldLink RX8 10 "Granary" "now" "LGranary$Stock;") (by decide +kernel)) (fun _ h9 => h9) rfl dX8_mixCounts_63 ?_
  refine va_get (D := D) (ci := 6) (v := .ref aO) (C := RX6) (T := TX6) (N := 9) hx hb hts in6 hown hK hP 1 rfl rfl 5 (by decide) (hts (.fieldLink RX8 131 "Granary$Stock" "orders" "LGranary$Orders;") (by decide +kernel)) (fun _ h9 => h9) rfl dX8_mixCounts_66 ?_
  refine va_get (D := D) (ci := 2) (v := .int 0) (C := RX2) (T := TX2) (N := 11) hx hb hts in2 hown hK hP 5 rfl rfl 0 (by decide) (hts (.fieldLink RX8 135 "Granary$Orders" "count" "I") (by decide +kernel)) (fun _ h9 => h9) rfl dX8_mixCounts_69 ?_
  refine lv_i2l (v := 0) hx hb dX8_mixCounts_72 (by decide) ?_
  have hPc := hP.sub (ws' := []) [] rfl
  have hDc := hD.sub (ws' := []) [] (by decide) rfl
  refine vp_callSl (W.runS (As := [.long 53596541235, .long 0]) (rest := []) ⟨hx, hb, hml, hown, hts⟩ (c_mix l D cI cZ cJ lo s.heap.size 53596541235 0) (va_cwS 2 hts gX8_mixCounts_X8_mix rfl rfl rfl (by decide +kernel) ⟨(Nat.le_of_ble_eq_true rfl), (Nat.le_of_ble_eq_true rfl)⟩) ⟨Pre.blind, Pre.mk hPc (hDc.weaken (fun _ _ _ h => hAlo _ h)) hC hS hAlo⟩ rfl rfl hl.1 rfl (lv_room (Nat.le_of_ble_eq_true rfl)) dX8_mixCounts_73 ⟨(Nat.le_of_ble_eq_true rfl), (Nat.le_of_ble_eq_true rfl)⟩) (fun r_9 e_10 => ?_)
  have e_10 : r_9 = 53596541235 * 31 + 0 := e_10
  subst e_10
  refine lv_tol (y := 1661492778285) (by decide +kernel) ?_
  refine lv_lstore_n (lv' := [(3, .long 1661492778285), (0, .ref g), (1, .long 58035)]) hx hb dX8_mixCounts_76 rfl hl (by decide) rfl (fun ls hl => ?_)
  refine lv_lload_n hx hb dX8_mixCounts_77 rfl (lv_at hl 0 rfl) ?_
  refine lv_aload_n hx hb dX8_mixCounts_78 rfl (lv_at hl 1 rfl) ?_
  refine va_get (D := D) (ci := 8) (v := .ref nw) (C := RX8) (T := TX8) (N := 3) hx hb hts in8 hown hK hP 0 rfl rfl 0 (by decide) (hts (.fieldLink RX8 10 "Granary" "now" "LGranary$Stock;") (by decide +kernel)) (fun _ h9 => h9) rfl dX8_mixCounts_79 ?_
  refine va_get (D := D) (ci := 6) (v := .ref aT) (C := RX6) (T := TX6) (N := 9) hx hb hts in6 hown hK hP 1 rfl rfl 6 (by decide) (hts (.fieldLink RX8 183 "Granary$Stock" "transports" "LGranary$Transports;") (by decide +kernel)) (fun _ h9 => h9) rfl dX8_mixCounts_82 ?_
  refine va_get (D := D) (ci := 7) (v := .int 0) (C := RX7) (T := TX7) (N := 7) hx hb hts in7 hown hK hP 6 rfl rfl 0 (by decide) (hts (.fieldLink RX8 187 "Granary$Transports" "count" "I") (by decide +kernel)) (fun _ h9 => h9) rfl dX8_mixCounts_85 ?_
  refine lv_i2l (v := 0) hx hb dX8_mixCounts_88 (by decide) ?_
  have hPc := hP.sub (ws' := []) [] rfl
  have hDc := hD.sub (ws' := []) [] (by decide) rfl
  refine vp_callSl (W.runS (As := [.long 1661492778285, .long 0]) (rest := []) ⟨hx, hb, hml, hown, hts⟩ (c_mix l D cI cZ cJ lo s.heap.size 1661492778285 0) (va_cwS 2 hts gX8_mixCounts_X8_mix rfl rfl rfl (by decide +kernel) ⟨(Nat.le_of_ble_eq_true rfl), (Nat.le_of_ble_eq_true rfl)⟩) ⟨Pre.blind, Pre.mk hPc (hDc.weaken (fun _ _ _ h => hAlo _ h)) hC hS hAlo⟩ rfl rfl hl.1 rfl (lv_room (Nat.le_of_ble_eq_true rfl)) dX8_mixCounts_89 ⟨(Nat.le_of_ble_eq_true rfl), (Nat.le_of_ble_eq_true rfl)⟩) (fun r_11 e_12 => ?_)
  have e_12 : r_11 = 1661492778285 * 31 + 0 := e_12
  subst e_12
  refine lv_tol (y := 51506276126835) (by decide +kernel) ?_
  refine lv_lstore_n (lv' := [(3, .long 51506276126835), (0, .ref g), (1, .long 58035)]) hx hb dX8_mixCounts_92 rfl hl (by decide) rfl (fun ls hl => ?_)
  refine lv_iconst (v := 0) hx hb dX8_mixCounts_93 (by decide) ?_
  refine lv_istore (lv' := [(5, .int 0), (3, .long 51506276126835), (0, .ref g), (1, .long 58035)]) hx hb dX8_mixCounts_94 hl (by decide) rfl (fun ls hl => ?_)
  refine lv_iload hx hb dX8_mixCounts_96 (lv_at hl 0 rfl) ?_
  refine lv_iconst (v := 5) hx hb dX8_mixCounts_98 (by decide) ?_
  refine lv_icmp_ge (tgt := 124) hx hb dX8_mixCounts_99 (by decide) (fun c9 => absurd c9 (show ¬ ((5 : Int32) ≤ (0 : Int32)) from (by decide))) (fun _ => ?_)
  refine lv_lload_n hx hb dX8_mixCounts_102 rfl (lv_at hl 1 rfl) ?_
  refine lv_aload_n hx hb dX8_mixCounts_103 rfl (lv_at hl 2 rfl) ?_
  refine va_get (D := D) (ci := 8) (v := .ref nw) (C := RX8) (T := TX8) (N := 3) hx hb hts in8 hown hK hP 0 rfl rfl 0 (by decide) (hts (.fieldLink RX8 10 "Granary" "now" "LGranary$Stock;") (by decide +kernel)) (fun _ h9 => h9) rfl dX8_mixCounts_104 ?_
  refine va_get (D := D) (ci := 6) (v := .ref aA) (C := RX6) (T := TX6) (N := 9) hx hb hts in6 hown hK hP 1 rfl rfl 7 (by decide) (hts (.fieldLink RX8 119 "Granary$Stock" "account" "[I") (by decide +kernel)) (fun _ h9 => h9) rfl dX8_mixCounts_107 ?_
  refine lv_iload hx hb dX8_mixCounts_110 (lv_at hl 0 rfl) ?_
  refine va_iald hx hb hK hP 7 0 rfl rfl (by unfold vp_in; decide) dX8_mixCounts_112 ?_
  refine lv_toi (y := 0) rfl ?_
  refine lv_i2l (v := 0) hx hb dX8_mixCounts_113 (by decide) ?_
  have hPc := hP.sub (ws' := []) [] rfl
  have hDc := hD.sub (ws' := []) [] (by decide) rfl
  refine vp_callSl (W.runS (As := [.long 51506276126835, .long 0]) (rest := []) ⟨hx, hb, hml, hown, hts⟩ (c_mix l D cI cZ cJ lo s.heap.size 51506276126835 0) (va_cwS 2 hts gX8_mixCounts_X8_mix rfl rfl rfl (by decide +kernel) ⟨(Nat.le_of_ble_eq_true rfl), (Nat.le_of_ble_eq_true rfl)⟩) ⟨Pre.blind, Pre.mk hPc (hDc.weaken (fun _ _ _ h => hAlo _ h)) hC hS hAlo⟩ rfl rfl hl.1 rfl (lv_room (Nat.le_of_ble_eq_true rfl)) dX8_mixCounts_114 ⟨(Nat.le_of_ble_eq_true rfl), (Nat.le_of_ble_eq_true rfl)⟩) (fun r_13 e_14 => ?_)
  have e_14 : r_13 = 51506276126835 * 31 + 0 := e_14
  subst e_14
  refine lv_tol (y := 1596694559931885) (by decide +kernel) ?_
  refine lv_lstore_n (lv' := [(3, .long 1596694559931885), (5, .int 0), (0, .ref g), (1, .long 58035)]) hx hb dX8_mixCounts_117 rfl hl (by decide) rfl (fun ls hl => ?_)
  refine lv_iinc (v := 1) (lv' := [(5, .int 1), (3, .long 1596694559931885), (0, .ref g), (1, .long 58035)]) hx hb dX8_mixCounts_118 hl (k := 1) rfl (by decide) (by decide) rfl (fun ls hl => ?_)
  refine lv_goto (tgt := 96) hx hb dX8_mixCounts_121 (by decide) ?_
  refine lv_iload hx hb dX8_mixCounts_96 (lv_at hl 0 rfl) ?_
  refine lv_iconst (v := 5) hx hb dX8_mixCounts_98 (by decide) ?_
  refine lv_icmp_ge (tgt := 124) hx hb dX8_mixCounts_99 (by decide) (fun c9 => absurd c9 (show ¬ ((5 : Int32) ≤ (1 : Int32)) from (by decide))) (fun _ => ?_)
  refine lv_lload_n hx hb dX8_mixCounts_102 rfl (lv_at hl 1 rfl) ?_
  refine lv_aload_n hx hb dX8_mixCounts_103 rfl (lv_at hl 2 rfl) ?_
  refine va_get (D := D) (ci := 8) (v := .ref nw) (C := RX8) (T := TX8) (N := 3) hx hb hts in8 hown hK hP 0 rfl rfl 0 (by decide) (hts (.fieldLink RX8 10 "Granary" "now" "LGranary$Stock;") (by decide +kernel)) (fun _ h9 => h9) rfl dX8_mixCounts_104 ?_
  refine va_get (D := D) (ci := 6) (v := .ref aA) (C := RX6) (T := TX6) (N := 9) hx hb hts in6 hown hK hP 1 rfl rfl 7 (by decide) (hts (.fieldLink RX8 119 "Granary$Stock" "account" "[I") (by decide +kernel)) (fun _ h9 => h9) rfl dX8_mixCounts_107 ?_
  refine lv_iload hx hb dX8_mixCounts_110 (lv_at hl 0 rfl) ?_
  refine va_iald hx hb hK hP 7 0 rfl rfl (by unfold vp_in; decide) dX8_mixCounts_112 ?_
  refine lv_toi (y := 0) rfl ?_
  refine lv_i2l (v := 0) hx hb dX8_mixCounts_113 (by decide) ?_
  have hPc := hP.sub (ws' := []) [] rfl
  have hDc := hD.sub (ws' := []) [] (by decide) rfl
  refine vp_callSl (W.runS (As := [.long 1596694559931885, .long 0]) (rest := []) ⟨hx, hb, hml, hown, hts⟩ (c_mix l D cI cZ cJ lo s.heap.size 1596694559931885 0) (va_cwS 2 hts gX8_mixCounts_X8_mix rfl rfl rfl (by decide +kernel) ⟨(Nat.le_of_ble_eq_true rfl), (Nat.le_of_ble_eq_true rfl)⟩) ⟨Pre.blind, Pre.mk hPc (hDc.weaken (fun _ _ _ h => hAlo _ h)) hC hS hAlo⟩ rfl rfl hl.1 rfl (lv_room (Nat.le_of_ble_eq_true rfl)) dX8_mixCounts_114 ⟨(Nat.le_of_ble_eq_true rfl), (Nat.le_of_ble_eq_true rfl)⟩) (fun r_15 e_16 => ?_)
  have e_16 : r_15 = 1596694559931885 * 31 + 0 := e_16
  subst e_16
  refine lv_tol (y := 49497531357888435) (by decide +kernel) ?_
  refine lv_lstore_n (lv' := [(3, .long 49497531357888435), (5, .int 1), (0, .ref g), (1, .long 58035)]) hx hb dX8_mixCounts_117 rfl hl (by decide) rfl (fun ls hl => ?_)
  refine lv_iinc (v := 2) (lv' := [(5, .int 2), (3, .long 49497531357888435), (0, .ref g), (1, .long 58035)]) hx hb dX8_mixCounts_118 hl (k := 1) rfl (by decide) (by decide) rfl (fun ls hl => ?_)
  refine lv_goto (tgt := 96) hx hb dX8_mixCounts_121 (by decide) ?_
  refine lv_iload hx hb dX8_mixCounts_96 (lv_at hl 0 rfl) ?_
  refine lv_iconst (v := 5) hx hb dX8_mixCounts_98 (by decide) ?_
  refine lv_icmp_ge (tgt := 124) hx hb dX8_mixCounts_99 (by decide) (fun c9 => absurd c9 (show ¬ ((5 : Int32) ≤ (2 : Int32)) from (by decide))) (fun _ => ?_)
  refine lv_lload_n hx hb dX8_mixCounts_102 rfl (lv_at hl 1 rfl) ?_
  refine lv_aload_n hx hb dX8_mixCounts_103 rfl (lv_at hl 2 rfl) ?_
  refine va_get (D := D) (ci := 8) (v := .ref nw) (C := RX8) (T := TX8) (N := 3) hx hb hts in8 hown hK hP 0 rfl rfl 0 (by decide) (hts (.fieldLink RX8 10 "Granary" "now" "LGranary$Stock;") (by decide +kernel)) (fun _ h9 => h9) rfl dX8_mixCounts_104 ?_
  refine va_get (D := D) (ci := 6) (v := .ref aA) (C := RX6) (T := TX6) (N := 9) hx hb hts in6 hown hK hP 1 rfl rfl 7 (by decide) (hts (.fieldLink RX8 119 "Granary$Stock" "account" "[I") (by decide +kernel)) (fun _ h9 => h9) rfl dX8_mixCounts_107 ?_
  refine lv_iload hx hb dX8_mixCounts_110 (lv_at hl 0 rfl) ?_
  refine va_iald hx hb hK hP 7 0 rfl rfl (by unfold vp_in; decide) dX8_mixCounts_112 ?_
  refine lv_toi (y := 0) rfl ?_
  refine lv_i2l (v := 0) hx hb dX8_mixCounts_113 (by decide) ?_
  have hPc := hP.sub (ws' := []) [] rfl
  have hDc := hD.sub (ws' := []) [] (by decide) rfl
  refine vp_callSl (W.runS (As := [.long 49497531357888435, .long 0]) (rest := []) ⟨hx, hb, hml, hown, hts⟩ (c_mix l D cI cZ cJ lo s.heap.size 49497531357888435 0) (va_cwS 2 hts gX8_mixCounts_X8_mix rfl rfl rfl (by decide +kernel) ⟨(Nat.le_of_ble_eq_true rfl), (Nat.le_of_ble_eq_true rfl)⟩) ⟨Pre.blind, Pre.mk hPc (hDc.weaken (fun _ _ _ h => hAlo _ h)) hC hS hAlo⟩ rfl rfl hl.1 rfl (lv_room (Nat.le_of_ble_eq_true rfl)) dX8_mixCounts_114 ⟨(Nat.le_of_ble_eq_true rfl), (Nat.le_of_ble_eq_true rfl)⟩) (fun r_17 e_18 => ?_)
  have e_18 : r_17 = 49497531357888435 * 31 + 0 := e_18
  subst e_18
  refine lv_tol (y := 1534423472094541485) (by decide +kernel) ?_
  refine lv_lstore_n (lv' := [(3, .long 1534423472094541485), (5, .int 2), (0, .ref g), (1, .long 58035)]) hx hb dX8_mixCounts_117 rfl hl (by decide) rfl (fun ls hl => ?_)
  refine lv_iinc (v := 3) (lv' := [(5, .int 3), (3, .long 1534423472094541485), (0, .ref g), (1, .long 58035)]) hx hb dX8_mixCounts_118 hl (k := 1) rfl (by decide) (by decide) rfl (fun ls hl => ?_)
  refine lv_goto (tgt := 96) hx hb dX8_mixCounts_121 (by decide) ?_
  refine lv_iload hx hb dX8_mixCounts_96 (lv_at hl 0 rfl) ?_
  refine lv_iconst (v := 5) hx hb dX8_mixCounts_98 (by decide) ?_
  refine lv_icmp_ge (tgt := 124) hx hb dX8_mixCounts_99 (by decide) (fun c9 => absurd c9 (show ¬ ((5 : Int32) ≤ (3 : Int32)) from (by decide))) (fun _ => ?_)
  refine lv_lload_n hx hb dX8_mixCounts_102 rfl (lv_at hl 1 rfl) ?_
  refine lv_aload_n hx hb dX8_mixCounts_103 rfl (lv_at hl 2 rfl) ?_
  refine va_get (D := D) (ci := 8) (v := .ref nw) (C := RX8) (T := TX8) (N := 3) hx hb hts in8 hown hK hP 0 rfl rfl 0 (by decide) (hts (.fieldLink RX8 10 "Granary" "now" "LGranary$Stock;") (by decide +kernel)) (fun _ h9 => h9) rfl dX8_mixCounts_104 ?_
  refine va_get (D := D) (ci := 6) (v := .ref aA) (C := RX6) (T := TX6) (N := 9) hx hb hts in6 hown hK hP 1 rfl rfl 7 (by decide) (hts (.fieldLink RX8 119 "Granary$Stock" "account" "[I") (by decide +kernel)) (fun _ h9 => h9) rfl dX8_mixCounts_107 ?_
  refine lv_iload hx hb dX8_mixCounts_110 (lv_at hl 0 rfl) ?_
  refine va_iald hx hb hK hP 7 0 rfl rfl (by unfold vp_in; decide) dX8_mixCounts_112 ?_
  refine lv_toi (y := 0) rfl ?_
  refine lv_i2l (v := 0) hx hb dX8_mixCounts_113 (by decide) ?_
  have hPc := hP.sub (ws' := []) [] rfl
  have hDc := hD.sub (ws' := []) [] (by decide) rfl
  refine vp_callSl (W.runS (As := [.long 1534423472094541485, .long 0]) (rest := []) ⟨hx, hb, hml, hown, hts⟩ (c_mix l D cI cZ cJ lo s.heap.size 1534423472094541485 0) (va_cwS 2 hts gX8_mixCounts_X8_mix rfl rfl rfl (by decide +kernel) ⟨(Nat.le_of_ble_eq_true rfl), (Nat.le_of_ble_eq_true rfl)⟩) ⟨Pre.blind, Pre.mk hPc (hDc.weaken (fun _ _ _ h => hAlo _ h)) hC hS hAlo⟩ rfl rfl hl.1 rfl (lv_room (Nat.le_of_ble_eq_true rfl)) dX8_mixCounts_114 ⟨(Nat.le_of_ble_eq_true rfl), (Nat.le_of_ble_eq_true rfl)⟩) (fun r_19 e_20 => ?_)
  have e_20 : r_19 = 1534423472094541485 * 31 + 0 := e_20
  subst e_20
  refine lv_tol (y := (-7773104586197868813)) (by decide +kernel) ?_
  refine lv_lstore_n (lv' := [(3, .long (-7773104586197868813)), (5, .int 3), (0, .ref g), (1, .long 58035)]) hx hb dX8_mixCounts_117 rfl hl (by decide) rfl (fun ls hl => ?_)
  refine lv_iinc (v := 4) (lv' := [(5, .int 4), (3, .long (-7773104586197868813)), (0, .ref g), (1, .long 58035)]) hx hb dX8_mixCounts_118 hl (k := 1) rfl (by decide) (by decide) rfl (fun ls hl => ?_)
  refine lv_goto (tgt := 96) hx hb dX8_mixCounts_121 (by decide) ?_
  refine lv_iload hx hb dX8_mixCounts_96 (lv_at hl 0 rfl) ?_
  refine lv_iconst (v := 5) hx hb dX8_mixCounts_98 (by decide) ?_
  refine lv_icmp_ge (tgt := 124) hx hb dX8_mixCounts_99 (by decide) (fun c9 => absurd c9 (show ¬ ((5 : Int32) ≤ (4 : Int32)) from (by decide))) (fun _ => ?_)
  refine lv_lload_n hx hb dX8_mixCounts_102 rfl (lv_at hl 1 rfl) ?_
  refine lv_aload_n hx hb dX8_mixCounts_103 rfl (lv_at hl 2 rfl) ?_
  refine va_get (D := D) (ci := 8) (v := .ref nw) (C := RX8) (T := TX8) (N := 3) hx hb hts in8 hown hK hP 0 rfl rfl 0 (by decide) (hts (.fieldLink RX8 10 "Granary" "now" "LGranary$Stock;") (by decide +kernel)) (fun _ h9 => h9) rfl dX8_mixCounts_104 ?_
  refine va_get (D := D) (ci := 6) (v := .ref aA) (C := RX6) (T := TX6) (N := 9) hx hb hts in6 hown hK hP 1 rfl rfl 7 (by decide) (hts (.fieldLink RX8 119 "Granary$Stock" "account" "[I") (by decide +kernel)) (fun _ h9 => h9) rfl dX8_mixCounts_107 ?_
  refine lv_iload hx hb dX8_mixCounts_110 (lv_at hl 0 rfl) ?_
  refine va_iald hx hb hK hP 7 0 rfl rfl (by unfold vp_in; decide) dX8_mixCounts_112 ?_
  refine lv_toi (y := 0) rfl ?_
  refine lv_i2l (v := 0) hx hb dX8_mixCounts_113 (by decide) ?_
  have hPc := hP.sub (ws' := []) [] rfl
  have hDc := hD.sub (ws' := []) [] (by decide) rfl
  refine vp_callSl (W.runS (As := [.long (-7773104586197868813), .long 0]) (rest := []) ⟨hx, hb, hml, hown, hts⟩ (c_mix l D cI cZ cJ lo s.heap.size (-7773104586197868813) 0) (va_cwS 2 hts gX8_mixCounts_X8_mix rfl rfl rfl (by decide +kernel) ⟨(Nat.le_of_ble_eq_true rfl), (Nat.le_of_ble_eq_true rfl)⟩) ⟨Pre.blind, Pre.mk hPc (hDc.weaken (fun _ _ _ h => hAlo _ h)) hC hS hAlo⟩ rfl rfl hl.1 rfl (lv_room (Nat.le_of_ble_eq_true rfl)) dX8_mixCounts_114 ⟨(Nat.le_of_ble_eq_true rfl), (Nat.le_of_ble_eq_true rfl)⟩) (fun r_21 e_22 => ?_)
  have e_22 : r_21 = (-7773104586197868813) * 31 + 0 := e_22
  subst e_22
  refine lv_tol (y := (-1158569213909762195)) (by decide +kernel) ?_
  refine lv_lstore_n (lv' := [(3, .long (-1158569213909762195)), (5, .int 4), (0, .ref g), (1, .long 58035)]) hx hb dX8_mixCounts_117 rfl hl (by decide) rfl (fun ls hl => ?_)
  refine lv_iinc (v := 5) (lv' := [(5, .int 5), (3, .long (-1158569213909762195)), (0, .ref g), (1, .long 58035)]) hx hb dX8_mixCounts_118 hl (k := 1) rfl (by decide) (by decide) rfl (fun ls hl => ?_)
  refine lv_goto (tgt := 96) hx hb dX8_mixCounts_121 (by decide) ?_
  refine lv_iload hx hb dX8_mixCounts_96 (lv_at hl 0 rfl) ?_
  refine lv_iconst (v := 5) hx hb dX8_mixCounts_98 (by decide) ?_
  refine lv_icmp_ge (tgt := 124) hx hb dX8_mixCounts_99 (by decide) (fun _ => ?_) (fun c9 => absurd (show (5 : Int32) ≤ (5 : Int32) from (by decide)) c9)
  refine lv_lload_n hx hb dX8_mixCounts_124 rfl (lv_at hl 1 rfl) ?_
  exact W.lret (v := (-1158569213909762195)) hx hb hr (fun t ht hW => ⟨(-1158569213909762195), rfl, rfl, ht⟩) hL dX8_mixCounts_125

set_option maxHeartbeats 4000000 in
set_option maxRecDepth 100000 in
/-- X8_mixLots -/
theorem c_mixLots (l : Launch) (D : va_G) (cI cZ cJ : ClassId) (lo sz : Nat) (g : Nat) (nw : Nat) (la : Nat) (pn : Nat) (dy : Int32) (aI : Nat) (aS : Nat) (aP : Nat) (aL : Nat) (aO : Nat) (aT : Nat) (aA : Nat) (aQ : Nat) (aL1 : Nat) (aL2 : Nat) (aL3 : Nat) (aL4 : Nat) (aL5 : Nat) (x : Int64) : Met l yX8_mixLots wsX8_mixLots ({ frames := 0, cells := 0, slots := 0, locals := 0 }) (Pre lo D cI cZ cJ [.ref g, .long x] sz [(g, .inr (8, [.ref nw, .ref la, .ref pn])), (nw, .inr (6, [.int dy, .ref aI, .ref aS, .ref aP, .ref aL, .ref aO, .ref aT, .ref aA, .ref aQ])), (aL, .inr (1, [.int 0, .ref aL1, .ref aL2, .ref aL3, .ref aL4, .ref aL5]))]) (vp_Sl (fun r => r = x)) 0 0 (fun _ => False) := by
  refine Met.ofW (cc := cX8_mixLots) (maxL := 7) (ret := (some .long)) (by decide) rfl ?_
  intro p e s m args below meth c s₁ B hml hv
  obtain ⟨rfl, hsz, hP, hD0, hC⟩ := hv
  have hx := B.exec
  have hb := B.bytes
  have hr := B.returns
  have hts := atoms_spec (ws := wsX8_mixLots) B.pre
  have hown : s.vm.findClass RX8 = some m.cls := findClass_of_methodNamed B.named
  have hlocks := B.notSynchronized
  subst hsz
  have hK := hC.K
  have hD := hD0
  have hS : va_S (fun q => lo ≤ q) s.heap s.heap [] := va_S.rf
  have hAlo : ∀ q, (fun q => lo ≤ q) q → lo ≤ q := fun _ h => h
  have hL : ∀ q ∈ ([] : List Loc), (fun _ : Addr => False) q.base := fun q h => by cases h
  have hP : va_P D vwCl [(g, .inr (8, [.ref nw, .ref la, .ref pn])), (nw, .inr (6, [.int dy, .ref aI, .ref aS, .ref aP, .ref aL, .ref aO, .ref aT, .ref aA, .ref aQ])), (aL, .inr (1, [.int 0, .ref aL1, .ref aL2, .ref aL3, .ref aL4, .ref aL5]))] s.heap := hP
  have hl := lv_entry ([.ref g, .long x]) (n := 7) (Nat.le_of_ble_eq_true rfl)
  rw [lg_entry_eq]
  generalize (lg_sl ([.ref g, .long x]) ++ List.replicate (7 - (lg_sl ([.ref g, .long x])).length) Slot.unset).toArray = ls at hl ⊢
  have hl : lv_has ls 7 [(0, .ref g), (1, .long x)] := hl
  have in1 : ∀ w ∈ u_ws RX1 TX1 6, w ∈ wsX8_mixLots := by decide +kernel
  have in6 : ∀ w ∈ u_ws RX6 TX6 9, w ∈ wsX8_mixLots := by decide +kernel
  have in8 : ∀ w ∈ u_ws RX8 TX8 3, w ∈ wsX8_mixLots := by decide +kernel
  refine lv_lload_n hx hb dX8_mixLots_0 rfl (lv_at hl 1 rfl) ?_
  refine lv_lstore_n (lv' := [(3, .long x), (0, .ref g), (1, .long x)]) hx hb dX8_mixLots_1 rfl hl (by decide) rfl (fun ls hl => ?_)
  refine lv_iconst (v := 0) hx hb dX8_mixLots_2 (by decide) ?_
  refine lv_istore (lv' := [(5, .int 0), (3, .long x), (0, .ref g), (1, .long x)]) hx hb dX8_mixLots_3 hl (by decide) rfl (fun ls hl => ?_)
  refine lv_iload hx hb dX8_mixLots_5 (lv_at hl 0 rfl) ?_
  refine lv_aload_n hx hb dX8_mixLots_7 rfl (lv_at hl 2 rfl) ?_
  refine va_get (D := D) (ci := 8) (v := .ref nw) (C := RX8) (T := TX8) (N := 3) hx hb hts in8 hown hK hP 0 rfl rfl 0 (by decide) (hts (.fieldLink RX8 10 "Granary" "now" "LGranary$Stock;") (by decide +kernel)) (fun _ h9 => h9) rfl dX8_mixLots_8 ?_
  refine va_get (D := D) (ci := 6) (v := .ref aL) (C := RX6) (T := TX6) (N := 9) hx hb hts in6 hown hK hP 1 rfl rfl 4 (by decide) (hts (.fieldLink RX8 109 "Granary$Stock" "lots" "LGranary$Lots;") (by decide +kernel)) (fun _ h9 => h9) rfl dX8_mixLots_11 ?_
  refine va_get (D := D) (ci := 1) (v := .int 0) (C := RX1) (T := TX1) (N := 6) hx hb hts in1 hown hK hP 2 rfl rfl 0 (by decide) (hts (.fieldLink RX8 113 "Granary$Lots" "count" "I") (by decide +kernel)) (fun _ h9 => h9) rfl dX8_mixLots_14 ?_
  refine lv_icmp_ge (tgt := 61) hx hb dX8_mixLots_17 (by decide) (fun _ => ?_) (fun c9 => absurd (show (0 : Int32) ≤ (0 : Int32) from (by decide)) c9)
  refine lv_lload_n hx hb dX8_mixLots_61 rfl (lv_at hl 1 rfl) ?_
  exact W.lret (v := x) hx hb hr (fun t ht hW => ⟨x, rfl, rfl, ht⟩) hL dX8_mixLots_62

set_option maxHeartbeats 4000000 in
set_option maxRecDepth 100000 in
/-- X8_mixOrders -/
theorem c_mixOrders (l : Launch) (D : va_G) (cI cZ cJ : ClassId) (lo sz : Nat) (g : Nat) (nw : Nat) (la : Nat) (pn : Nat) (dy : Int32) (aI : Nat) (aS : Nat) (aP : Nat) (aL : Nat) (aO : Nat) (aT : Nat) (aA : Nat) (aQ : Nat) (aO1 : Nat) (aO2 : Nat) (aO3 : Nat) (aO4 : Nat) (aO5 : Nat) (aO6 : Nat) (aO7 : Nat) (aO8 : Nat) (aO9 : Nat) (aO10 : Nat) (x : Int64) : Met l yX8_mixOrders wsX8_mixOrders ({ frames := 0, cells := 0, slots := 0, locals := 0 }) (Pre lo D cI cZ cJ [.ref g, .long x] sz [(g, .inr (8, [.ref nw, .ref la, .ref pn])), (nw, .inr (6, [.int dy, .ref aI, .ref aS, .ref aP, .ref aL, .ref aO, .ref aT, .ref aA, .ref aQ])), (aO, .inr (2, [.int 0, .ref aO1, .ref aO2, .ref aO3, .ref aO4, .ref aO5, .ref aO6, .ref aO7, .ref aO8, .ref aO9, .ref aO10]))]) (vp_Sl (fun r => r = x)) 0 0 (fun _ => False) := by
  refine Met.ofW (cc := cX8_mixOrders) (maxL := 8) (ret := (some .long)) (by decide) rfl ?_
  intro p e s m args below meth c s₁ B hml hv
  obtain ⟨rfl, hsz, hP, hD0, hC⟩ := hv
  have hx := B.exec
  have hb := B.bytes
  have hr := B.returns
  have hts := atoms_spec (ws := wsX8_mixOrders) B.pre
  have hown : s.vm.findClass RX8 = some m.cls := findClass_of_methodNamed B.named
  have hlocks := B.notSynchronized
  subst hsz
  have hK := hC.K
  have hD := hD0
  have hS : va_S (fun q => lo ≤ q) s.heap s.heap [] := va_S.rf
  have hAlo : ∀ q, (fun q => lo ≤ q) q → lo ≤ q := fun _ h => h
  have hL : ∀ q ∈ ([] : List Loc), (fun _ : Addr => False) q.base := fun q h => by cases h
  have hP : va_P D vwCl [(g, .inr (8, [.ref nw, .ref la, .ref pn])), (nw, .inr (6, [.int dy, .ref aI, .ref aS, .ref aP, .ref aL, .ref aO, .ref aT, .ref aA, .ref aQ])), (aO, .inr (2, [.int 0, .ref aO1, .ref aO2, .ref aO3, .ref aO4, .ref aO5, .ref aO6, .ref aO7, .ref aO8, .ref aO9, .ref aO10]))] s.heap := hP
  have hl := lv_entry ([.ref g, .long x]) (n := 8) (Nat.le_of_ble_eq_true rfl)
  rw [lg_entry_eq]
  generalize (lg_sl ([.ref g, .long x]) ++ List.replicate (8 - (lg_sl ([.ref g, .long x])).length) Slot.unset).toArray = ls at hl ⊢
  have hl : lv_has ls 8 [(0, .ref g), (1, .long x)] := hl
  have in2 : ∀ w ∈ u_ws RX2 TX2 11, w ∈ wsX8_mixOrders := by decide +kernel
  have in6 : ∀ w ∈ u_ws RX6 TX6 9, w ∈ wsX8_mixOrders := by decide +kernel
  have in8 : ∀ w ∈ u_ws RX8 TX8 3, w ∈ wsX8_mixOrders := by decide +kernel
  refine lv_lload_n hx hb dX8_mixOrders_0 rfl (lv_at hl 1 rfl) ?_
  refine lv_lstore_n (lv' := [(3, .long x), (0, .ref g), (1, .long x)]) hx hb dX8_mixOrders_1 rfl hl (by decide) rfl (fun ls hl => ?_)
  refine lv_iconst (v := 0) hx hb dX8_mixOrders_2 (by decide) ?_
  refine lv_istore (lv' := [(5, .int 0), (3, .long x), (0, .ref g), (1, .long x)]) hx hb dX8_mixOrders_3 hl (by decide) rfl (fun ls hl => ?_)
  refine lv_iload hx hb dX8_mixOrders_5 (lv_at hl 0 rfl) ?_
  refine lv_aload_n hx hb dX8_mixOrders_7 rfl (lv_at hl 2 rfl) ?_
  refine va_get (D := D) (ci := 8) (v := .ref nw) (C := RX8) (T := TX8) (N := 3) hx hb hts in8 hown hK hP 0 rfl rfl 0 (by decide) (hts (.fieldLink RX8 10 "Granary" "now" "LGranary$Stock;") (by decide +kernel)) (fun _ h9 => h9) rfl dX8_mixOrders_8 ?_
  refine va_get (D := D) (ci := 6) (v := .ref aO) (C := RX6) (T := TX6) (N := 9) hx hb hts in6 hown hK hP 1 rfl rfl 5 (by decide) (hts (.fieldLink RX8 131 "Granary$Stock" "orders" "LGranary$Orders;") (by decide +kernel)) (fun _ h9 => h9) rfl dX8_mixOrders_11 ?_
  refine va_get (D := D) (ci := 2) (v := .int 0) (C := RX2) (T := TX2) (N := 11) hx hb hts in2 hown hK hP 2 rfl rfl 0 (by decide) (hts (.fieldLink RX8 135 "Granary$Orders" "count" "I") (by decide +kernel)) (fun _ h9 => h9) rfl dX8_mixOrders_14 ?_
  refine lv_icmp_ge (tgt := 120) hx hb dX8_mixOrders_17 (by decide) (fun _ => ?_) (fun c9 => absurd (show (0 : Int32) ≤ (0 : Int32) from (by decide)) c9)
  refine lv_lload_n hx hb dX8_mixOrders_120 rfl (lv_at hl 1 rfl) ?_
  exact W.lret (v := x) hx hb hr (fun t ht hW => ⟨x, rfl, rfl, ht⟩) hL dX8_mixOrders_121

set_option maxHeartbeats 4000000 in
set_option maxRecDepth 100000 in
/-- X8_mixTransports -/
theorem c_mixTransports (l : Launch) (D : va_G) (cI cZ cJ : ClassId) (lo sz : Nat) (g : Nat) (nw : Nat) (la : Nat) (pn : Nat) (dy : Int32) (aI : Nat) (aS : Nat) (aP : Nat) (aL : Nat) (aO : Nat) (aT : Nat) (aA : Nat) (aQ : Nat) (aT1 : Nat) (aT2 : Nat) (aT3 : Nat) (aT4 : Nat) (aT5 : Nat) (aT6 : Nat) (x : Int64) : Met l yX8_mixTransports wsX8_mixTransports ({ frames := 0, cells := 0, slots := 0, locals := 0 }) (Pre lo D cI cZ cJ [.ref g, .long x] sz [(g, .inr (8, [.ref nw, .ref la, .ref pn])), (nw, .inr (6, [.int dy, .ref aI, .ref aS, .ref aP, .ref aL, .ref aO, .ref aT, .ref aA, .ref aQ])), (aT, .inr (7, [.int 0, .ref aT1, .ref aT2, .ref aT3, .ref aT4, .ref aT5, .ref aT6]))]) (vp_Sl (fun r => r = x)) 0 0 (fun _ => False) := by
  refine Met.ofW (cc := cX8_mixTransports) (maxL := 7) (ret := (some .long)) (by decide) rfl ?_
  intro p e s m args below meth c s₁ B hml hv
  obtain ⟨rfl, hsz, hP, hD0, hC⟩ := hv
  have hx := B.exec
  have hb := B.bytes
  have hr := B.returns
  have hts := atoms_spec (ws := wsX8_mixTransports) B.pre
  have hown : s.vm.findClass RX8 = some m.cls := findClass_of_methodNamed B.named
  have hlocks := B.notSynchronized
  subst hsz
  have hK := hC.K
  have hD := hD0
  have hS : va_S (fun q => lo ≤ q) s.heap s.heap [] := va_S.rf
  have hAlo : ∀ q, (fun q => lo ≤ q) q → lo ≤ q := fun _ h => h
  have hL : ∀ q ∈ ([] : List Loc), (fun _ : Addr => False) q.base := fun q h => by cases h
  have hP : va_P D vwCl [(g, .inr (8, [.ref nw, .ref la, .ref pn])), (nw, .inr (6, [.int dy, .ref aI, .ref aS, .ref aP, .ref aL, .ref aO, .ref aT, .ref aA, .ref aQ])), (aT, .inr (7, [.int 0, .ref aT1, .ref aT2, .ref aT3, .ref aT4, .ref aT5, .ref aT6]))] s.heap := hP
  have hl := lv_entry ([.ref g, .long x]) (n := 7) (Nat.le_of_ble_eq_true rfl)
  rw [lg_entry_eq]
  generalize (lg_sl ([.ref g, .long x]) ++ List.replicate (7 - (lg_sl ([.ref g, .long x])).length) Slot.unset).toArray = ls at hl ⊢
  have hl : lv_has ls 7 [(0, .ref g), (1, .long x)] := hl
  have in6 : ∀ w ∈ u_ws RX6 TX6 9, w ∈ wsX8_mixTransports := by decide +kernel
  have in7 : ∀ w ∈ u_ws RX7 TX7 7, w ∈ wsX8_mixTransports := by decide +kernel
  have in8 : ∀ w ∈ u_ws RX8 TX8 3, w ∈ wsX8_mixTransports := by decide +kernel
  refine lv_lload_n hx hb dX8_mixTransports_0 rfl (lv_at hl 1 rfl) ?_
  refine lv_lstore_n (lv' := [(3, .long x), (0, .ref g), (1, .long x)]) hx hb dX8_mixTransports_1 rfl hl (by decide) rfl (fun ls hl => ?_)
  refine lv_iconst (v := 0) hx hb dX8_mixTransports_2 (by decide) ?_
  refine lv_istore (lv' := [(5, .int 0), (3, .long x), (0, .ref g), (1, .long x)]) hx hb dX8_mixTransports_3 hl (by decide) rfl (fun ls hl => ?_)
  refine lv_iload hx hb dX8_mixTransports_5 (lv_at hl 0 rfl) ?_
  refine lv_aload_n hx hb dX8_mixTransports_7 rfl (lv_at hl 2 rfl) ?_
  refine va_get (D := D) (ci := 8) (v := .ref nw) (C := RX8) (T := TX8) (N := 3) hx hb hts in8 hown hK hP 0 rfl rfl 0 (by decide) (hts (.fieldLink RX8 10 "Granary" "now" "LGranary$Stock;") (by decide +kernel)) (fun _ h9 => h9) rfl dX8_mixTransports_8 ?_
  refine va_get (D := D) (ci := 6) (v := .ref aT) (C := RX6) (T := TX6) (N := 9) hx hb hts in6 hown hK hP 1 rfl rfl 6 (by decide) (hts (.fieldLink RX8 183 "Granary$Stock" "transports" "LGranary$Transports;") (by decide +kernel)) (fun _ h9 => h9) rfl dX8_mixTransports_11 ?_
  refine va_get (D := D) (ci := 7) (v := .int 0) (C := RX7) (T := TX7) (N := 7) hx hb hts in7 hown hK hP 2 rfl rfl 0 (by decide) (hts (.fieldLink RX8 187 "Granary$Transports" "count" "I") (by decide +kernel)) (fun _ h9 => h9) rfl dX8_mixTransports_14 ?_
  refine lv_icmp_ge (tgt := 61) hx hb dX8_mixTransports_17 (by decide) (fun _ => ?_) (fun c9 => absurd (show (0 : Int32) ≤ (0 : Int32) from (by decide)) c9)
  refine lv_lload_n hx hb dX8_mixTransports_61 rfl (lv_at hl 1 rfl) ?_
  exact W.lret (v := x) hx hb hr (fun t ht hW => ⟨x, rfl, rfl, ht⟩) hL dX8_mixTransports_62

set_option maxHeartbeats 4000000 in
set_option maxRecDepth 100000 in
/-- X8_mixRoutes -/
theorem c_mixRoutes (l : Launch) (D : va_G) (cI cZ cJ : ClassId) (lo sz : Nat) (g : Nat) (nw : Nat) (la : Nat) (pn : Nat) (dy : Int32) (aI : Nat) (aS : Nat) (aP : Nat) (aL : Nat) (aO : Nat) (aT : Nat) (aA : Nat) (aQ : Nat) (aS1 : Nat) (aS2 : Nat) (x : Int64) : Met l yX8_mixRoutes wsX8_mixRoutes ({ frames := 0, cells := 0, slots := 0, locals := 0 }) (Pre lo D cI cZ cJ [.ref g, .long x] sz [(g, .inr (8, [.ref nw, .ref la, .ref pn])), (nw, .inr (6, [.int dy, .ref aI, .ref aS, .ref aP, .ref aL, .ref aO, .ref aT, .ref aA, .ref aQ])), (aS, .inr (5, [.int 0, .ref aS1, .ref aS2]))]) (vp_Sl (fun r => r = x)) 0 0 (fun _ => False) := by
  refine Met.ofW (cc := cX8_mixRoutes) (maxL := 7) (ret := (some .long)) (by decide) rfl ?_
  intro p e s m args below meth c s₁ B hml hv
  obtain ⟨rfl, hsz, hP, hD0, hC⟩ := hv
  have hx := B.exec
  have hb := B.bytes
  have hr := B.returns
  have hts := atoms_spec (ws := wsX8_mixRoutes) B.pre
  have hown : s.vm.findClass RX8 = some m.cls := findClass_of_methodNamed B.named
  have hlocks := B.notSynchronized
  subst hsz
  have hK := hC.K
  have hD := hD0
  have hS : va_S (fun q => lo ≤ q) s.heap s.heap [] := va_S.rf
  have hAlo : ∀ q, (fun q => lo ≤ q) q → lo ≤ q := fun _ h => h
  have hL : ∀ q ∈ ([] : List Loc), (fun _ : Addr => False) q.base := fun q h => by cases h
  have hP : va_P D vwCl [(g, .inr (8, [.ref nw, .ref la, .ref pn])), (nw, .inr (6, [.int dy, .ref aI, .ref aS, .ref aP, .ref aL, .ref aO, .ref aT, .ref aA, .ref aQ])), (aS, .inr (5, [.int 0, .ref aS1, .ref aS2]))] s.heap := hP
  have hl := lv_entry ([.ref g, .long x]) (n := 7) (Nat.le_of_ble_eq_true rfl)
  rw [lg_entry_eq]
  generalize (lg_sl ([.ref g, .long x]) ++ List.replicate (7 - (lg_sl ([.ref g, .long x])).length) Slot.unset).toArray = ls at hl ⊢
  have hl : lv_has ls 7 [(0, .ref g), (1, .long x)] := hl
  have in5 : ∀ w ∈ u_ws RX5 TX5 3, w ∈ wsX8_mixRoutes := by decide +kernel
  have in6 : ∀ w ∈ u_ws RX6 TX6 9, w ∈ wsX8_mixRoutes := by decide +kernel
  have in8 : ∀ w ∈ u_ws RX8 TX8 3, w ∈ wsX8_mixRoutes := by decide +kernel
  refine lv_lload_n hx hb dX8_mixRoutes_0 rfl (lv_at hl 1 rfl) ?_
  refine lv_lstore_n (lv' := [(3, .long x), (0, .ref g), (1, .long x)]) hx hb dX8_mixRoutes_1 rfl hl (by decide) rfl (fun ls hl => ?_)
  refine lv_iconst (v := 0) hx hb dX8_mixRoutes_2 (by decide) ?_
  refine lv_istore (lv' := [(5, .int 0), (3, .long x), (0, .ref g), (1, .long x)]) hx hb dX8_mixRoutes_3 hl (by decide) rfl (fun ls hl => ?_)
  refine lv_iload hx hb dX8_mixRoutes_5 (lv_at hl 0 rfl) ?_
  refine lv_aload_n hx hb dX8_mixRoutes_7 rfl (lv_at hl 2 rfl) ?_
  refine va_get (D := D) (ci := 8) (v := .ref nw) (C := RX8) (T := TX8) (N := 3) hx hb hts in8 hown hK hP 0 rfl rfl 0 (by decide) (hts (.fieldLink RX8 10 "Granary" "now" "LGranary$Stock;") (by decide +kernel)) (fun _ h9 => h9) rfl dX8_mixRoutes_8 ?_
  refine va_get (D := D) (ci := 6) (v := .ref aS) (C := RX6) (T := TX6) (N := 9) hx hb hts in6 hown hK hP 1 rfl rfl 2 (by decide) (hts (.fieldLink RX8 48 "Granary$Stock" "sites" "LGranary$Sites;") (by decide +kernel)) (fun _ h9 => h9) rfl dX8_mixRoutes_11 ?_
  refine va_get (D := D) (ci := 5) (v := .int 0) (C := RX5) (T := TX5) (N := 3) hx hb hts in5 hown hK hP 2 rfl rfl 0 (by decide) (hts (.fieldLink RX8 52 "Granary$Sites" "count" "I") (by decide +kernel)) (fun _ h9 => h9) rfl dX8_mixRoutes_14 ?_
  refine lv_icmp_ge (tgt := 70) hx hb dX8_mixRoutes_17 (by decide) (fun _ => ?_) (fun c9 => absurd (show (0 : Int32) ≤ (0 : Int32) from (by decide)) c9)
  refine lv_lload_n hx hb dX8_mixRoutes_70 rfl (lv_at hl 1 rfl) ?_
  exact W.lret (v := x) hx hb hr (fun t ht hW => ⟨x, rfl, rfl, ht⟩) hL dX8_mixRoutes_71

set_option maxHeartbeats 4000000 in
set_option maxRecDepth 100000 in
/-- X8_mixStocks -/
theorem c_mixStocks (l : Launch) (D : va_G) (cI cZ cJ : ClassId) (lo sz : Nat) (g : Nat) (nw : Nat) (la : Nat) (pn : Nat) (dy : Int32) (aI : Nat) (aS : Nat) (aP : Nat) (aL : Nat) (aO : Nat) (aT : Nat) (aA : Nat) (aQ : Nat) (aI1 : Nat) (aI2 : Nat) (aI3 : Nat) (aI4 : Nat) (x : Int64) : Met l yX8_mixStocks wsX8_mixStocks ({ frames := 0, cells := 0, slots := 0, locals := 0 }) (Pre lo D cI cZ cJ [.ref g, .long x] sz [(g, .inr (8, [.ref nw, .ref la, .ref pn])), (nw, .inr (6, [.int dy, .ref aI, .ref aS, .ref aP, .ref aL, .ref aO, .ref aT, .ref aA, .ref aQ])), (aI, .inr (0, [.int 0, .ref aI1, .ref aI2, .ref aI3, .ref aI4]))]) (vp_Sl (fun r => r = x)) 0 0 (fun _ => False) := by
  refine Met.ofW (cc := cX8_mixStocks) (maxL := 7) (ret := (some .long)) (by decide) rfl ?_
  intro p e s m args below meth c s₁ B hml hv
  obtain ⟨rfl, hsz, hP, hD0, hC⟩ := hv
  have hx := B.exec
  have hb := B.bytes
  have hr := B.returns
  have hts := atoms_spec (ws := wsX8_mixStocks) B.pre
  have hown : s.vm.findClass RX8 = some m.cls := findClass_of_methodNamed B.named
  have hlocks := B.notSynchronized
  subst hsz
  have hK := hC.K
  have hD := hD0
  have hS : va_S (fun q => lo ≤ q) s.heap s.heap [] := va_S.rf
  have hAlo : ∀ q, (fun q => lo ≤ q) q → lo ≤ q := fun _ h => h
  have hL : ∀ q ∈ ([] : List Loc), (fun _ : Addr => False) q.base := fun q h => by cases h
  have hP : va_P D vwCl [(g, .inr (8, [.ref nw, .ref la, .ref pn])), (nw, .inr (6, [.int dy, .ref aI, .ref aS, .ref aP, .ref aL, .ref aO, .ref aT, .ref aA, .ref aQ])), (aI, .inr (0, [.int 0, .ref aI1, .ref aI2, .ref aI3, .ref aI4]))] s.heap := hP
  have hl := lv_entry ([.ref g, .long x]) (n := 7) (Nat.le_of_ble_eq_true rfl)
  rw [lg_entry_eq]
  generalize (lg_sl ([.ref g, .long x]) ++ List.replicate (7 - (lg_sl ([.ref g, .long x])).length) Slot.unset).toArray = ls at hl ⊢
  have hl : lv_has ls 7 [(0, .ref g), (1, .long x)] := hl
  have in0 : ∀ w ∈ u_ws RX0 TX0 5, w ∈ wsX8_mixStocks := by decide +kernel
  have in6 : ∀ w ∈ u_ws RX6 TX6 9, w ∈ wsX8_mixStocks := by decide +kernel
  have in8 : ∀ w ∈ u_ws RX8 TX8 3, w ∈ wsX8_mixStocks := by decide +kernel
  refine lv_lload_n hx hb dX8_mixStocks_0 rfl (lv_at hl 1 rfl) ?_
  refine lv_lstore_n (lv' := [(3, .long x), (0, .ref g), (1, .long x)]) hx hb dX8_mixStocks_1 rfl hl (by decide) rfl (fun ls hl => ?_)
  refine lv_iconst (v := 0) hx hb dX8_mixStocks_2 (by decide) ?_
  refine lv_istore (lv' := [(5, .int 0), (3, .long x), (0, .ref g), (1, .long x)]) hx hb dX8_mixStocks_3 hl (by decide) rfl (fun ls hl => ?_)
  refine lv_iload hx hb dX8_mixStocks_5 (lv_at hl 0 rfl) ?_
  refine lv_aload_n hx hb dX8_mixStocks_7 rfl (lv_at hl 2 rfl) ?_
  refine va_get (D := D) (ci := 8) (v := .ref nw) (C := RX8) (T := TX8) (N := 3) hx hb hts in8 hown hK hP 0 rfl rfl 0 (by decide) (hts (.fieldLink RX8 10 "Granary" "now" "LGranary$Stock;") (by decide +kernel)) (fun _ h9 => h9) rfl dX8_mixStocks_8 ?_
  refine va_get (D := D) (ci := 6) (v := .ref aI) (C := RX6) (T := TX6) (N := 9) hx hb hts in6 hown hK hP 1 rfl rfl 1 (by decide) (hts (.fieldLink RX8 30 "Granary$Stock" "items" "LGranary$Items;") (by decide +kernel)) (fun _ h9 => h9) rfl dX8_mixStocks_11 ?_
  refine va_get (D := D) (ci := 0) (v := .int 0) (C := RX0) (T := TX0) (N := 5) hx hb hts in0 hown hK hP 2 rfl rfl 0 (by decide) (hts (.fieldLink RX8 34 "Granary$Items" "count" "I") (by decide +kernel)) (fun _ h9 => h9) rfl dX8_mixStocks_14 ?_
  refine lv_icmp_ge (tgt := 207) hx hb dX8_mixStocks_17 (by decide) (fun _ => ?_) (fun c9 => absurd (show (0 : Int32) ≤ (0 : Int32) from (by decide)) c9)
  refine lv_lload_n hx hb dX8_mixStocks_207 rfl (lv_at hl 1 rfl) ?_
  exact W.lret (v := x) hx hb hr (fun t ht hW => ⟨x, rfl, rfl, ht⟩) hL dX8_mixStocks_208

set_option maxHeartbeats 4000000 in
set_option maxRecDepth 100000 in
/-- X8_mixPlans -/
theorem c_mixPlans (l : Launch) (D : va_G) (cI cZ cJ : ClassId) (lo sz : Nat) (g : Nat) (nw : Nat) (la : Nat) (pn : Nat) (dy : Int32) (aI : Nat) (aS : Nat) (aP : Nat) (aL : Nat) (aO : Nat) (aT : Nat) (aA : Nat) (aQ : Nat) (aI1 : Nat) (aI2 : Nat) (aI3 : Nat) (aI4 : Nat) (x : Int64) : Met l yX8_mixPlans wsX8_mixPlans ({ frames := 0, cells := 0, slots := 0, locals := 0 }) (Pre lo D cI cZ cJ [.ref g, .long x] sz [(g, .inr (8, [.ref nw, .ref la, .ref pn])), (nw, .inr (6, [.int dy, .ref aI, .ref aS, .ref aP, .ref aL, .ref aO, .ref aT, .ref aA, .ref aQ])), (aI, .inr (0, [.int 0, .ref aI1, .ref aI2, .ref aI3, .ref aI4]))]) (vp_Sl (fun r => r = x)) 0 0 (fun _ => False) := by
  refine Met.ofW (cc := cX8_mixPlans) (maxL := 8) (ret := (some .long)) (by decide) rfl ?_
  intro p e s m args below meth c s₁ B hml hv
  obtain ⟨rfl, hsz, hP, hD0, hC⟩ := hv
  have hx := B.exec
  have hb := B.bytes
  have hr := B.returns
  have hts := atoms_spec (ws := wsX8_mixPlans) B.pre
  have hown : s.vm.findClass RX8 = some m.cls := findClass_of_methodNamed B.named
  have hlocks := B.notSynchronized
  subst hsz
  have hK := hC.K
  have hD := hD0
  have hS : va_S (fun q => lo ≤ q) s.heap s.heap [] := va_S.rf
  have hAlo : ∀ q, (fun q => lo ≤ q) q → lo ≤ q := fun _ h => h
  have hL : ∀ q ∈ ([] : List Loc), (fun _ : Addr => False) q.base := fun q h => by cases h
  have hP : va_P D vwCl [(g, .inr (8, [.ref nw, .ref la, .ref pn])), (nw, .inr (6, [.int dy, .ref aI, .ref aS, .ref aP, .ref aL, .ref aO, .ref aT, .ref aA, .ref aQ])), (aI, .inr (0, [.int 0, .ref aI1, .ref aI2, .ref aI3, .ref aI4]))] s.heap := hP
  have hl := lv_entry ([.ref g, .long x]) (n := 8) (Nat.le_of_ble_eq_true rfl)
  rw [lg_entry_eq]
  generalize (lg_sl ([.ref g, .long x]) ++ List.replicate (8 - (lg_sl ([.ref g, .long x])).length) Slot.unset).toArray = ls at hl ⊢
  have hl : lv_has ls 8 [(0, .ref g), (1, .long x)] := hl
  have in0 : ∀ w ∈ u_ws RX0 TX0 5, w ∈ wsX8_mixPlans := by decide +kernel
  have in6 : ∀ w ∈ u_ws RX6 TX6 9, w ∈ wsX8_mixPlans := by decide +kernel
  have in8 : ∀ w ∈ u_ws RX8 TX8 3, w ∈ wsX8_mixPlans := by decide +kernel
  refine lv_lload_n hx hb dX8_mixPlans_0 rfl (lv_at hl 1 rfl) ?_
  refine lv_lstore_n (lv' := [(3, .long x), (0, .ref g), (1, .long x)]) hx hb dX8_mixPlans_1 rfl hl (by decide) rfl (fun ls hl => ?_)
  refine lv_iconst (v := 0) hx hb dX8_mixPlans_2 (by decide) ?_
  refine lv_istore (lv' := [(5, .int 0), (3, .long x), (0, .ref g), (1, .long x)]) hx hb dX8_mixPlans_3 hl (by decide) rfl (fun ls hl => ?_)
  refine lv_iload hx hb dX8_mixPlans_5 (lv_at hl 0 rfl) ?_
  refine lv_aload_n hx hb dX8_mixPlans_7 rfl (lv_at hl 2 rfl) ?_
  refine va_get (D := D) (ci := 8) (v := .ref nw) (C := RX8) (T := TX8) (N := 3) hx hb hts in8 hown hK hP 0 rfl rfl 0 (by decide) (hts (.fieldLink RX8 10 "Granary" "now" "LGranary$Stock;") (by decide +kernel)) (fun _ h9 => h9) rfl dX8_mixPlans_8 ?_
  refine va_get (D := D) (ci := 6) (v := .ref aI) (C := RX6) (T := TX6) (N := 9) hx hb hts in6 hown hK hP 1 rfl rfl 1 (by decide) (hts (.fieldLink RX8 30 "Granary$Stock" "items" "LGranary$Items;") (by decide +kernel)) (fun _ h9 => h9) rfl dX8_mixPlans_11 ?_
  refine va_get (D := D) (ci := 0) (v := .int 0) (C := RX0) (T := TX0) (N := 5) hx hb hts in0 hown hK hP 2 rfl rfl 0 (by decide) (hts (.fieldLink RX8 34 "Granary$Items" "count" "I") (by decide +kernel)) (fun _ h9 => h9) rfl dX8_mixPlans_14 ?_
  refine lv_icmp_ge (tgt := 133) hx hb dX8_mixPlans_17 (by decide) (fun _ => ?_) (fun c9 => absurd (show (0 : Int32) ≤ (0 : Int32) from (by decide)) c9)
  refine lv_lload_n hx hb dX8_mixPlans_133 rfl (lv_at hl 1 rfl) ?_
  exact W.lret (v := x) hx hb hr (fun t ht hW => ⟨x, rfl, rfl, ht⟩) hL dX8_mixPlans_134

set_option maxHeartbeats 4000000 in
set_option maxRecDepth 100000 in
/-- digest of a fresh object -/
theorem c_digest (l : Launch) (D : va_G) (cI cZ cJ : ClassId) (lo sz : Nat) (g : Nat) (nw : Nat) (la : Nat) (pn : Nat) (aI : Nat) (aS : Nat) (aP : Nat) (aL : Nat) (aO : Nat) (aT : Nat) (aA : Nat) (aQ : Nat) (aI1 : Nat) (aI2 : Nat) (aI3 : Nat) (aI4 : Nat) (aS1 : Nat) (aS2 : Nat) (aL1 : Nat) (aL2 : Nat) (aL3 : Nat) (aL4 : Nat) (aL5 : Nat) (aO1 : Nat) (aO2 : Nat) (aO3 : Nat) (aO4 : Nat) (aO5 : Nat) (aO6 : Nat) (aO7 : Nat) (aO8 : Nat) (aO9 : Nat) (aO10 : Nat) (aT1 : Nat) (aT2 : Nat) (aT3 : Nat) (aT4 : Nat) (aT5 : Nat) (aT6 : Nat) : Met l yX8_digest wsX8_digest ({ frames := 2, cells := 0, slots := 0, locals := 48 }) (Pre lo D cI cZ cJ [.ref g] sz [(g, .inr (8, [.ref nw, .ref la, .ref pn])), (nw, .inr (6, [.int 0, .ref aI, .ref aS, .ref aP, .ref aL, .ref aO, .ref aT, .ref aA, .ref aQ])), (aI, .inr (0, [.int 0, .ref aI1, .ref aI2, .ref aI3, .ref aI4])), (aS, .inr (5, [.int 0, .ref aS1, .ref aS2])), (aL, .inr (1, [.int 0, .ref aL1, .ref aL2, .ref aL3, .ref aL4, .ref aL5])), (aO, .inr (2, [.int 0, .ref aO1, .ref aO2, .ref aO3, .ref aO4, .ref aO5, .ref aO6, .ref aO7, .ref aO8, .ref aO9, .ref aO10])), (aT, .inr (7, [.int 0, .ref aT1, .ref aT2, .ref aT3, .ref aT4, .ref aT5, .ref aT6])), (aA, .inl (cI, 5, .inl (fun _ => 0)))]) (vp_Sl (fun r => r = (-1158569213909762195))) 0 0 (fun _ => False) := by
  refine Met.ofW (cc := cX8_digest) (maxL := 4) (ret := (some .long)) (by decide) rfl ?_
  intro p e s m args below meth c s₁ B hml hv
  obtain ⟨rfl, hsz, hP, hD0, hC⟩ := hv
  have hx := B.exec
  have hb := B.bytes
  have hr := B.returns
  have hts := atoms_spec (ws := wsX8_digest) B.pre
  have hown : s.vm.findClass RX8 = some m.cls := findClass_of_methodNamed B.named
  have hlocks := B.notSynchronized
  subst hsz
  have hK := hC.K
  have hD := hD0
  have hS : va_S (fun q => lo ≤ q) s.heap s.heap [] := va_S.rf
  have hAlo : ∀ q, (fun q => lo ≤ q) q → lo ≤ q := fun _ h => h
  have hL : ∀ q ∈ ([] : List Loc), (fun _ : Addr => False) q.base := fun q h => by cases h
  have hP : va_P D vwCl [(g, .inr (8, [.ref nw, .ref la, .ref pn])), (nw, .inr (6, [.int 0, .ref aI, .ref aS, .ref aP, .ref aL, .ref aO, .ref aT, .ref aA, .ref aQ])), (aI, .inr (0, [.int 0, .ref aI1, .ref aI2, .ref aI3, .ref aI4])), (aS, .inr (5, [.int 0, .ref aS1, .ref aS2])), (aL, .inr (1, [.int 0, .ref aL1, .ref aL2, .ref aL3, .ref aL4, .ref aL5])), (aO, .inr (2, [.int 0, .ref aO1, .ref aO2, .ref aO3, .ref aO4, .ref aO5, .ref aO6, .ref aO7, .ref aO8, .ref aO9, .ref aO10])), (aT, .inr (7, [.int 0, .ref aT1, .ref aT2, .ref aT3, .ref aT4, .ref aT5, .ref aT6])), (aA, .inl (cI, 5, .inl (fun _ => 0)))] s.heap := hP
  have hl := lv_entry ([.ref g]) (n := 4) (Nat.le_of_ble_eq_true rfl)
  rw [lg_entry_eq]
  generalize (lg_sl ([.ref g]) ++ List.replicate (4 - (lg_sl ([.ref g])).length) Slot.unset).toArray = ls at hl ⊢
  have hl : lv_has ls 4 [(0, .ref g)] := hl
  have in5 : ∀ w ∈ u_ws RX5 TX5 3, w ∈ wsX8_digest := by decide +kernel
  have in6 : ∀ w ∈ u_ws RX6 TX6 9, w ∈ wsX8_digest := by decide +kernel
  have in8 : ∀ w ∈ u_ws RX8 TX8 3, w ∈ wsX8_digest := by decide +kernel
  refine lv_aload_n hx hb dX8_digest_0 rfl (lv_at hl 0 rfl) ?_
  refine lv_ldc2 hx hb (v := 58035) hown (hts (.constantLong RX8 257 (58035)) (by decide +kernel)) dX8_digest_1 ?_
  have hPc := hP.sub (ws' := [(g, .inr (8, [.ref nw, .ref la, .ref pn])), (nw, .inr (6, [.int 0, .ref aI, .ref aS, .ref aP, .ref aL, .ref aO, .ref aT, .ref aA, .ref aQ])), (aI, .inr (0, [.int 0, .ref aI1, .ref aI2, .ref aI3, .ref aI4])), (aS, .inr (5, [.int 0, .ref aS1, .ref aS2])), (aL, .inr (1, [.int 0, .ref aL1, .ref aL2, .ref aL3, .ref aL4, .ref aL5])), (aO, .inr (2, [.int 0, .ref aO1, .ref aO2, .ref aO3, .ref aO4, .ref aO5, .ref aO6, .ref aO7, .ref aO8, .ref aO9, .ref aO10])), (aT, .inr (7, [.int 0, .ref aT1, .ref aT2, .ref aT3, .ref aT4, .ref aT5, .ref aT6])), (aA, .inl (cI, 5, .inl (fun _ => 0)))]) [0, 1, 2, 3, 4, 5, 6, 7] rfl
  have hDc := hD.sub (ws' := [(g, .inr (8, [.ref nw, .ref la, .ref pn])), (nw, .inr (6, [.int 0, .ref aI, .ref aS, .ref aP, .ref aL, .ref aO, .ref aT, .ref aA, .ref aQ])), (aI, .inr (0, [.int 0, .ref aI1, .ref aI2, .ref aI3, .ref aI4])), (aS, .inr (5, [.int 0, .ref aS1, .ref aS2])), (aL, .inr (1, [.int 0, .ref aL1, .ref aL2, .ref aL3, .ref aL4, .ref aL5])), (aO, .inr (2, [.int 0, .ref aO1, .ref aO2, .ref aO3, .ref aO4, .ref aO5, .ref aO6, .ref aO7, .ref aO8, .ref aO9, .ref aO10])), (aT, .inr (7, [.int 0, .ref aT1, .ref aT2, .ref aT3, .ref aT4, .ref aT5, .ref aT6])), (aA, .inl (cI, 5, .inl (fun _ => 0)))]) [0, 1, 2, 3, 4, 5, 6, 7] (by decide) rfl
  refine vp_callSl (W.runV (As := [.long 58035]) (rest := []) ⟨hx, hb, hml, hown, hts⟩ (c_mixCounts l D cI cZ cJ lo s.heap.size g nw la pn aI aS aP aL aO aT aA aQ aI1 aI2 aI3 aI4 aS1 aS2 aL1 aL2 aL3 aL4 aL5 aO1 aO2 aO3 aO4 aO5 aO6 aO7 aO8 aO9 aO10 aT1 aT2 aT3 aT4 aT5 aT6) (cwV 1 hts gX8_digest_X8_mixCounts rfl rfl rfl (by decide +kernel) ⟨(Nat.le_of_ble_eq_true rfl), (Nat.le_of_ble_eq_true rfl)⟩) ⟨Pre.blind, va_recv hK hP (ci := 8) (q0 := 0) rfl rfl, Pre.mk hPc (hDc.weaken (fun _ _ _ h => hAlo _ h)) hC hS hAlo⟩ rfl rfl hl.1 rfl (lv_room (Nat.le_of_ble_eq_true rfl)) dX8_digest_4 ⟨(Nat.le_of_ble_eq_true rfl), (Nat.le_of_ble_eq_true rfl)⟩) (fun r_1 e_2 => ?_)
  have e_2 : r_1 = (-1158569213909762195) := e_2
  subst e_2
  refine lv_lstore_n (lv' := [(1, .long (-1158569213909762195)), (0, .ref g)]) hx hb dX8_digest_7 rfl hl (by decide) rfl (fun ls hl => ?_)
  refine lv_aload_n hx hb dX8_digest_8 rfl (lv_at hl 1 rfl) ?_
  refine lv_lload_n hx hb dX8_digest_9 rfl (lv_at hl 0 rfl) ?_
  have hPc := hP.sub (ws' := [(g, .inr (8, [.ref nw, .ref la, .ref pn])), (nw, .inr (6, [.int 0, .ref aI, .ref aS, .ref aP, .ref aL, .ref aO, .ref aT, .ref aA, .ref aQ])), (aL, .inr (1, [.int 0, .ref aL1, .ref aL2, .ref aL3, .ref aL4, .ref aL5]))]) [0, 1, 4] rfl
  have hDc := hD.sub (ws' := [(g, .inr (8, [.ref nw, .ref la, .ref pn])), (nw, .inr (6, [.int 0, .ref aI, .ref aS, .ref aP, .ref aL, .ref aO, .ref aT, .ref aA, .ref aQ])), (aL, .inr (1, [.int 0, .ref aL1, .ref aL2, .ref aL3, .ref aL4, .ref aL5]))]) [0, 1, 4] (by decide) rfl
  refine vp_callSl (W.runV (As := [.long (-1158569213909762195)]) (rest := []) ⟨hx, hb, hml, hown, hts⟩ (c_mixLots l D cI cZ cJ lo s.heap.size g nw la pn 0 aI aS aP aL aO aT aA aQ aL1 aL2 aL3 aL4 aL5 (-1158569213909762195)) (cwV 1 hts gX8_digest_X8_mixLots rfl rfl rfl (by decide +kernel) ⟨(Nat.le_of_ble_eq_true rfl), (Nat.le_of_ble_eq_true rfl)⟩) ⟨Pre.blind, va_recv hK hP (ci := 8) (q0 := 0) rfl rfl, Pre.mk hPc (hDc.weaken (fun _ _ _ h => hAlo _ h)) hC hS hAlo⟩ rfl rfl hl.1 rfl (lv_room (Nat.le_of_ble_eq_true rfl)) dX8_digest_10 ⟨(Nat.le_of_ble_eq_true rfl), (Nat.le_of_ble_eq_true rfl)⟩) (fun r_3 e_4 => ?_)
  have e_4 : r_3 = (-1158569213909762195) := e_4
  subst e_4
  refine lv_lstore_n (lv' := [(1, .long (-1158569213909762195)), (0, .ref g)]) hx hb dX8_digest_13 rfl hl (by decide) rfl (fun ls hl => ?_)
  refine lv_aload_n hx hb dX8_digest_14 rfl (lv_at hl 1 rfl) ?_
  refine lv_lload_n hx hb dX8_digest_15 rfl (lv_at hl 0 rfl) ?_
  have hPc := hP.sub (ws' := [(g, .inr (8, [.ref nw, .ref la, .ref pn])), (nw, .inr (6, [.int 0, .ref aI, .ref aS, .ref aP, .ref aL, .ref aO, .ref aT, .ref aA, .ref aQ])), (aO, .inr (2, [.int 0, .ref aO1, .ref aO2, .ref aO3, .ref aO4, .ref aO5, .ref aO6, .ref aO7, .ref aO8, .ref aO9, .ref aO10]))]) [0, 1, 5] rfl
  have hDc := hD.sub (ws' := [(g, .inr (8, [.ref nw, .ref la, .ref pn])), (nw, .inr (6, [.int 0, .ref aI, .ref aS, .ref aP, .ref aL, .ref aO, .ref aT, .ref aA, .ref aQ])), (aO, .inr (2, [.int 0, .ref aO1, .ref aO2, .ref aO3, .ref aO4, .ref aO5, .ref aO6, .ref aO7, .ref aO8, .ref aO9, .ref aO10]))]) [0, 1, 5] (by decide) rfl
  refine vp_callSl (W.runV (As := [.long (-1158569213909762195)]) (rest := []) ⟨hx, hb, hml, hown, hts⟩ (c_mixOrders l D cI cZ cJ lo s.heap.size g nw la pn 0 aI aS aP aL aO aT aA aQ aO1 aO2 aO3 aO4 aO5 aO6 aO7 aO8 aO9 aO10 (-1158569213909762195)) (cwV 1 hts gX8_digest_X8_mixOrders rfl rfl rfl (by decide +kernel) ⟨(Nat.le_of_ble_eq_true rfl), (Nat.le_of_ble_eq_true rfl)⟩) ⟨Pre.blind, va_recv hK hP (ci := 8) (q0 := 0) rfl rfl, Pre.mk hPc (hDc.weaken (fun _ _ _ h => hAlo _ h)) hC hS hAlo⟩ rfl rfl hl.1 rfl (lv_room (Nat.le_of_ble_eq_true rfl)) dX8_digest_16 ⟨(Nat.le_of_ble_eq_true rfl), (Nat.le_of_ble_eq_true rfl)⟩) (fun r_5 e_6 => ?_)
  have e_6 : r_5 = (-1158569213909762195) := e_6
  subst e_6
  refine lv_lstore_n (lv' := [(1, .long (-1158569213909762195)), (0, .ref g)]) hx hb dX8_digest_19 rfl hl (by decide) rfl (fun ls hl => ?_)
  refine lv_aload_n hx hb dX8_digest_20 rfl (lv_at hl 1 rfl) ?_
  refine lv_lload_n hx hb dX8_digest_21 rfl (lv_at hl 0 rfl) ?_
  have hPc := hP.sub (ws' := [(g, .inr (8, [.ref nw, .ref la, .ref pn])), (nw, .inr (6, [.int 0, .ref aI, .ref aS, .ref aP, .ref aL, .ref aO, .ref aT, .ref aA, .ref aQ])), (aT, .inr (7, [.int 0, .ref aT1, .ref aT2, .ref aT3, .ref aT4, .ref aT5, .ref aT6]))]) [0, 1, 6] rfl
  have hDc := hD.sub (ws' := [(g, .inr (8, [.ref nw, .ref la, .ref pn])), (nw, .inr (6, [.int 0, .ref aI, .ref aS, .ref aP, .ref aL, .ref aO, .ref aT, .ref aA, .ref aQ])), (aT, .inr (7, [.int 0, .ref aT1, .ref aT2, .ref aT3, .ref aT4, .ref aT5, .ref aT6]))]) [0, 1, 6] (by decide) rfl
  refine vp_callSl (W.runV (As := [.long (-1158569213909762195)]) (rest := []) ⟨hx, hb, hml, hown, hts⟩ (c_mixTransports l D cI cZ cJ lo s.heap.size g nw la pn 0 aI aS aP aL aO aT aA aQ aT1 aT2 aT3 aT4 aT5 aT6 (-1158569213909762195)) (cwV 1 hts gX8_digest_X8_mixTransports rfl rfl rfl (by decide +kernel) ⟨(Nat.le_of_ble_eq_true rfl), (Nat.le_of_ble_eq_true rfl)⟩) ⟨Pre.blind, va_recv hK hP (ci := 8) (q0 := 0) rfl rfl, Pre.mk hPc (hDc.weaken (fun _ _ _ h => hAlo _ h)) hC hS hAlo⟩ rfl rfl hl.1 rfl (lv_room (Nat.le_of_ble_eq_true rfl)) dX8_digest_22 ⟨(Nat.le_of_ble_eq_true rfl), (Nat.le_of_ble_eq_true rfl)⟩) (fun r_7 e_8 => ?_)
  have e_8 : r_7 = (-1158569213909762195) := e_8
  subst e_8
  refine lv_lstore_n (lv' := [(1, .long (-1158569213909762195)), (0, .ref g)]) hx hb dX8_digest_25 rfl hl (by decide) rfl (fun ls hl => ?_)
  refine lv_aload_n hx hb dX8_digest_26 rfl (lv_at hl 1 rfl) ?_
  refine lv_lload_n hx hb dX8_digest_27 rfl (lv_at hl 0 rfl) ?_
  have hPc := hP.sub (ws' := [(g, .inr (8, [.ref nw, .ref la, .ref pn])), (nw, .inr (6, [.int 0, .ref aI, .ref aS, .ref aP, .ref aL, .ref aO, .ref aT, .ref aA, .ref aQ])), (aS, .inr (5, [.int 0, .ref aS1, .ref aS2]))]) [0, 1, 3] rfl
  have hDc := hD.sub (ws' := [(g, .inr (8, [.ref nw, .ref la, .ref pn])), (nw, .inr (6, [.int 0, .ref aI, .ref aS, .ref aP, .ref aL, .ref aO, .ref aT, .ref aA, .ref aQ])), (aS, .inr (5, [.int 0, .ref aS1, .ref aS2]))]) [0, 1, 3] (by decide) rfl
  refine vp_callSl (W.runV (As := [.long (-1158569213909762195)]) (rest := []) ⟨hx, hb, hml, hown, hts⟩ (c_mixRoutes l D cI cZ cJ lo s.heap.size g nw la pn 0 aI aS aP aL aO aT aA aQ aS1 aS2 (-1158569213909762195)) (cwV 1 hts gX8_digest_X8_mixRoutes rfl rfl rfl (by decide +kernel) ⟨(Nat.le_of_ble_eq_true rfl), (Nat.le_of_ble_eq_true rfl)⟩) ⟨Pre.blind, va_recv hK hP (ci := 8) (q0 := 0) rfl rfl, Pre.mk hPc (hDc.weaken (fun _ _ _ h => hAlo _ h)) hC hS hAlo⟩ rfl rfl hl.1 rfl (lv_room (Nat.le_of_ble_eq_true rfl)) dX8_digest_28 ⟨(Nat.le_of_ble_eq_true rfl), (Nat.le_of_ble_eq_true rfl)⟩) (fun r_9 e_10 => ?_)
  have e_10 : r_9 = (-1158569213909762195) := e_10
  subst e_10
  refine lv_lstore_n (lv' := [(1, .long (-1158569213909762195)), (0, .ref g)]) hx hb dX8_digest_31 rfl hl (by decide) rfl (fun ls hl => ?_)
  refine lv_aload_n hx hb dX8_digest_32 rfl (lv_at hl 1 rfl) ?_
  refine lv_lload_n hx hb dX8_digest_33 rfl (lv_at hl 0 rfl) ?_
  have hPc := hP.sub (ws' := [(g, .inr (8, [.ref nw, .ref la, .ref pn])), (nw, .inr (6, [.int 0, .ref aI, .ref aS, .ref aP, .ref aL, .ref aO, .ref aT, .ref aA, .ref aQ])), (aI, .inr (0, [.int 0, .ref aI1, .ref aI2, .ref aI3, .ref aI4]))]) [0, 1, 2] rfl
  have hDc := hD.sub (ws' := [(g, .inr (8, [.ref nw, .ref la, .ref pn])), (nw, .inr (6, [.int 0, .ref aI, .ref aS, .ref aP, .ref aL, .ref aO, .ref aT, .ref aA, .ref aQ])), (aI, .inr (0, [.int 0, .ref aI1, .ref aI2, .ref aI3, .ref aI4]))]) [0, 1, 2] (by decide) rfl
  refine vp_callSl (W.runV (As := [.long (-1158569213909762195)]) (rest := []) ⟨hx, hb, hml, hown, hts⟩ (c_mixStocks l D cI cZ cJ lo s.heap.size g nw la pn 0 aI aS aP aL aO aT aA aQ aI1 aI2 aI3 aI4 (-1158569213909762195)) (cwV 1 hts gX8_digest_X8_mixStocks rfl rfl rfl (by decide +kernel) ⟨(Nat.le_of_ble_eq_true rfl), (Nat.le_of_ble_eq_true rfl)⟩) ⟨Pre.blind, va_recv hK hP (ci := 8) (q0 := 0) rfl rfl, Pre.mk hPc (hDc.weaken (fun _ _ _ h => hAlo _ h)) hC hS hAlo⟩ rfl rfl hl.1 rfl (lv_room (Nat.le_of_ble_eq_true rfl)) dX8_digest_34 ⟨(Nat.le_of_ble_eq_true rfl), (Nat.le_of_ble_eq_true rfl)⟩) (fun r_11 e_12 => ?_)
  have e_12 : r_11 = (-1158569213909762195) := e_12
  subst e_12
  refine lv_lstore_n (lv' := [(1, .long (-1158569213909762195)), (0, .ref g)]) hx hb dX8_digest_37 rfl hl (by decide) rfl (fun ls hl => ?_)
  refine lv_aload_n hx hb dX8_digest_38 rfl (lv_at hl 1 rfl) ?_
  refine lv_lload_n hx hb dX8_digest_39 rfl (lv_at hl 0 rfl) ?_
  have hPc := hP.sub (ws' := [(g, .inr (8, [.ref nw, .ref la, .ref pn])), (nw, .inr (6, [.int 0, .ref aI, .ref aS, .ref aP, .ref aL, .ref aO, .ref aT, .ref aA, .ref aQ])), (aI, .inr (0, [.int 0, .ref aI1, .ref aI2, .ref aI3, .ref aI4]))]) [0, 1, 2] rfl
  have hDc := hD.sub (ws' := [(g, .inr (8, [.ref nw, .ref la, .ref pn])), (nw, .inr (6, [.int 0, .ref aI, .ref aS, .ref aP, .ref aL, .ref aO, .ref aT, .ref aA, .ref aQ])), (aI, .inr (0, [.int 0, .ref aI1, .ref aI2, .ref aI3, .ref aI4]))]) [0, 1, 2] (by decide) rfl
  refine vp_callSl (W.runV (As := [.long (-1158569213909762195)]) (rest := []) ⟨hx, hb, hml, hown, hts⟩ (c_mixPlans l D cI cZ cJ lo s.heap.size g nw la pn 0 aI aS aP aL aO aT aA aQ aI1 aI2 aI3 aI4 (-1158569213909762195)) (cwV 1 hts gX8_digest_X8_mixPlans rfl rfl rfl (by decide +kernel) ⟨(Nat.le_of_ble_eq_true rfl), (Nat.le_of_ble_eq_true rfl)⟩) ⟨Pre.blind, va_recv hK hP (ci := 8) (q0 := 0) rfl rfl, Pre.mk hPc (hDc.weaken (fun _ _ _ h => hAlo _ h)) hC hS hAlo⟩ rfl rfl hl.1 rfl (lv_room (Nat.le_of_ble_eq_true rfl)) dX8_digest_40 ⟨(Nat.le_of_ble_eq_true rfl), (Nat.le_of_ble_eq_true rfl)⟩) (fun r_13 e_14 => ?_)
  have e_14 : r_13 = (-1158569213909762195) := e_14
  subst e_14
  refine lv_lstore_n (lv' := [(1, .long (-1158569213909762195)), (0, .ref g)]) hx hb dX8_digest_43 rfl hl (by decide) rfl (fun ls hl => ?_)
  refine lv_iconst (v := 0) hx hb dX8_digest_44 (by decide) ?_
  refine lv_istore_n (lv' := [(3, .int 0), (1, .long (-1158569213909762195)), (0, .ref g)]) hx hb dX8_digest_45 rfl hl (by decide) rfl (fun ls hl => ?_)
  refine lv_iload_n hx hb dX8_digest_46 rfl (lv_at hl 0 rfl) ?_
  refine lv_aload_n hx hb dX8_digest_47 rfl (lv_at hl 2 rfl) ?_
  refine va_get (D := D) (ci := 8) (v := .ref nw) (C := RX8) (T := TX8) (N := 3) hx hb hts in8 hown hK hP 0 rfl rfl 0 (by decide) (hts (.fieldLink RX8 10 "Granary" "now" "LGranary$Stock;") (by decide +kernel)) (fun _ h9 => h9) rfl dX8_digest_48 ?_
  refine va_get (D := D) (ci := 6) (v := .ref aS) (C := RX6) (T := TX6) (N := 9) hx hb hts in6 hown hK hP 1 rfl rfl 2 (by decide) (hts (.fieldLink RX8 48 "Granary$Stock" "sites" "LGranary$Sites;") (by decide +kernel)) (fun _ h9 => h9) rfl dX8_digest_51 ?_
  refine va_get (D := D) (ci := 5) (v := .int 0) (C := RX5) (T := TX5) (N := 3) hx hb hts in5 hown hK hP 3 rfl rfl 0 (by decide) (hts (.fieldLink RX8 52 "Granary$Sites" "count" "I") (by decide +kernel)) (fun _ h9 => h9) rfl dX8_digest_54 ?_
  refine lv_icmp_ge (tgt := 80) hx hb dX8_digest_57 (by decide) (fun _ => ?_) (fun c9 => absurd (show (0 : Int32) ≤ (0 : Int32) from (by decide)) c9)
  refine lv_lload_n hx hb dX8_digest_80 rfl (lv_at hl 1 rfl) ?_
  exact W.lret (v := (-1158569213909762195)) hx hb hr (fun t ht hW => ⟨(-1158569213909762195), rfl, rfl, ht⟩) hL dX8_digest_81

set_option maxHeartbeats 4000000 in
set_option maxRecDepth 100000 in
/-- X8_day -/
theorem c_g_day (l : Launch) (D : va_G) (cI cZ cJ : ClassId) (lo sz : Nat) (g : Nat) (pa : Nat → Nat) (b : Nat → Nat) (a : Nat → Nat) (P : sg_Pic) (q : Nat → Int32) (hw : sg_W P) : Met l yX8_day wsX8_day ({ frames := 0, cells := 0, slots := 0, locals := 0 }) (Pre lo D cI cZ cJ [.ref g] sz ([(g, .inr (8, [.ref (a 0), .ref (b 0), .ref (pa 0)]))] ++ sg_St cI cZ a P q)) (vp_Si (fun r => r = P 0 0)) 0 0 (fun _ => False) := by
  refine Met.ofW (cc := cX8_day) (maxL := 1) (ret := (some .int)) (by decide) rfl ?_
  intro p e s m args below meth c s₁ B hml hv
  obtain ⟨rfl, hsz, hP, hD0, hC⟩ := hv
  have hx := B.exec
  have hb := B.bytes
  have hr := B.returns
  have hts := atoms_spec (ws := wsX8_day) B.pre
  have hown : s.vm.findClass RX8 = some m.cls := findClass_of_methodNamed B.named
  have hlocks := B.notSynchronized
  subst hsz
  have hn1 : sg_cn P 1 ≤ 6 := hw.n1
  have hn2 : sg_cn P 2 ≤ 5 := hw.n2
  have hn3 : sg_cn P 3 ≤ 200 := hw.n3
  have hn4 : sg_cn P 4 ≤ 60 := hw.n4
  have hn5 : sg_cn P 5 ≤ 90 := hw.n5
  have hK := hC.K
  have hD := hD0
  have hS : va_S (fun q => lo ≤ q) s.heap s.heap [] := va_S.rf
  have hAlo : ∀ q, (fun q => lo ≤ q) q → lo ≤ q := fun _ h => h
  have hL : ∀ q ∈ ([] : List Loc), (fun _ : Addr => False) q.base := fun q h => by cases h
  have hP : va_P D vwCl ([(g, .inr (8, [.ref (a 0), .ref (b 0), .ref (pa 0)]))] ++ sg_St cI cZ a P q) s.heap := hP
  have hl := lv_entry ([.ref g]) (n := 1) (Nat.le_of_ble_eq_true rfl)
  rw [lg_entry_eq]
  generalize (lg_sl ([.ref g]) ++ List.replicate (1 - (lg_sl ([.ref g])).length) Slot.unset).toArray = ls at hl ⊢
  have hl : lv_has ls 1 [(0, .ref g)] := hl
  have in6 : ∀ w ∈ u_ws RX6 TX6 9, w ∈ wsX8_day := by decide +kernel
  have in8 : ∀ w ∈ u_ws RX8 TX8 3, w ∈ wsX8_day := by decide +kernel
  refine lv_aload_n hx hb dX8_day_0 rfl (lv_at hl 0 rfl) ?_
  refine va_get (D := D) (ci := 8) (v := .ref (a 0)) (C := RX8) (T := TX8) (N := 3) hx hb hts in8 hown hK hP 0 rfl rfl 0 (by decide) (hts (.fieldLink RX8 10 "Granary" "now" "LGranary$Stock;") (by decide +kernel)) (fun _ h9 => h9) rfl dX8_day_1 ?_
  refine va_get (D := D) (ci := 6) (v := .int (P 0 0)) (C := RX6) (T := TX6) (N := 9) hx hb hts in6 hown hK hP 1 rfl rfl 0 (by decide) (hts (.fieldLink RX8 125 "Granary$Stock" "day" "I") (by decide +kernel)) (fun _ h9 => h9) rfl dX8_day_4 ?_
  exact W.iret (v := (P 0 0)) hx hb hr (fun t ht hW => ⟨(P 0 0), rfl, rfl, ht⟩) hL dX8_day_7

set_option maxHeartbeats 4000000 in
set_option maxRecDepth 100000 in
/-- X8_items -/
theorem c_g_items (l : Launch) (D : va_G) (cI cZ cJ : ClassId) (lo sz : Nat) (g : Nat) (pa : Nat → Nat) (b : Nat → Nat) (a : Nat → Nat) (P : sg_Pic) (q : Nat → Int32) (hw : sg_W P) : Met l yX8_items wsX8_items ({ frames := 0, cells := 0, slots := 0, locals := 0 }) (Pre lo D cI cZ cJ [.ref g] sz ([(g, .inr (8, [.ref (a 0), .ref (b 0), .ref (pa 0)]))] ++ sg_St cI cZ a P q)) (vp_Si (fun r => r = P 0 1)) 0 0 (fun _ => False) := by
  refine Met.ofW (cc := cX8_items) (maxL := 1) (ret := (some .int)) (by decide) rfl ?_
  intro p e s m args below meth c s₁ B hml hv
  obtain ⟨rfl, hsz, hP, hD0, hC⟩ := hv
  have hx := B.exec
  have hb := B.bytes
  have hr := B.returns
  have hts := atoms_spec (ws := wsX8_items) B.pre
  have hown : s.vm.findClass RX8 = some m.cls := findClass_of_methodNamed B.named
  have hlocks := B.notSynchronized
  subst hsz
  have hn1 : sg_cn P 1 ≤ 6 := hw.n1
  have hn2 : sg_cn P 2 ≤ 5 := hw.n2
  have hn3 : sg_cn P 3 ≤ 200 := hw.n3
  have hn4 : sg_cn P 4 ≤ 60 := hw.n4
  have hn5 : sg_cn P 5 ≤ 90 := hw.n5
  have hK := hC.K
  have hD := hD0
  have hS : va_S (fun q => lo ≤ q) s.heap s.heap [] := va_S.rf
  have hAlo : ∀ q, (fun q => lo ≤ q) q → lo ≤ q := fun _ h => h
  have hL : ∀ q ∈ ([] : List Loc), (fun _ : Addr => False) q.base := fun q h => by cases h
  have hP : va_P D vwCl ([(g, .inr (8, [.ref (a 0), .ref (b 0), .ref (pa 0)]))] ++ sg_St cI cZ a P q) s.heap := hP
  have hl := lv_entry ([.ref g]) (n := 1) (Nat.le_of_ble_eq_true rfl)
  rw [lg_entry_eq]
  generalize (lg_sl ([.ref g]) ++ List.replicate (1 - (lg_sl ([.ref g])).length) Slot.unset).toArray = ls at hl ⊢
  have hl : lv_has ls 1 [(0, .ref g)] := hl
  have in0 : ∀ w ∈ u_ws RX0 TX0 5, w ∈ wsX8_items := by decide +kernel
  have in6 : ∀ w ∈ u_ws RX6 TX6 9, w ∈ wsX8_items := by decide +kernel
  have in8 : ∀ w ∈ u_ws RX8 TX8 3, w ∈ wsX8_items := by decide +kernel
  refine lv_aload_n hx hb dX8_items_0 rfl (lv_at hl 0 rfl) ?_
  refine va_get (D := D) (ci := 8) (v := .ref (a 0)) (C := RX8) (T := TX8) (N := 3) hx hb hts in8 hown hK hP 0 rfl rfl 0 (by decide) (hts (.fieldLink RX8 10 "Granary" "now" "LGranary$Stock;") (by decide +kernel)) (fun _ h9 => h9) rfl dX8_items_1 ?_
  refine va_get (D := D) (ci := 6) (v := .ref (a 1)) (C := RX6) (T := TX6) (N := 9) hx hb hts in6 hown hK hP 1 rfl rfl 1 (by decide) (hts (.fieldLink RX8 30 "Granary$Stock" "items" "LGranary$Items;") (by decide +kernel)) (fun _ h9 => h9) rfl dX8_items_4 ?_
  refine va_get (D := D) (ci := 0) (v := .int (P 0 1)) (C := RX0) (T := TX0) (N := 5) hx hb hts in0 hown hK hP 2 rfl rfl 0 (by decide) (hts (.fieldLink RX8 34 "Granary$Items" "count" "I") (by decide +kernel)) (fun _ h9 => h9) rfl dX8_items_7 ?_
  exact W.iret (v := (P 0 1)) hx hb hr (fun t ht hW => ⟨(P 0 1), rfl, rfl, ht⟩) hL dX8_items_10

set_option maxHeartbeats 4000000 in
set_option maxRecDepth 100000 in
/-- X8_sites -/
theorem c_g_sites (l : Launch) (D : va_G) (cI cZ cJ : ClassId) (lo sz : Nat) (g : Nat) (pa : Nat → Nat) (b : Nat → Nat) (a : Nat → Nat) (P : sg_Pic) (q : Nat → Int32) (hw : sg_W P) : Met l yX8_sites wsX8_sites ({ frames := 0, cells := 0, slots := 0, locals := 0 }) (Pre lo D cI cZ cJ [.ref g] sz ([(g, .inr (8, [.ref (a 0), .ref (b 0), .ref (pa 0)]))] ++ sg_St cI cZ a P q)) (vp_Si (fun r => r = P 0 2)) 0 0 (fun _ => False) := by
  refine Met.ofW (cc := cX8_sites) (maxL := 1) (ret := (some .int)) (by decide) rfl ?_
  intro p e s m args below meth c s₁ B hml hv
  obtain ⟨rfl, hsz, hP, hD0, hC⟩ := hv
  have hx := B.exec
  have hb := B.bytes
  have hr := B.returns
  have hts := atoms_spec (ws := wsX8_sites) B.pre
  have hown : s.vm.findClass RX8 = some m.cls := findClass_of_methodNamed B.named
  have hlocks := B.notSynchronized
  subst hsz
  have hn1 : sg_cn P 1 ≤ 6 := hw.n1
  have hn2 : sg_cn P 2 ≤ 5 := hw.n2
  have hn3 : sg_cn P 3 ≤ 200 := hw.n3
  have hn4 : sg_cn P 4 ≤ 60 := hw.n4
  have hn5 : sg_cn P 5 ≤ 90 := hw.n5
  have hK := hC.K
  have hD := hD0
  have hS : va_S (fun q => lo ≤ q) s.heap s.heap [] := va_S.rf
  have hAlo : ∀ q, (fun q => lo ≤ q) q → lo ≤ q := fun _ h => h
  have hL : ∀ q ∈ ([] : List Loc), (fun _ : Addr => False) q.base := fun q h => by cases h
  have hP : va_P D vwCl ([(g, .inr (8, [.ref (a 0), .ref (b 0), .ref (pa 0)]))] ++ sg_St cI cZ a P q) s.heap := hP
  have hl := lv_entry ([.ref g]) (n := 1) (Nat.le_of_ble_eq_true rfl)
  rw [lg_entry_eq]
  generalize (lg_sl ([.ref g]) ++ List.replicate (1 - (lg_sl ([.ref g])).length) Slot.unset).toArray = ls at hl ⊢
  have hl : lv_has ls 1 [(0, .ref g)] := hl
  have in5 : ∀ w ∈ u_ws RX5 TX5 3, w ∈ wsX8_sites := by decide +kernel
  have in6 : ∀ w ∈ u_ws RX6 TX6 9, w ∈ wsX8_sites := by decide +kernel
  have in8 : ∀ w ∈ u_ws RX8 TX8 3, w ∈ wsX8_sites := by decide +kernel
  refine lv_aload_n hx hb dX8_sites_0 rfl (lv_at hl 0 rfl) ?_
  refine va_get (D := D) (ci := 8) (v := .ref (a 0)) (C := RX8) (T := TX8) (N := 3) hx hb hts in8 hown hK hP 0 rfl rfl 0 (by decide) (hts (.fieldLink RX8 10 "Granary" "now" "LGranary$Stock;") (by decide +kernel)) (fun _ h9 => h9) rfl dX8_sites_1 ?_
  refine va_get (D := D) (ci := 6) (v := .ref (a 2)) (C := RX6) (T := TX6) (N := 9) hx hb hts in6 hown hK hP 1 rfl rfl 2 (by decide) (hts (.fieldLink RX8 48 "Granary$Stock" "sites" "LGranary$Sites;") (by decide +kernel)) (fun _ h9 => h9) rfl dX8_sites_4 ?_
  refine va_get (D := D) (ci := 5) (v := .int (P 0 2)) (C := RX5) (T := TX5) (N := 3) hx hb hts in5 hown hK hP 3 rfl rfl 0 (by decide) (hts (.fieldLink RX8 52 "Granary$Sites" "count" "I") (by decide +kernel)) (fun _ h9 => h9) rfl dX8_sites_7 ?_
  exact W.iret (v := (P 0 2)) hx hb hr (fun t ht hW => ⟨(P 0 2), rfl, rfl, ht⟩) hL dX8_sites_10

set_option maxHeartbeats 4000000 in
set_option maxRecDepth 100000 in
/-- X8_lots -/
theorem c_g_lots (l : Launch) (D : va_G) (cI cZ cJ : ClassId) (lo sz : Nat) (g : Nat) (pa : Nat → Nat) (b : Nat → Nat) (a : Nat → Nat) (P : sg_Pic) (q : Nat → Int32) (hw : sg_W P) : Met l yX8_lots wsX8_lots ({ frames := 0, cells := 0, slots := 0, locals := 0 }) (Pre lo D cI cZ cJ [.ref g] sz ([(g, .inr (8, [.ref (a 0), .ref (b 0), .ref (pa 0)]))] ++ sg_St cI cZ a P q)) (vp_Si (fun r => r = P 0 3)) 0 0 (fun _ => False) := by
  refine Met.ofW (cc := cX8_lots) (maxL := 1) (ret := (some .int)) (by decide) rfl ?_
  intro p e s m args below meth c s₁ B hml hv
  obtain ⟨rfl, hsz, hP, hD0, hC⟩ := hv
  have hx := B.exec
  have hb := B.bytes
  have hr := B.returns
  have hts := atoms_spec (ws := wsX8_lots) B.pre
  have hown : s.vm.findClass RX8 = some m.cls := findClass_of_methodNamed B.named
  have hlocks := B.notSynchronized
  subst hsz
  have hn1 : sg_cn P 1 ≤ 6 := hw.n1
  have hn2 : sg_cn P 2 ≤ 5 := hw.n2
  have hn3 : sg_cn P 3 ≤ 200 := hw.n3
  have hn4 : sg_cn P 4 ≤ 60 := hw.n4
  have hn5 : sg_cn P 5 ≤ 90 := hw.n5
  have hK := hC.K
  have hD := hD0
  have hS : va_S (fun q => lo ≤ q) s.heap s.heap [] := va_S.rf
  have hAlo : ∀ q, (fun q => lo ≤ q) q → lo ≤ q := fun _ h => h
  have hL : ∀ q ∈ ([] : List Loc), (fun _ : Addr => False) q.base := fun q h => by cases h
  have hP : va_P D vwCl ([(g, .inr (8, [.ref (a 0), .ref (b 0), .ref (pa 0)]))] ++ sg_St cI cZ a P q) s.heap := hP
  have hl := lv_entry ([.ref g]) (n := 1) (Nat.le_of_ble_eq_true rfl)
  rw [lg_entry_eq]
  generalize (lg_sl ([.ref g]) ++ List.replicate (1 - (lg_sl ([.ref g])).length) Slot.unset).toArray = ls at hl ⊢
  have hl : lv_has ls 1 [(0, .ref g)] := hl
  have in1 : ∀ w ∈ u_ws RX1 TX1 6, w ∈ wsX8_lots := by decide +kernel
  have in6 : ∀ w ∈ u_ws RX6 TX6 9, w ∈ wsX8_lots := by decide +kernel
  have in8 : ∀ w ∈ u_ws RX8 TX8 3, w ∈ wsX8_lots := by decide +kernel
  refine lv_aload_n hx hb dX8_lots_0 rfl (lv_at hl 0 rfl) ?_
  refine va_get (D := D) (ci := 8) (v := .ref (a 0)) (C := RX8) (T := TX8) (N := 3) hx hb hts in8 hown hK hP 0 rfl rfl 0 (by decide) (hts (.fieldLink RX8 10 "Granary" "now" "LGranary$Stock;") (by decide +kernel)) (fun _ h9 => h9) rfl dX8_lots_1 ?_
  refine va_get (D := D) (ci := 6) (v := .ref (a 4)) (C := RX6) (T := TX6) (N := 9) hx hb hts in6 hown hK hP 1 rfl rfl 4 (by decide) (hts (.fieldLink RX8 109 "Granary$Stock" "lots" "LGranary$Lots;") (by decide +kernel)) (fun _ h9 => h9) rfl dX8_lots_4 ?_
  refine va_get (D := D) (ci := 1) (v := .int (P 0 3)) (C := RX1) (T := TX1) (N := 6) hx hb hts in1 hown hK hP 5 rfl rfl 0 (by decide) (hts (.fieldLink RX8 113 "Granary$Lots" "count" "I") (by decide +kernel)) (fun _ h9 => h9) rfl dX8_lots_7 ?_
  exact W.iret (v := (P 0 3)) hx hb hr (fun t ht hW => ⟨(P 0 3), rfl, rfl, ht⟩) hL dX8_lots_10

set_option maxHeartbeats 4000000 in
set_option maxRecDepth 100000 in
/-- X8_orders -/
theorem c_g_orders (l : Launch) (D : va_G) (cI cZ cJ : ClassId) (lo sz : Nat) (g : Nat) (pa : Nat → Nat) (b : Nat → Nat) (a : Nat → Nat) (P : sg_Pic) (q : Nat → Int32) (hw : sg_W P) : Met l yX8_orders wsX8_orders ({ frames := 0, cells := 0, slots := 0, locals := 0 }) (Pre lo D cI cZ cJ [.ref g] sz ([(g, .inr (8, [.ref (a 0), .ref (b 0), .ref (pa 0)]))] ++ sg_St cI cZ a P q)) (vp_Si (fun r => r = P 0 4)) 0 0 (fun _ => False) := by
  refine Met.ofW (cc := cX8_orders) (maxL := 1) (ret := (some .int)) (by decide) rfl ?_
  intro p e s m args below meth c s₁ B hml hv
  obtain ⟨rfl, hsz, hP, hD0, hC⟩ := hv
  have hx := B.exec
  have hb := B.bytes
  have hr := B.returns
  have hts := atoms_spec (ws := wsX8_orders) B.pre
  have hown : s.vm.findClass RX8 = some m.cls := findClass_of_methodNamed B.named
  have hlocks := B.notSynchronized
  subst hsz
  have hn1 : sg_cn P 1 ≤ 6 := hw.n1
  have hn2 : sg_cn P 2 ≤ 5 := hw.n2
  have hn3 : sg_cn P 3 ≤ 200 := hw.n3
  have hn4 : sg_cn P 4 ≤ 60 := hw.n4
  have hn5 : sg_cn P 5 ≤ 90 := hw.n5
  have hK := hC.K
  have hD := hD0
  have hS : va_S (fun q => lo ≤ q) s.heap s.heap [] := va_S.rf
  have hAlo : ∀ q, (fun q => lo ≤ q) q → lo ≤ q := fun _ h => h
  have hL : ∀ q ∈ ([] : List Loc), (fun _ : Addr => False) q.base := fun q h => by cases h
  have hP : va_P D vwCl ([(g, .inr (8, [.ref (a 0), .ref (b 0), .ref (pa 0)]))] ++ sg_St cI cZ a P q) s.heap := hP
  have hl := lv_entry ([.ref g]) (n := 1) (Nat.le_of_ble_eq_true rfl)
  rw [lg_entry_eq]
  generalize (lg_sl ([.ref g]) ++ List.replicate (1 - (lg_sl ([.ref g])).length) Slot.unset).toArray = ls at hl ⊢
  have hl : lv_has ls 1 [(0, .ref g)] := hl
  have in2 : ∀ w ∈ u_ws RX2 TX2 11, w ∈ wsX8_orders := by decide +kernel
  have in6 : ∀ w ∈ u_ws RX6 TX6 9, w ∈ wsX8_orders := by decide +kernel
  have in8 : ∀ w ∈ u_ws RX8 TX8 3, w ∈ wsX8_orders := by decide +kernel
  refine lv_aload_n hx hb dX8_orders_0 rfl (lv_at hl 0 rfl) ?_
  refine va_get (D := D) (ci := 8) (v := .ref (a 0)) (C := RX8) (T := TX8) (N := 3) hx hb hts in8 hown hK hP 0 rfl rfl 0 (by decide) (hts (.fieldLink RX8 10 "Granary" "now" "LGranary$Stock;") (by decide +kernel)) (fun _ h9 => h9) rfl dX8_orders_1 ?_
  refine va_get (D := D) (ci := 6) (v := .ref (a 5)) (C := RX6) (T := TX6) (N := 9) hx hb hts in6 hown hK hP 1 rfl rfl 5 (by decide) (hts (.fieldLink RX8 131 "Granary$Stock" "orders" "LGranary$Orders;") (by decide +kernel)) (fun _ h9 => h9) rfl dX8_orders_4 ?_
  refine va_get (D := D) (ci := 2) (v := .int (P 0 4)) (C := RX2) (T := TX2) (N := 11) hx hb hts in2 hown hK hP 6 rfl rfl 0 (by decide) (hts (.fieldLink RX8 135 "Granary$Orders" "count" "I") (by decide +kernel)) (fun _ h9 => h9) rfl dX8_orders_7 ?_
  exact W.iret (v := (P 0 4)) hx hb hr (fun t ht hW => ⟨(P 0 4), rfl, rfl, ht⟩) hL dX8_orders_10

set_option maxHeartbeats 4000000 in
set_option maxRecDepth 100000 in
/-- X8_onHand -/
theorem c_g_onHand (l : Launch) (D : va_G) (cI cZ cJ : ClassId) (lo sz : Nat) (g : Nat) (pa : Nat → Nat) (b : Nat → Nat) (a : Nat → Nat) (P : sg_Pic) (q : Nat → Int32) (xi : Nat) (xs : Nat) (hw : sg_W P) (hi : xi < sg_cn P 1) (hs : xs < sg_cn P 2) : Met l yX8_onHand wsX8_onHand ({ frames := 2, cells := 0, slots := 0, locals := 47 }) (Pre lo D cI cZ cJ [.ref g, .int (nI xi), .int (nI xs)] sz ([(g, .inr (8, [.ref (a 0), .ref (b 0), .ref (pa 0)]))] ++ sg_St cI cZ a P q)) (vp_Si (fun r => r = sg_unitsAt P (nI xi) (nI xs))) 0 0 (fun _ => False) := by
  refine Met.ofW (cc := cX8_onHand) (maxL := 3) (ret := (some .int)) (by decide) rfl ?_
  intro p e s m args below meth c s₁ B hml hv
  obtain ⟨rfl, hsz, hP, hD0, hC⟩ := hv
  have hx := B.exec
  have hb := B.bytes
  have hr := B.returns
  have hts := atoms_spec (ws := wsX8_onHand) B.pre
  have hown : s.vm.findClass RX8 = some m.cls := findClass_of_methodNamed B.named
  have hlocks := B.notSynchronized
  subst hsz
  have hn1 : sg_cn P 1 ≤ 6 := hw.n1
  have hn2 : sg_cn P 2 ≤ 5 := hw.n2
  have hn3 : sg_cn P 3 ≤ 200 := hw.n3
  have hn4 : sg_cn P 4 ≤ 60 := hw.n4
  have hn5 : sg_cn P 5 ≤ 90 := hw.n5
  have hK := hC.K
  have hD := hD0
  have hS : va_S (fun q => lo ≤ q) s.heap s.heap [] := va_S.rf
  have hAlo : ∀ q, (fun q => lo ≤ q) q → lo ≤ q := fun _ h => h
  have hL : ∀ q ∈ ([] : List Loc), (fun _ : Addr => False) q.base := fun q h => by cases h
  have hP : va_P D vwCl ([(g, .inr (8, [.ref (a 0), .ref (b 0), .ref (pa 0)]))] ++ sg_St cI cZ a P q) s.heap := hP
  have hl := lv_entry ([.ref g, .int (nI xi), .int (nI xs)]) (n := 3) (Nat.le_of_ble_eq_true rfl)
  rw [lg_entry_eq]
  generalize (lg_sl ([.ref g, .int (nI xi), .int (nI xs)]) ++ List.replicate (3 - (lg_sl ([.ref g, .int (nI xi), .int (nI xs)])).length) Slot.unset).toArray = ls at hl ⊢
  have hl : lv_has ls 3 [(0, .ref g), (1, .int (nI xi)), (2, .int (nI xs))] := hl
  have in6 : ∀ w ∈ u_ws RX6 TX6 9, w ∈ wsX8_onHand := by decide +kernel
  have in8 : ∀ w ∈ u_ws RX8 TX8 3, w ∈ wsX8_onHand := by decide +kernel
  refine lv_aload_n hx hb dX8_onHand_0 rfl (lv_at hl 0 rfl) ?_
  refine lv_iload_n hx hb dX8_onHand_1 rfl (lv_at hl 1 rfl) ?_
  have hPc := hP.sub (ws' := [(g, .inr (8, [.ref (a 0), .ref (b 0), .ref (pa 0)])), (a 0, .inr (6, [.int (P 0 0), .ref (a 1), .ref (a 2), .ref (a 3), .ref (a 4), .ref (a 5), .ref (a 6), .ref (a 70), .ref (a 71)])), (a 1, .inr (0, [.int (P 0 1), .ref (a 10), .ref (a 11), .ref (a 12), .ref (a 13)]))]) [0, 1, 2] rfl
  have hDc := hD.sub (ws' := [(g, .inr (8, [.ref (a 0), .ref (b 0), .ref (pa 0)])), (a 0, .inr (6, [.int (P 0 0), .ref (a 1), .ref (a 2), .ref (a 3), .ref (a 4), .ref (a 5), .ref (a 6), .ref (a 70), .ref (a 71)])), (a 1, .inr (0, [.int (P 0 1), .ref (a 10), .ref (a 11), .ref (a 12), .ref (a 13)]))]) [0, 1, 2] (by decide) rfl
  refine va_csv (W.runV (As := [.int (nI xi)]) (rest := []) ⟨hx, hb, hml, hown, hts⟩ (c_needItem l D cI cZ cJ lo s.heap.size g pa b a P xi hw (by omega)) (cwV 1 hts gX8_onHand_X8_needItem rfl rfl rfl (by decide +kernel) ⟨(Nat.le_of_ble_eq_true rfl), (Nat.le_of_ble_eq_true rfl)⟩) ⟨Pre.blind, va_recv hK hP (ci := 8) (q0 := 0) rfl rfl, Pre.mk hPc (hDc.weaken (fun _ _ _ h => hAlo _ h)) hC hS hAlo⟩ rfl rfl hl.1 rfl (lv_room (Nat.le_of_ble_eq_true rfl)) dX8_onHand_2 ⟨(Nat.le_of_ble_eq_true rfl), (Nat.le_of_ble_eq_true rfl)⟩) (fun e_1 => ?_)
  clear hPc hDc
  refine lv_aload_n hx hb dX8_onHand_5 rfl (lv_at hl 0 rfl) ?_
  refine lv_iload_n hx hb dX8_onHand_6 rfl (lv_at hl 2 rfl) ?_
  have hPc := hP.sub (ws' := [(g, .inr (8, [.ref (a 0), .ref (b 0), .ref (pa 0)])), (a 0, .inr (6, [.int (P 0 0), .ref (a 1), .ref (a 2), .ref (a 3), .ref (a 4), .ref (a 5), .ref (a 6), .ref (a 70), .ref (a 71)])), (a 2, .inr (5, [.int (P 0 2), .ref (a 20), .ref (a 21)]))]) [0, 1, 3] rfl
  have hDc := hD.sub (ws' := [(g, .inr (8, [.ref (a 0), .ref (b 0), .ref (pa 0)])), (a 0, .inr (6, [.int (P 0 0), .ref (a 1), .ref (a 2), .ref (a 3), .ref (a 4), .ref (a 5), .ref (a 6), .ref (a 70), .ref (a 71)])), (a 2, .inr (5, [.int (P 0 2), .ref (a 20), .ref (a 21)]))]) [0, 1, 3] (by decide) rfl
  refine va_csv (W.runV (As := [.int (nI xs)]) (rest := []) ⟨hx, hb, hml, hown, hts⟩ (c_needSite l D cI cZ cJ lo s.heap.size g pa b a P xs hw (by omega)) (cwV 1 hts gX8_onHand_X8_needSite rfl rfl rfl (by decide +kernel) ⟨(Nat.le_of_ble_eq_true rfl), (Nat.le_of_ble_eq_true rfl)⟩) ⟨Pre.blind, va_recv hK hP (ci := 8) (q0 := 0) rfl rfl, Pre.mk hPc (hDc.weaken (fun _ _ _ h => hAlo _ h)) hC hS hAlo⟩ rfl rfl hl.1 rfl (lv_room (Nat.le_of_ble_eq_true rfl)) dX8_onHand_7 ⟨(Nat.le_of_ble_eq_true rfl), (Nat.le_of_ble_eq_true rfl)⟩) (fun e_2 => ?_)
  clear hPc hDc
  refine lv_aload_n hx hb dX8_onHand_10 rfl (lv_at hl 0 rfl) ?_
  refine va_get (D := D) (ci := 8) (v := .ref (a 0)) (C := RX8) (T := TX8) (N := 3) hx hb hts in8 hown hK hP 0 rfl rfl 0 (by decide) (hts (.fieldLink RX8 10 "Granary" "now" "LGranary$Stock;") (by decide +kernel)) (fun _ h9 => h9) rfl dX8_onHand_11 ?_
  refine va_get (D := D) (ci := 6) (v := .ref (a 4)) (C := RX6) (T := TX6) (N := 9) hx hb hts in6 hown hK hP 1 rfl rfl 4 (by decide) (hts (.fieldLink RX8 109 "Granary$Stock" "lots" "LGranary$Lots;") (by decide +kernel)) (fun _ h9 => h9) rfl dX8_onHand_14 ?_
  refine lv_iload_n hx hb dX8_onHand_17 rfl (lv_at hl 1 rfl) ?_
  refine lv_iload_n hx hb dX8_onHand_18 rfl (lv_at hl 2 rfl) ?_
  have hPc := hP.sub (ws' := [(a 4, .inr (1, [.int (P 0 3), .ref (a 40), .ref (a 41), .ref (a 42), .ref (a 43), .ref (a 44)])), (a 40, .inl (cI, 200, .inl (P 40))), (a 41, .inl (cI, 200, .inl (P 41))), (a 42, .inl (cI, 200, .inl (P 42))), (a 43, .inl (cI, 200, .inl (P 43))), (a 44, .inl (cI, 200, .inl (P 44)))]) [5, 19, 20, 21, 22, 23] rfl
  have hDc := hD.sub (ws' := [(a 4, .inr (1, [.int (P 0 3), .ref (a 40), .ref (a 41), .ref (a 42), .ref (a 43), .ref (a 44)])), (a 40, .inl (cI, 200, .inl (P 40))), (a 41, .inl (cI, 200, .inl (P 41))), (a 42, .inl (cI, 200, .inl (P 42))), (a 43, .inl (cI, 200, .inl (P 43))), (a 44, .inl (cI, 200, .inl (P 44)))]) [5, 19, 20, 21, 22, 23] (by decide) rfl
  refine vp_callSi (W.runV (As := [.int (nI xi), .int (nI xs)]) (rest := []) ⟨hx, hb, hml, hown, hts⟩ (c_unitsAt l D cI cZ cJ lo s.heap.size a P (nI xi) (nI xs) hw) (cwV 2 hts gX8_onHand_X1_unitsAt rfl rfl rfl (by decide +kernel) ⟨(Nat.le_of_ble_eq_true rfl), (Nat.le_of_ble_eq_true rfl)⟩) ⟨Pre.blind, va_recv hK hP (ci := 1) (q0 := 5) rfl rfl, Pre.mk hPc (hDc.weaken (fun _ _ _ h => hAlo _ h)) hC hS hAlo⟩ rfl rfl hl.1 rfl (lv_room (Nat.le_of_ble_eq_true rfl)) dX8_onHand_19 ⟨(Nat.le_of_ble_eq_true rfl), (Nat.le_of_ble_eq_true rfl)⟩) (fun r_3 e_4 => ?_)
  clear hPc hDc
  have e_4 : sg_unitsAt P (nI xi) (nI xs) = r_3 := Eq.symm e_4
  subst e_4
  exact W.iret (v := (sg_unitsAt P (nI xi) (nI xs))) hx hb hr (fun t ht hW => ⟨(sg_unitsAt P (nI xi) (nI xs)), rfl, rfl, ht⟩) hL dX8_onHand_22

set_option maxHeartbeats 4000000 in
set_option maxRecDepth 100000 in
/-- X8_underWay -/
theorem c_g_underWay (l : Launch) (D : va_G) (cI cZ cJ : ClassId) (lo sz : Nat) (g : Nat) (pa : Nat → Nat) (b : Nat → Nat) (a : Nat → Nat) (P : sg_Pic) (q : Nat → Int32) (xi : Nat) (xs : Nat) (hw : sg_W P) (hi : xi < sg_cn P 1) (hs : xs < sg_cn P 2) : Met l yX8_underWay wsX8_underWay ({ frames := 2, cells := 0, slots := 0, locals := 42 }) (Pre lo D cI cZ cJ [.ref g, .int (nI xi), .int (nI xs)] sz ([(g, .inr (8, [.ref (a 0), .ref (b 0), .ref (pa 0)]))] ++ sg_St cI cZ a P q)) (vp_Si (fun r => r = sg_unitsTo P (nI xi) (nI xs))) 0 0 (fun _ => False) := by
  refine Met.ofW (cc := cX8_underWay) (maxL := 3) (ret := (some .int)) (by decide) rfl ?_
  intro p e s m args below meth c s₁ B hml hv
  obtain ⟨rfl, hsz, hP, hD0, hC⟩ := hv
  have hx := B.exec
  have hb := B.bytes
  have hr := B.returns
  have hts := atoms_spec (ws := wsX8_underWay) B.pre
  have hown : s.vm.findClass RX8 = some m.cls := findClass_of_methodNamed B.named
  have hlocks := B.notSynchronized
  subst hsz
  have hn1 : sg_cn P 1 ≤ 6 := hw.n1
  have hn2 : sg_cn P 2 ≤ 5 := hw.n2
  have hn3 : sg_cn P 3 ≤ 200 := hw.n3
  have hn4 : sg_cn P 4 ≤ 60 := hw.n4
  have hn5 : sg_cn P 5 ≤ 90 := hw.n5
  have hK := hC.K
  have hD := hD0
  have hS : va_S (fun q => lo ≤ q) s.heap s.heap [] := va_S.rf
  have hAlo : ∀ q, (fun q => lo ≤ q) q → lo ≤ q := fun _ h => h
  have hL : ∀ q ∈ ([] : List Loc), (fun _ : Addr => False) q.base := fun q h => by cases h
  have hP : va_P D vwCl ([(g, .inr (8, [.ref (a 0), .ref (b 0), .ref (pa 0)]))] ++ sg_St cI cZ a P q) s.heap := hP
  have hl := lv_entry ([.ref g, .int (nI xi), .int (nI xs)]) (n := 3) (Nat.le_of_ble_eq_true rfl)
  rw [lg_entry_eq]
  generalize (lg_sl ([.ref g, .int (nI xi), .int (nI xs)]) ++ List.replicate (3 - (lg_sl ([.ref g, .int (nI xi), .int (nI xs)])).length) Slot.unset).toArray = ls at hl ⊢
  have hl : lv_has ls 3 [(0, .ref g), (1, .int (nI xi)), (2, .int (nI xs))] := hl
  have in6 : ∀ w ∈ u_ws RX6 TX6 9, w ∈ wsX8_underWay := by decide +kernel
  have in8 : ∀ w ∈ u_ws RX8 TX8 3, w ∈ wsX8_underWay := by decide +kernel
  refine lv_aload_n hx hb dX8_underWay_0 rfl (lv_at hl 0 rfl) ?_
  refine lv_iload_n hx hb dX8_underWay_1 rfl (lv_at hl 1 rfl) ?_
  have hPc := hP.sub (ws' := [(g, .inr (8, [.ref (a 0), .ref (b 0), .ref (pa 0)])), (a 0, .inr (6, [.int (P 0 0), .ref (a 1), .ref (a 2), .ref (a 3), .ref (a 4), .ref (a 5), .ref (a 6), .ref (a 70), .ref (a 71)])), (a 1, .inr (0, [.int (P 0 1), .ref (a 10), .ref (a 11), .ref (a 12), .ref (a 13)]))]) [0, 1, 2] rfl
  have hDc := hD.sub (ws' := [(g, .inr (8, [.ref (a 0), .ref (b 0), .ref (pa 0)])), (a 0, .inr (6, [.int (P 0 0), .ref (a 1), .ref (a 2), .ref (a 3), .ref (a 4), .ref (a 5), .ref (a 6), .ref (a 70), .ref (a 71)])), (a 1, .inr (0, [.int (P 0 1), .ref (a 10), .ref (a 11), .ref (a 12), .ref (a 13)]))]) [0, 1, 2] (by decide) rfl
  refine va_csv (W.runV (As := [.int (nI xi)]) (rest := []) ⟨hx, hb, hml, hown, hts⟩ (c_needItem l D cI cZ cJ lo s.heap.size g pa b a P xi hw (by omega)) (cwV 1 hts gX8_underWay_X8_needItem rfl rfl rfl (by decide +kernel) ⟨(Nat.le_of_ble_eq_true rfl), (Nat.le_of_ble_eq_true rfl)⟩) ⟨Pre.blind, va_recv hK hP (ci := 8) (q0 := 0) rfl rfl, Pre.mk hPc (hDc.weaken (fun _ _ _ h => hAlo _ h)) hC hS hAlo⟩ rfl rfl hl.1 rfl (lv_room (Nat.le_of_ble_eq_true rfl)) dX8_underWay_2 ⟨(Nat.le_of_ble_eq_true rfl), (Nat.le_of_ble_eq_true rfl)⟩) (fun e_1 => ?_)
  clear hPc hDc
  refine lv_aload_n hx hb dX8_underWay_5 rfl (lv_at hl 0 rfl) ?_
  refine lv_iload_n hx hb dX8_underWay_6 rfl (lv_at hl 2 rfl) ?_
  have hPc := hP.sub (ws' := [(g, .inr (8, [.ref (a 0), .ref (b 0), .ref (pa 0)])), (a 0, .inr (6, [.int (P 0 0), .ref (a 1), .ref (a 2), .ref (a 3), .ref (a 4), .ref (a 5), .ref (a 6), .ref (a 70), .ref (a 71)])), (a 2, .inr (5, [.int (P 0 2), .ref (a 20), .ref (a 21)]))]) [0, 1, 3] rfl
  have hDc := hD.sub (ws' := [(g, .inr (8, [.ref (a 0), .ref (b 0), .ref (pa 0)])), (a 0, .inr (6, [.int (P 0 0), .ref (a 1), .ref (a 2), .ref (a 3), .ref (a 4), .ref (a 5), .ref (a 6), .ref (a 70), .ref (a 71)])), (a 2, .inr (5, [.int (P 0 2), .ref (a 20), .ref (a 21)]))]) [0, 1, 3] (by decide) rfl
  refine va_csv (W.runV (As := [.int (nI xs)]) (rest := []) ⟨hx, hb, hml, hown, hts⟩ (c_needSite l D cI cZ cJ lo s.heap.size g pa b a P xs hw (by omega)) (cwV 1 hts gX8_underWay_X8_needSite rfl rfl rfl (by decide +kernel) ⟨(Nat.le_of_ble_eq_true rfl), (Nat.le_of_ble_eq_true rfl)⟩) ⟨Pre.blind, va_recv hK hP (ci := 8) (q0 := 0) rfl rfl, Pre.mk hPc (hDc.weaken (fun _ _ _ h => hAlo _ h)) hC hS hAlo⟩ rfl rfl hl.1 rfl (lv_room (Nat.le_of_ble_eq_true rfl)) dX8_underWay_7 ⟨(Nat.le_of_ble_eq_true rfl), (Nat.le_of_ble_eq_true rfl)⟩) (fun e_2 => ?_)
  clear hPc hDc
  refine lv_aload_n hx hb dX8_underWay_10 rfl (lv_at hl 0 rfl) ?_
  refine va_get (D := D) (ci := 8) (v := .ref (a 0)) (C := RX8) (T := TX8) (N := 3) hx hb hts in8 hown hK hP 0 rfl rfl 0 (by decide) (hts (.fieldLink RX8 10 "Granary" "now" "LGranary$Stock;") (by decide +kernel)) (fun _ h9 => h9) rfl dX8_underWay_11 ?_
  refine va_get (D := D) (ci := 6) (v := .ref (a 6)) (C := RX6) (T := TX6) (N := 9) hx hb hts in6 hown hK hP 1 rfl rfl 6 (by decide) (hts (.fieldLink RX8 183 "Granary$Stock" "transports" "LGranary$Transports;") (by decide +kernel)) (fun _ h9 => h9) rfl dX8_underWay_14 ?_
  refine lv_iload_n hx hb dX8_underWay_17 rfl (lv_at hl 1 rfl) ?_
  refine lv_iload_n hx hb dX8_underWay_18 rfl (lv_at hl 2 rfl) ?_
  have hPc := hP.sub (ws' := [(a 6, .inr (7, [.int (P 0 5), .ref (a 60), .ref (a 61), .ref (a 62), .ref (a 63), .ref (a 64), .ref (a 65)])), (a 60, .inl (cI, 90, .inl (P 60))), (a 61, .inl (cI, 90, .inl (P 61))), (a 62, .inl (cI, 90, .inl (P 62))), (a 63, .inl (cI, 90, .inl (P 63))), (a 64, .inl (cI, 90, .inl (P 64))), (a 65, .inl (cI, 90, .inl (P 65)))]) [7, 34, 35, 36, 37, 38, 39] rfl
  have hDc := hD.sub (ws' := [(a 6, .inr (7, [.int (P 0 5), .ref (a 60), .ref (a 61), .ref (a 62), .ref (a 63), .ref (a 64), .ref (a 65)])), (a 60, .inl (cI, 90, .inl (P 60))), (a 61, .inl (cI, 90, .inl (P 61))), (a 62, .inl (cI, 90, .inl (P 62))), (a 63, .inl (cI, 90, .inl (P 63))), (a 64, .inl (cI, 90, .inl (P 64))), (a 65, .inl (cI, 90, .inl (P 65)))]) [7, 34, 35, 36, 37, 38, 39] (by decide) rfl
  refine vp_callSi (W.runV (As := [.int (nI xi), .int (nI xs)]) (rest := []) ⟨hx, hb, hml, hown, hts⟩ (c_unitsTo l D cI cZ cJ lo s.heap.size a P (nI xi) (nI xs) hw) (cwV 2 hts gX8_underWay_X7_unitsTo rfl rfl rfl (by decide +kernel) ⟨(Nat.le_of_ble_eq_true rfl), (Nat.le_of_ble_eq_true rfl)⟩) ⟨Pre.blind, va_recv hK hP (ci := 7) (q0 := 7) rfl rfl, Pre.mk hPc (hDc.weaken (fun _ _ _ h => hAlo _ h)) hC hS hAlo⟩ rfl rfl hl.1 rfl (lv_room (Nat.le_of_ble_eq_true rfl)) dX8_underWay_19 ⟨(Nat.le_of_ble_eq_true rfl), (Nat.le_of_ble_eq_true rfl)⟩) (fun r_3 e_4 => ?_)
  clear hPc hDc
  have e_4 : sg_unitsTo P (nI xi) (nI xs) = r_3 := Eq.symm e_4
  subst e_4
  exact W.iret (v := (sg_unitsTo P (nI xi) (nI xs))) hx hb hr (fun t ht hW => ⟨(sg_unitsTo P (nI xi) (nI xs)), rfl, rfl, ht⟩) hL dX8_underWay_22

set_option maxHeartbeats 4000000 in
set_option maxRecDepth 100000 in
/-- X8_free -/
theorem c_g_free (l : Launch) (D : va_G) (cI cZ cJ : ClassId) (lo sz : Nat) (g : Nat) (pa : Nat → Nat) (b : Nat → Nat) (a : Nat → Nat) (P : sg_Pic) (q : Nat → Int32) (xi : Nat) (xs : Nat) (hw : sg_W P) (hi : xi < sg_cn P 1) (hs : xs < sg_cn P 2) : Met l yX8_free wsX8_free ({ frames := 3, cells := 0, slots := 0, locals := 68 }) (Pre lo D cI cZ cJ [.ref g, .int (nI xi), .int (nI xs)] sz ([(g, .inr (8, [.ref (a 0), .ref (b 0), .ref (pa 0)]))] ++ sg_St cI cZ a P q)) (vp_Si (fun r => r = sg_freeAt P (nI xi) (nI xs))) 0 0 (fun _ => False) := by
  refine Met.ofW (cc := cX8_free) (maxL := 3) (ret := (some .int)) (by decide) rfl ?_
  intro p e s m args below meth c s₁ B hml hv
  obtain ⟨rfl, hsz, hP, hD0, hC⟩ := hv
  have hx := B.exec
  have hb := B.bytes
  have hr := B.returns
  have hts := atoms_spec (ws := wsX8_free) B.pre
  have hown : s.vm.findClass RX8 = some m.cls := findClass_of_methodNamed B.named
  have hlocks := B.notSynchronized
  subst hsz
  have hn1 : sg_cn P 1 ≤ 6 := hw.n1
  have hn2 : sg_cn P 2 ≤ 5 := hw.n2
  have hn3 : sg_cn P 3 ≤ 200 := hw.n3
  have hn4 : sg_cn P 4 ≤ 60 := hw.n4
  have hn5 : sg_cn P 5 ≤ 90 := hw.n5
  have hK := hC.K
  have hD := hD0
  have hS : va_S (fun q => lo ≤ q) s.heap s.heap [] := va_S.rf
  have hAlo : ∀ q, (fun q => lo ≤ q) q → lo ≤ q := fun _ h => h
  have hL : ∀ q ∈ ([] : List Loc), (fun _ : Addr => False) q.base := fun q h => by cases h
  have hP : va_P D vwCl ([(g, .inr (8, [.ref (a 0), .ref (b 0), .ref (pa 0)]))] ++ sg_St cI cZ a P q) s.heap := hP
  have hl := lv_entry ([.ref g, .int (nI xi), .int (nI xs)]) (n := 3) (Nat.le_of_ble_eq_true rfl)
  rw [lg_entry_eq]
  generalize (lg_sl ([.ref g, .int (nI xi), .int (nI xs)]) ++ List.replicate (3 - (lg_sl ([.ref g, .int (nI xi), .int (nI xs)])).length) Slot.unset).toArray = ls at hl ⊢
  have hl : lv_has ls 3 [(0, .ref g), (1, .int (nI xi)), (2, .int (nI xs))] := hl
  have in6 : ∀ w ∈ u_ws RX6 TX6 9, w ∈ wsX8_free := by decide +kernel
  have in8 : ∀ w ∈ u_ws RX8 TX8 3, w ∈ wsX8_free := by decide +kernel
  refine lv_aload_n hx hb dX8_free_0 rfl (lv_at hl 0 rfl) ?_
  refine lv_iload_n hx hb dX8_free_1 rfl (lv_at hl 1 rfl) ?_
  have hPc := hP.sub (ws' := [(g, .inr (8, [.ref (a 0), .ref (b 0), .ref (pa 0)])), (a 0, .inr (6, [.int (P 0 0), .ref (a 1), .ref (a 2), .ref (a 3), .ref (a 4), .ref (a 5), .ref (a 6), .ref (a 70), .ref (a 71)])), (a 1, .inr (0, [.int (P 0 1), .ref (a 10), .ref (a 11), .ref (a 12), .ref (a 13)]))]) [0, 1, 2] rfl
  have hDc := hD.sub (ws' := [(g, .inr (8, [.ref (a 0), .ref (b 0), .ref (pa 0)])), (a 0, .inr (6, [.int (P 0 0), .ref (a 1), .ref (a 2), .ref (a 3), .ref (a 4), .ref (a 5), .ref (a 6), .ref (a 70), .ref (a 71)])), (a 1, .inr (0, [.int (P 0 1), .ref (a 10), .ref (a 11), .ref (a 12), .ref (a 13)]))]) [0, 1, 2] (by decide) rfl
  refine va_csv (W.runV (As := [.int (nI xi)]) (rest := []) ⟨hx, hb, hml, hown, hts⟩ (c_needItem l D cI cZ cJ lo s.heap.size g pa b a P xi hw (by omega)) (cwV 1 hts gX8_free_X8_needItem rfl rfl rfl (by decide +kernel) ⟨(Nat.le_of_ble_eq_true rfl), (Nat.le_of_ble_eq_true rfl)⟩) ⟨Pre.blind, va_recv hK hP (ci := 8) (q0 := 0) rfl rfl, Pre.mk hPc (hDc.weaken (fun _ _ _ h => hAlo _ h)) hC hS hAlo⟩ rfl rfl hl.1 rfl (lv_room (Nat.le_of_ble_eq_true rfl)) dX8_free_2 ⟨(Nat.le_of_ble_eq_true rfl), (Nat.le_of_ble_eq_true rfl)⟩) (fun e_1 => ?_)
  clear hPc hDc
  refine lv_aload_n hx hb dX8_free_5 rfl (lv_at hl 0 rfl) ?_
  refine lv_iload_n hx hb dX8_free_6 rfl (lv_at hl 2 rfl) ?_
  have hPc := hP.sub (ws' := [(g, .inr (8, [.ref (a 0), .ref (b 0), .ref (pa 0)])), (a 0, .inr (6, [.int (P 0 0), .ref (a 1), .ref (a 2), .ref (a 3), .ref (a 4), .ref (a 5), .ref (a 6), .ref (a 70), .ref (a 71)])), (a 2, .inr (5, [.int (P 0 2), .ref (a 20), .ref (a 21)]))]) [0, 1, 3] rfl
  have hDc := hD.sub (ws' := [(g, .inr (8, [.ref (a 0), .ref (b 0), .ref (pa 0)])), (a 0, .inr (6, [.int (P 0 0), .ref (a 1), .ref (a 2), .ref (a 3), .ref (a 4), .ref (a 5), .ref (a 6), .ref (a 70), .ref (a 71)])), (a 2, .inr (5, [.int (P 0 2), .ref (a 20), .ref (a 21)]))]) [0, 1, 3] (by decide) rfl
  refine va_csv (W.runV (As := [.int (nI xs)]) (rest := []) ⟨hx, hb, hml, hown, hts⟩ (c_needSite l D cI cZ cJ lo s.heap.size g pa b a P xs hw (by omega)) (cwV 1 hts gX8_free_X8_needSite rfl rfl rfl (by decide +kernel) ⟨(Nat.le_of_ble_eq_true rfl), (Nat.le_of_ble_eq_true rfl)⟩) ⟨Pre.blind, va_recv hK hP (ci := 8) (q0 := 0) rfl rfl, Pre.mk hPc (hDc.weaken (fun _ _ _ h => hAlo _ h)) hC hS hAlo⟩ rfl rfl hl.1 rfl (lv_room (Nat.le_of_ble_eq_true rfl)) dX8_free_7 ⟨(Nat.le_of_ble_eq_true rfl), (Nat.le_of_ble_eq_true rfl)⟩) (fun e_2 => ?_)
  clear hPc hDc
  refine lv_aload_n hx hb dX8_free_10 rfl (lv_at hl 0 rfl) ?_
  refine va_get (D := D) (ci := 8) (v := .ref (a 0)) (C := RX8) (T := TX8) (N := 3) hx hb hts in8 hown hK hP 0 rfl rfl 0 (by decide) (hts (.fieldLink RX8 10 "Granary" "now" "LGranary$Stock;") (by decide +kernel)) (fun _ h9 => h9) rfl dX8_free_11 ?_
  refine va_get (D := D) (ci := 6) (v := .ref (a 4)) (C := RX6) (T := TX6) (N := 9) hx hb hts in6 hown hK hP 1 rfl rfl 4 (by decide) (hts (.fieldLink RX8 109 "Granary$Stock" "lots" "LGranary$Lots;") (by decide +kernel)) (fun _ h9 => h9) rfl dX8_free_14 ?_
  refine lv_iload_n hx hb dX8_free_17 rfl (lv_at hl 1 rfl) ?_
  refine lv_iload_n hx hb dX8_free_18 rfl (lv_at hl 2 rfl) ?_
  have hPc := hP.sub (ws' := [(a 4, .inr (1, [.int (P 0 3), .ref (a 40), .ref (a 41), .ref (a 42), .ref (a 43), .ref (a 44)])), (a 40, .inl (cI, 200, .inl (P 40))), (a 41, .inl (cI, 200, .inl (P 41))), (a 42, .inl (cI, 200, .inl (P 42))), (a 43, .inl (cI, 200, .inl (P 43))), (a 44, .inl (cI, 200, .inl (P 44)))]) [5, 19, 20, 21, 22, 23] rfl
  have hDc := hD.sub (ws' := [(a 4, .inr (1, [.int (P 0 3), .ref (a 40), .ref (a 41), .ref (a 42), .ref (a 43), .ref (a 44)])), (a 40, .inl (cI, 200, .inl (P 40))), (a 41, .inl (cI, 200, .inl (P 41))), (a 42, .inl (cI, 200, .inl (P 42))), (a 43, .inl (cI, 200, .inl (P 43))), (a 44, .inl (cI, 200, .inl (P 44)))]) [5, 19, 20, 21, 22, 23] (by decide) rfl
  refine vp_callSi (W.runV (As := [.int (nI xi), .int (nI xs)]) (rest := []) ⟨hx, hb, hml, hown, hts⟩ (c_freeAt l D cI cZ cJ lo s.heap.size a P (nI xi) (nI xs) hw) (cwV 2 hts gX8_free_X1_freeAt rfl rfl rfl (by decide +kernel) ⟨(Nat.le_of_ble_eq_true rfl), (Nat.le_of_ble_eq_true rfl)⟩) ⟨Pre.blind, va_recv hK hP (ci := 1) (q0 := 5) rfl rfl, Pre.mk hPc (hDc.weaken (fun _ _ _ h => hAlo _ h)) hC hS hAlo⟩ rfl rfl hl.1 rfl (lv_room (Nat.le_of_ble_eq_true rfl)) dX8_free_19 ⟨(Nat.le_of_ble_eq_true rfl), (Nat.le_of_ble_eq_true rfl)⟩) (fun r_3 e_4 => ?_)
  clear hPc hDc
  have e_4 : sg_freeAt P (nI xi) (nI xs) = r_3 := Eq.symm e_4
  subst e_4
  exact W.iret (v := (sg_freeAt P (nI xi) (nI xs))) hx hb hr (fun t ht hW => ⟨(sg_freeAt P (nI xi) (nI xs)), rfl, rfl, ht⟩) hL dX8_free_22

set_option maxHeartbeats 4000000 in
set_option maxRecDepth 100000 in
/-- X8_lacks -/
theorem c_g_lacks (l : Launch) (D : va_G) (cI cZ cJ : ClassId) (lo sz : Nat) (g : Nat) (pa : Nat → Nat) (b : Nat → Nat) (a : Nat → Nat) (P : sg_Pic) (q : Nat → Int32) (xi : Nat) (xs : Nat) (hw : sg_W P) (hi : xi < sg_cn P 1) (hs : xs < sg_cn P 2) : Met l yX8_lacks wsX8_lacks ({ frames := 4, cells := 0, slots := 0, locals := 91 }) (Pre lo D cI cZ cJ [.ref g, .int (nI xi), .int (nI xs)] sz ([(g, .inr (8, [.ref (a 0), .ref (b 0), .ref (pa 0)]))] ++ sg_St cI cZ a P q)) (vp_Si (fun r => r = sg_lackAt P xi xs)) 0 0 (fun _ => False) := by
  refine Met.ofW (cc := cX8_lacks) (maxL := 3) (ret := (some .int)) (by decide) rfl ?_
  intro p e s m args below meth c s₁ B hml hv
  obtain ⟨rfl, hsz, hP, hD0, hC⟩ := hv
  have hx := B.exec
  have hb := B.bytes
  have hr := B.returns
  have hts := atoms_spec (ws := wsX8_lacks) B.pre
  have hown : s.vm.findClass RX8 = some m.cls := findClass_of_methodNamed B.named
  have hlocks := B.notSynchronized
  subst hsz
  have hn1 : sg_cn P 1 ≤ 6 := hw.n1
  have hn2 : sg_cn P 2 ≤ 5 := hw.n2
  have hn3 : sg_cn P 3 ≤ 200 := hw.n3
  have hn4 : sg_cn P 4 ≤ 60 := hw.n4
  have hn5 : sg_cn P 5 ≤ 90 := hw.n5
  have hK := hC.K
  have hD := hD0
  have hS : va_S (fun q => lo ≤ q) s.heap s.heap [] := va_S.rf
  have hAlo : ∀ q, (fun q => lo ≤ q) q → lo ≤ q := fun _ h => h
  have hL : ∀ q ∈ ([] : List Loc), (fun _ : Addr => False) q.base := fun q h => by cases h
  have hP : va_P D vwCl ([(g, .inr (8, [.ref (a 0), .ref (b 0), .ref (pa 0)]))] ++ sg_St cI cZ a P q) s.heap := hP
  have hl := lv_entry ([.ref g, .int (nI xi), .int (nI xs)]) (n := 3) (Nat.le_of_ble_eq_true rfl)
  rw [lg_entry_eq]
  generalize (lg_sl ([.ref g, .int (nI xi), .int (nI xs)]) ++ List.replicate (3 - (lg_sl ([.ref g, .int (nI xi), .int (nI xs)])).length) Slot.unset).toArray = ls at hl ⊢
  have hl : lv_has ls 3 [(0, .ref g), (1, .int (nI xi)), (2, .int (nI xs))] := hl
  have in8 : ∀ w ∈ u_ws RX8 TX8 3, w ∈ wsX8_lacks := by decide +kernel
  refine lv_aload_n hx hb dX8_lacks_0 rfl (lv_at hl 0 rfl) ?_
  refine lv_iload_n hx hb dX8_lacks_1 rfl (lv_at hl 1 rfl) ?_
  have hPc := hP.sub (ws' := [(g, .inr (8, [.ref (a 0), .ref (b 0), .ref (pa 0)])), (a 0, .inr (6, [.int (P 0 0), .ref (a 1), .ref (a 2), .ref (a 3), .ref (a 4), .ref (a 5), .ref (a 6), .ref (a 70), .ref (a 71)])), (a 1, .inr (0, [.int (P 0 1), .ref (a 10), .ref (a 11), .ref (a 12), .ref (a 13)]))]) [0, 1, 2] rfl
  have hDc := hD.sub (ws' := [(g, .inr (8, [.ref (a 0), .ref (b 0), .ref (pa 0)])), (a 0, .inr (6, [.int (P 0 0), .ref (a 1), .ref (a 2), .ref (a 3), .ref (a 4), .ref (a 5), .ref (a 6), .ref (a 70), .ref (a 71)])), (a 1, .inr (0, [.int (P 0 1), .ref (a 10), .ref (a 11), .ref (a 12), .ref (a 13)]))]) [0, 1, 2] (by decide) rfl
  refine va_csv (W.runV (As := [.int (nI xi)]) (rest := []) ⟨hx, hb, hml, hown, hts⟩ (c_needItem l D cI cZ cJ lo s.heap.size g pa b a P xi hw (by omega)) (cwV 1 hts gX8_lacks_X8_needItem rfl rfl rfl (by decide +kernel) ⟨(Nat.le_of_ble_eq_true rfl), (Nat.le_of_ble_eq_true rfl)⟩) ⟨Pre.blind, va_recv hK hP (ci := 8) (q0 := 0) rfl rfl, Pre.mk hPc (hDc.weaken (fun _ _ _ h => hAlo _ h)) hC hS hAlo⟩ rfl rfl hl.1 rfl (lv_room (Nat.le_of_ble_eq_true rfl)) dX8_lacks_2 ⟨(Nat.le_of_ble_eq_true rfl), (Nat.le_of_ble_eq_true rfl)⟩) (fun e_1 => ?_)
  clear hPc hDc
  refine lv_aload_n hx hb dX8_lacks_5 rfl (lv_at hl 0 rfl) ?_
  refine lv_iload_n hx hb dX8_lacks_6 rfl (lv_at hl 2 rfl) ?_
  have hPc := hP.sub (ws' := [(g, .inr (8, [.ref (a 0), .ref (b 0), .ref (pa 0)])), (a 0, .inr (6, [.int (P 0 0), .ref (a 1), .ref (a 2), .ref (a 3), .ref (a 4), .ref (a 5), .ref (a 6), .ref (a 70), .ref (a 71)])), (a 2, .inr (5, [.int (P 0 2), .ref (a 20), .ref (a 21)]))]) [0, 1, 3] rfl
  have hDc := hD.sub (ws' := [(g, .inr (8, [.ref (a 0), .ref (b 0), .ref (pa 0)])), (a 0, .inr (6, [.int (P 0 0), .ref (a 1), .ref (a 2), .ref (a 3), .ref (a 4), .ref (a 5), .ref (a 6), .ref (a 70), .ref (a 71)])), (a 2, .inr (5, [.int (P 0 2), .ref (a 20), .ref (a 21)]))]) [0, 1, 3] (by decide) rfl
  refine va_csv (W.runV (As := [.int (nI xs)]) (rest := []) ⟨hx, hb, hml, hown, hts⟩ (c_needSite l D cI cZ cJ lo s.heap.size g pa b a P xs hw (by omega)) (cwV 1 hts gX8_lacks_X8_needSite rfl rfl rfl (by decide +kernel) ⟨(Nat.le_of_ble_eq_true rfl), (Nat.le_of_ble_eq_true rfl)⟩) ⟨Pre.blind, va_recv hK hP (ci := 8) (q0 := 0) rfl rfl, Pre.mk hPc (hDc.weaken (fun _ _ _ h => hAlo _ h)) hC hS hAlo⟩ rfl rfl hl.1 rfl (lv_room (Nat.le_of_ble_eq_true rfl)) dX8_lacks_7 ⟨(Nat.le_of_ble_eq_true rfl), (Nat.le_of_ble_eq_true rfl)⟩) (fun e_2 => ?_)
  clear hPc hDc
  refine lv_aload_n hx hb dX8_lacks_10 rfl (lv_at hl 0 rfl) ?_
  refine va_get (D := D) (ci := 8) (v := .ref (a 0)) (C := RX8) (T := TX8) (N := 3) hx hb hts in8 hown hK hP 0 rfl rfl 0 (by decide) (hts (.fieldLink RX8 10 "Granary" "now" "LGranary$Stock;") (by decide +kernel)) (fun _ h9 => h9) rfl dX8_lacks_11 ?_
  refine lv_iload_n hx hb dX8_lacks_14 rfl (lv_at hl 1 rfl) ?_
  refine lv_iload_n hx hb dX8_lacks_15 rfl (lv_at hl 2 rfl) ?_
  have hPc := hP.sub (ws' := [(a 0, .inr (6, [.int (P 0 0), .ref (a 1), .ref (a 2), .ref (a 3), .ref (a 4), .ref (a 5), .ref (a 6), .ref (a 70), .ref (a 71)])), (a 3, .inr (4, [.ref (a 30), .ref (a 31), .ref (a 32), .ref (a 33), .ref (a 34)])), (a 4, .inr (1, [.int (P 0 3), .ref (a 40), .ref (a 41), .ref (a 42), .ref (a 43), .ref (a 44)])), (a 5, .inr (2, [.int (P 0 4), .ref (a 50), .ref (a 51), .ref (a 52), .ref (a 53), .ref (a 54), .ref (a 55), .ref (a 56), .ref (a 57), .ref (a 58), .ref (a 59)])), (a 6, .inr (7, [.int (P 0 5), .ref (a 60), .ref (a 61), .ref (a 62), .ref (a 63), .ref (a 64), .ref (a 65)])), (a 30, .inl (cZ, 30, .inl (P 30))), (a 31, .inl (cI, 30, .inl (P 31))), (a 32, .inl (cI, 30, .inl (P 32))), (a 33, .inl (cI, 30, .inl (P 33))), (a 34, .inl (cI, 30, .inl (P 34))), (a 40, .inl (cI, 200, .inl (P 40))), (a 41, .inl (cI, 200, .inl (P 41))), (a 42, .inl (cI, 200, .inl (P 42))), (a 43, .inl (cI, 200, .inl (P 43))), (a 44, .inl (cI, 200, .inl (P 44))), (a 50, .inl (cI, 60, .inl (P 50))), (a 51, .inl (cI, 60, .inl (P 51))), (a 52, .inl (cI, 60, .inl (P 52))), (a 53, .inl (cI, 60, .inl (P 53))), (a 54, .inl (cI, 60, .inl (P 54))), (a 55, .inl (cI, 60, .inl (P 55))), (a 56, .inl (cI, 60, .inl (P 56))), (a 57, .inl (cI, 60, .inl (P 57))), (a 58, .inl (cI, 60, .inl (P 58))), (a 59, .inl (cI, 12000, .inl (P 59))), (a 60, .inl (cI, 90, .inl (P 60))), (a 61, .inl (cI, 90, .inl (P 61))), (a 62, .inl (cI, 90, .inl (P 62))), (a 63, .inl (cI, 90, .inl (P 63))), (a 64, .inl (cI, 90, .inl (P 64))), (a 65, .inl (cI, 90, .inl (P 65)))]) [1, 4, 5, 6, 7, 14, 15, 16, 17, 18, 19, 20, 21, 22, 23, 24, 25, 26, 27, 28, 29, 30, 31, 32, 33, 34, 35, 36, 37, 38, 39] rfl
  have hDc := hD.sub (ws' := [(a 0, .inr (6, [.int (P 0 0), .ref (a 1), .ref (a 2), .ref (a 3), .ref (a 4), .ref (a 5), .ref (a 6), .ref (a 70), .ref (a 71)])), (a 3, .inr (4, [.ref (a 30), .ref (a 31), .ref (a 32), .ref (a 33), .ref (a 34)])), (a 4, .inr (1, [.int (P 0 3), .ref (a 40), .ref (a 41), .ref (a 42), .ref (a 43), .ref (a 44)])), (a 5, .inr (2, [.int (P 0 4), .ref (a 50), .ref (a 51), .ref (a 52), .ref (a 53), .ref (a 54), .ref (a 55), .ref (a 56), .ref (a 57), .ref (a 58), .ref (a 59)])), (a 6, .inr (7, [.int (P 0 5), .ref (a 60), .ref (a 61), .ref (a 62), .ref (a 63), .ref (a 64), .ref (a 65)])), (a 30, .inl (cZ, 30, .inl (P 30))), (a 31, .inl (cI, 30, .inl (P 31))), (a 32, .inl (cI, 30, .inl (P 32))), (a 33, .inl (cI, 30, .inl (P 33))), (a 34, .inl (cI, 30, .inl (P 34))), (a 40, .inl (cI, 200, .inl (P 40))), (a 41, .inl (cI, 200, .inl (P 41))), (a 42, .inl (cI, 200, .inl (P 42))), (a 43, .inl (cI, 200, .inl (P 43))), (a 44, .inl (cI, 200, .inl (P 44))), (a 50, .inl (cI, 60, .inl (P 50))), (a 51, .inl (cI, 60, .inl (P 51))), (a 52, .inl (cI, 60, .inl (P 52))), (a 53, .inl (cI, 60, .inl (P 53))), (a 54, .inl (cI, 60, .inl (P 54))), (a 55, .inl (cI, 60, .inl (P 55))), (a 56, .inl (cI, 60, .inl (P 56))), (a 57, .inl (cI, 60, .inl (P 57))), (a 58, .inl (cI, 60, .inl (P 58))), (a 59, .inl (cI, 12000, .inl (P 59))), (a 60, .inl (cI, 90, .inl (P 60))), (a 61, .inl (cI, 90, .inl (P 61))), (a 62, .inl (cI, 90, .inl (P 62))), (a 63, .inl (cI, 90, .inl (P 63))), (a 64, .inl (cI, 90, .inl (P 64))), (a 65, .inl (cI, 90, .inl (P 65)))]) [1, 4, 5, 6, 7, 14, 15, 16, 17, 18, 19, 20, 21, 22, 23, 24, 25, 26, 27, 28, 29, 30, 31, 32, 33, 34, 35, 36, 37, 38, 39] (by decide) rfl
  refine vp_callSi (W.runV (As := [.int (nI xi), .int (nI xs)]) (rest := []) ⟨hx, hb, hml, hown, hts⟩ (c_lackAt l D cI cZ cJ lo s.heap.size a P xi xs hw (by omega) (by omega)) (cwV 2 hts gX8_lacks_X6_lackAt rfl rfl rfl (by decide +kernel) ⟨(Nat.le_of_ble_eq_true rfl), (Nat.le_of_ble_eq_true rfl)⟩) ⟨Pre.blind, va_recv hK hP (ci := 6) (q0 := 1) rfl rfl, Pre.mk hPc (hDc.weaken (fun _ _ _ h => hAlo _ h)) hC hS hAlo⟩ rfl rfl hl.1 rfl (lv_room (Nat.le_of_ble_eq_true rfl)) dX8_lacks_16 ⟨(Nat.le_of_ble_eq_true rfl), (Nat.le_of_ble_eq_true rfl)⟩) (fun r_3 e_4 => ?_)
  clear hPc hDc
  have e_4 : sg_lackAt P xi xs = r_3 := Eq.symm e_4
  subst e_4
  exact W.iret (v := (sg_lackAt P xi xs)) hx hb hr (fun t ht hW => ⟨(sg_lackAt P xi xs), rfl, rfl, ht⟩) hL dX8_lacks_19

set_option maxHeartbeats 4000000 in
set_option maxRecDepth 100000 in
/-- X8_spares -/
theorem c_g_spares (l : Launch) (D : va_G) (cI cZ cJ : ClassId) (lo sz : Nat) (g : Nat) (pa : Nat → Nat) (b : Nat → Nat) (a : Nat → Nat) (P : sg_Pic) (q : Nat → Int32) (xi : Nat) (xs : Nat) (hw : sg_W P) (hi : xi < sg_cn P 1) (hs : xs < sg_cn P 2) : Met l yX8_spares wsX8_spares ({ frames := 4, cells := 0, slots := 0, locals := 92 }) (Pre lo D cI cZ cJ [.ref g, .int (nI xi), .int (nI xs)] sz ([(g, .inr (8, [.ref (a 0), .ref (b 0), .ref (pa 0)]))] ++ sg_St cI cZ a P q)) (vp_Si (fun r => r = sg_spareAt P xi xs)) 0 0 (fun _ => False) := by
  refine Met.ofW (cc := cX8_spares) (maxL := 3) (ret := (some .int)) (by decide) rfl ?_
  intro p e s m args below meth c s₁ B hml hv
  obtain ⟨rfl, hsz, hP, hD0, hC⟩ := hv
  have hx := B.exec
  have hb := B.bytes
  have hr := B.returns
  have hts := atoms_spec (ws := wsX8_spares) B.pre
  have hown : s.vm.findClass RX8 = some m.cls := findClass_of_methodNamed B.named
  have hlocks := B.notSynchronized
  subst hsz
  have hn1 : sg_cn P 1 ≤ 6 := hw.n1
  have hn2 : sg_cn P 2 ≤ 5 := hw.n2
  have hn3 : sg_cn P 3 ≤ 200 := hw.n3
  have hn4 : sg_cn P 4 ≤ 60 := hw.n4
  have hn5 : sg_cn P 5 ≤ 90 := hw.n5
  have hK := hC.K
  have hD := hD0
  have hS : va_S (fun q => lo ≤ q) s.heap s.heap [] := va_S.rf
  have hAlo : ∀ q, (fun q => lo ≤ q) q → lo ≤ q := fun _ h => h
  have hL : ∀ q ∈ ([] : List Loc), (fun _ : Addr => False) q.base := fun q h => by cases h
  have hP : va_P D vwCl ([(g, .inr (8, [.ref (a 0), .ref (b 0), .ref (pa 0)]))] ++ sg_St cI cZ a P q) s.heap := hP
  have hl := lv_entry ([.ref g, .int (nI xi), .int (nI xs)]) (n := 3) (Nat.le_of_ble_eq_true rfl)
  rw [lg_entry_eq]
  generalize (lg_sl ([.ref g, .int (nI xi), .int (nI xs)]) ++ List.replicate (3 - (lg_sl ([.ref g, .int (nI xi), .int (nI xs)])).length) Slot.unset).toArray = ls at hl ⊢
  have hl : lv_has ls 3 [(0, .ref g), (1, .int (nI xi)), (2, .int (nI xs))] := hl
  have in8 : ∀ w ∈ u_ws RX8 TX8 3, w ∈ wsX8_spares := by decide +kernel
  refine lv_aload_n hx hb dX8_spares_0 rfl (lv_at hl 0 rfl) ?_
  refine lv_iload_n hx hb dX8_spares_1 rfl (lv_at hl 1 rfl) ?_
  have hPc := hP.sub (ws' := [(g, .inr (8, [.ref (a 0), .ref (b 0), .ref (pa 0)])), (a 0, .inr (6, [.int (P 0 0), .ref (a 1), .ref (a 2), .ref (a 3), .ref (a 4), .ref (a 5), .ref (a 6), .ref (a 70), .ref (a 71)])), (a 1, .inr (0, [.int (P 0 1), .ref (a 10), .ref (a 11), .ref (a 12), .ref (a 13)]))]) [0, 1, 2] rfl
  have hDc := hD.sub (ws' := [(g, .inr (8, [.ref (a 0), .ref (b 0), .ref (pa 0)])), (a 0, .inr (6, [.int (P 0 0), .ref (a 1), .ref (a 2), .ref (a 3), .ref (a 4), .ref (a 5), .ref (a 6), .ref (a 70), .ref (a 71)])), (a 1, .inr (0, [.int (P 0 1), .ref (a 10), .ref (a 11), .ref (a 12), .ref (a 13)]))]) [0, 1, 2] (by decide) rfl
  refine va_csv (W.runV (As := [.int (nI xi)]) (rest := []) ⟨hx, hb, hml, hown, hts⟩ (c_needItem l D cI cZ cJ lo s.heap.size g pa b a P xi hw (by omega)) (cwV 1 hts gX8_spares_X8_needItem rfl rfl rfl (by decide +kernel) ⟨(Nat.le_of_ble_eq_true rfl), (Nat.le_of_ble_eq_true rfl)⟩) ⟨Pre.blind, va_recv hK hP (ci := 8) (q0 := 0) rfl rfl, Pre.mk hPc (hDc.weaken (fun _ _ _ h => hAlo _ h)) hC hS hAlo⟩ rfl rfl hl.1 rfl (lv_room (Nat.le_of_ble_eq_true rfl)) dX8_spares_2 ⟨(Nat.le_of_ble_eq_true rfl), (Nat.le_of_ble_eq_true rfl)⟩) (fun e_1 => ?_)
  clear hPc hDc
  refine lv_aload_n hx hb dX8_spares_5 rfl (lv_at hl 0 rfl) ?_
  refine lv_iload_n hx hb dX8_spares_6 rfl (lv_at hl 2 rfl) ?_
  have hPc := hP.sub (ws' := [(g, .inr (8, [.ref (a 0), .ref (b 0), .ref (pa 0)])), (a 0, .inr (6, [.int (P 0 0), .ref (a 1), .ref (a 2), .ref (a 3), .ref (a 4), .ref (a 5), .ref (a 6), .ref (a 70), .ref (a 71)])), (a 2, .inr (5, [.int (P 0 2), .ref (a 20), .ref (a 21)]))]) [0, 1, 3] rfl
  have hDc := hD.sub (ws' := [(g, .inr (8, [.ref (a 0), .ref (b 0), .ref (pa 0)])), (a 0, .inr (6, [.int (P 0 0), .ref (a 1), .ref (a 2), .ref (a 3), .ref (a 4), .ref (a 5), .ref (a 6), .ref (a 70), .ref (a 71)])), (a 2, .inr (5, [.int (P 0 2), .ref (a 20), .ref (a 21)]))]) [0, 1, 3] (by decide) rfl
  refine va_csv (W.runV (As := [.int (nI xs)]) (rest := []) ⟨hx, hb, hml, hown, hts⟩ (c_needSite l D cI cZ cJ lo s.heap.size g pa b a P xs hw (by omega)) (cwV 1 hts gX8_spares_X8_needSite rfl rfl rfl (by decide +kernel) ⟨(Nat.le_of_ble_eq_true rfl), (Nat.le_of_ble_eq_true rfl)⟩) ⟨Pre.blind, va_recv hK hP (ci := 8) (q0 := 0) rfl rfl, Pre.mk hPc (hDc.weaken (fun _ _ _ h => hAlo _ h)) hC hS hAlo⟩ rfl rfl hl.1 rfl (lv_room (Nat.le_of_ble_eq_true rfl)) dX8_spares_7 ⟨(Nat.le_of_ble_eq_true rfl), (Nat.le_of_ble_eq_true rfl)⟩) (fun e_2 => ?_)
  clear hPc hDc
  refine lv_aload_n hx hb dX8_spares_10 rfl (lv_at hl 0 rfl) ?_
  refine va_get (D := D) (ci := 8) (v := .ref (a 0)) (C := RX8) (T := TX8) (N := 3) hx hb hts in8 hown hK hP 0 rfl rfl 0 (by decide) (hts (.fieldLink RX8 10 "Granary" "now" "LGranary$Stock;") (by decide +kernel)) (fun _ h9 => h9) rfl dX8_spares_11 ?_
  refine lv_iload_n hx hb dX8_spares_14 rfl (lv_at hl 1 rfl) ?_
  refine lv_iload_n hx hb dX8_spares_15 rfl (lv_at hl 2 rfl) ?_
  have hPc := hP.sub (ws' := [(a 0, .inr (6, [.int (P 0 0), .ref (a 1), .ref (a 2), .ref (a 3), .ref (a 4), .ref (a 5), .ref (a 6), .ref (a 70), .ref (a 71)])), (a 3, .inr (4, [.ref (a 30), .ref (a 31), .ref (a 32), .ref (a 33), .ref (a 34)])), (a 4, .inr (1, [.int (P 0 3), .ref (a 40), .ref (a 41), .ref (a 42), .ref (a 43), .ref (a 44)])), (a 5, .inr (2, [.int (P 0 4), .ref (a 50), .ref (a 51), .ref (a 52), .ref (a 53), .ref (a 54), .ref (a 55), .ref (a 56), .ref (a 57), .ref (a 58), .ref (a 59)])), (a 6, .inr (7, [.int (P 0 5), .ref (a 60), .ref (a 61), .ref (a 62), .ref (a 63), .ref (a 64), .ref (a 65)])), (a 30, .inl (cZ, 30, .inl (P 30))), (a 31, .inl (cI, 30, .inl (P 31))), (a 32, .inl (cI, 30, .inl (P 32))), (a 33, .inl (cI, 30, .inl (P 33))), (a 34, .inl (cI, 30, .inl (P 34))), (a 40, .inl (cI, 200, .inl (P 40))), (a 41, .inl (cI, 200, .inl (P 41))), (a 42, .inl (cI, 200, .inl (P 42))), (a 43, .inl (cI, 200, .inl (P 43))), (a 44, .inl (cI, 200, .inl (P 44))), (a 50, .inl (cI, 60, .inl (P 50))), (a 51, .inl (cI, 60, .inl (P 51))), (a 52, .inl (cI, 60, .inl (P 52))), (a 53, .inl (cI, 60, .inl (P 53))), (a 54, .inl (cI, 60, .inl (P 54))), (a 55, .inl (cI, 60, .inl (P 55))), (a 56, .inl (cI, 60, .inl (P 56))), (a 57, .inl (cI, 60, .inl (P 57))), (a 58, .inl (cI, 60, .inl (P 58))), (a 59, .inl (cI, 12000, .inl (P 59))), (a 60, .inl (cI, 90, .inl (P 60))), (a 61, .inl (cI, 90, .inl (P 61))), (a 62, .inl (cI, 90, .inl (P 62))), (a 63, .inl (cI, 90, .inl (P 63))), (a 64, .inl (cI, 90, .inl (P 64))), (a 65, .inl (cI, 90, .inl (P 65)))]) [1, 4, 5, 6, 7, 14, 15, 16, 17, 18, 19, 20, 21, 22, 23, 24, 25, 26, 27, 28, 29, 30, 31, 32, 33, 34, 35, 36, 37, 38, 39] rfl
  have hDc := hD.sub (ws' := [(a 0, .inr (6, [.int (P 0 0), .ref (a 1), .ref (a 2), .ref (a 3), .ref (a 4), .ref (a 5), .ref (a 6), .ref (a 70), .ref (a 71)])), (a 3, .inr (4, [.ref (a 30), .ref (a 31), .ref (a 32), .ref (a 33), .ref (a 34)])), (a 4, .inr (1, [.int (P 0 3), .ref (a 40), .ref (a 41), .ref (a 42), .ref (a 43), .ref (a 44)])), (a 5, .inr (2, [.int (P 0 4), .ref (a 50), .ref (a 51), .ref (a 52), .ref (a 53), .ref (a 54), .ref (a 55), .ref (a 56), .ref (a 57), .ref (a 58), .ref (a 59)])), (a 6, .inr (7, [.int (P 0 5), .ref (a 60), .ref (a 61), .ref (a 62), .ref (a 63), .ref (a 64), .ref (a 65)])), (a 30, .inl (cZ, 30, .inl (P 30))), (a 31, .inl (cI, 30, .inl (P 31))), (a 32, .inl (cI, 30, .inl (P 32))), (a 33, .inl (cI, 30, .inl (P 33))), (a 34, .inl (cI, 30, .inl (P 34))), (a 40, .inl (cI, 200, .inl (P 40))), (a 41, .inl (cI, 200, .inl (P 41))), (a 42, .inl (cI, 200, .inl (P 42))), (a 43, .inl (cI, 200, .inl (P 43))), (a 44, .inl (cI, 200, .inl (P 44))), (a 50, .inl (cI, 60, .inl (P 50))), (a 51, .inl (cI, 60, .inl (P 51))), (a 52, .inl (cI, 60, .inl (P 52))), (a 53, .inl (cI, 60, .inl (P 53))), (a 54, .inl (cI, 60, .inl (P 54))), (a 55, .inl (cI, 60, .inl (P 55))), (a 56, .inl (cI, 60, .inl (P 56))), (a 57, .inl (cI, 60, .inl (P 57))), (a 58, .inl (cI, 60, .inl (P 58))), (a 59, .inl (cI, 12000, .inl (P 59))), (a 60, .inl (cI, 90, .inl (P 60))), (a 61, .inl (cI, 90, .inl (P 61))), (a 62, .inl (cI, 90, .inl (P 62))), (a 63, .inl (cI, 90, .inl (P 63))), (a 64, .inl (cI, 90, .inl (P 64))), (a 65, .inl (cI, 90, .inl (P 65)))]) [1, 4, 5, 6, 7, 14, 15, 16, 17, 18, 19, 20, 21, 22, 23, 24, 25, 26, 27, 28, 29, 30, 31, 32, 33, 34, 35, 36, 37, 38, 39] (by decide) rfl
  refine vp_callSi (W.runV (As := [.int (nI xi), .int (nI xs)]) (rest := []) ⟨hx, hb, hml, hown, hts⟩ (c_spareAt l D cI cZ cJ lo s.heap.size a P xi xs hw (by omega) (by omega)) (cwV 2 hts gX8_spares_X6_spareAt rfl rfl rfl (by decide +kernel) ⟨(Nat.le_of_ble_eq_true rfl), (Nat.le_of_ble_eq_true rfl)⟩) ⟨Pre.blind, va_recv hK hP (ci := 6) (q0 := 1) rfl rfl, Pre.mk hPc (hDc.weaken (fun _ _ _ h => hAlo _ h)) hC hS hAlo⟩ rfl rfl hl.1 rfl (lv_room (Nat.le_of_ble_eq_true rfl)) dX8_spares_16 ⟨(Nat.le_of_ble_eq_true rfl), (Nat.le_of_ble_eq_true rfl)⟩) (fun r_3 e_4 => ?_)
  clear hPc hDc
  have e_4 : sg_spareAt P xi xs = r_3 := Eq.symm e_4
  subst e_4
  exact W.iret (v := (sg_spareAt P xi xs)) hx hb hr (fun t ht hW => ⟨(sg_spareAt P xi xs), rfl, rfl, ht⟩) hL dX8_spares_19

set_option maxHeartbeats 4000000 in
set_option maxRecDepth 100000 in
/-- X8_route -/
theorem c_g_route (l : Launch) (D : va_G) (cI cZ cJ : ClassId) (lo sz : Nat) (g : Nat) (pa : Nat → Nat) (b : Nat → Nat) (a : Nat → Nat) (P : sg_Pic) (q : Nat → Int32) (xs : Nat) (xt : Nat) (hw : sg_W P) (hs : xs < sg_cn P 2) (ht : xt < sg_cn P 2) : Met l yX8_route wsX8_route ({ frames := 2, cells := 0, slots := 0, locals := 43 }) (Pre lo D cI cZ cJ [.ref g, .int (nI xs), .int (nI xt)] sz ([(g, .inr (8, [.ref (a 0), .ref (b 0), .ref (pa 0)]))] ++ sg_St cI cZ a P q)) (vp_Si (fun r => r = sg_daysBetween P (nI xs) (nI xt))) 0 0 (fun _ => False) := by
  refine Met.ofW (cc := cX8_route) (maxL := 3) (ret := (some .int)) (by decide) rfl ?_
  intro p e s m args below meth c s₁ B hml hv
  obtain ⟨rfl, hsz, hP, hD0, hC⟩ := hv
  have hx := B.exec
  have hb := B.bytes
  have hr := B.returns
  have hts := atoms_spec (ws := wsX8_route) B.pre
  have hown : s.vm.findClass RX8 = some m.cls := findClass_of_methodNamed B.named
  have hlocks := B.notSynchronized
  subst hsz
  have hn1 : sg_cn P 1 ≤ 6 := hw.n1
  have hn2 : sg_cn P 2 ≤ 5 := hw.n2
  have hn3 : sg_cn P 3 ≤ 200 := hw.n3
  have hn4 : sg_cn P 4 ≤ 60 := hw.n4
  have hn5 : sg_cn P 5 ≤ 90 := hw.n5
  have hK := hC.K
  have hD := hD0
  have hS : va_S (fun q => lo ≤ q) s.heap s.heap [] := va_S.rf
  have hAlo : ∀ q, (fun q => lo ≤ q) q → lo ≤ q := fun _ h => h
  have hL : ∀ q ∈ ([] : List Loc), (fun _ : Addr => False) q.base := fun q h => by cases h
  have hP : va_P D vwCl ([(g, .inr (8, [.ref (a 0), .ref (b 0), .ref (pa 0)]))] ++ sg_St cI cZ a P q) s.heap := hP
  have hl := lv_entry ([.ref g, .int (nI xs), .int (nI xt)]) (n := 3) (Nat.le_of_ble_eq_true rfl)
  rw [lg_entry_eq]
  generalize (lg_sl ([.ref g, .int (nI xs), .int (nI xt)]) ++ List.replicate (3 - (lg_sl ([.ref g, .int (nI xs), .int (nI xt)])).length) Slot.unset).toArray = ls at hl ⊢
  have hl : lv_has ls 3 [(0, .ref g), (1, .int (nI xs)), (2, .int (nI xt))] := hl
  have in6 : ∀ w ∈ u_ws RX6 TX6 9, w ∈ wsX8_route := by decide +kernel
  have in8 : ∀ w ∈ u_ws RX8 TX8 3, w ∈ wsX8_route := by decide +kernel
  refine lv_aload_n hx hb dX8_route_0 rfl (lv_at hl 0 rfl) ?_
  refine lv_iload_n hx hb dX8_route_1 rfl (lv_at hl 1 rfl) ?_
  have hPc := hP.sub (ws' := [(g, .inr (8, [.ref (a 0), .ref (b 0), .ref (pa 0)])), (a 0, .inr (6, [.int (P 0 0), .ref (a 1), .ref (a 2), .ref (a 3), .ref (a 4), .ref (a 5), .ref (a 6), .ref (a 70), .ref (a 71)])), (a 2, .inr (5, [.int (P 0 2), .ref (a 20), .ref (a 21)]))]) [0, 1, 3] rfl
  have hDc := hD.sub (ws' := [(g, .inr (8, [.ref (a 0), .ref (b 0), .ref (pa 0)])), (a 0, .inr (6, [.int (P 0 0), .ref (a 1), .ref (a 2), .ref (a 3), .ref (a 4), .ref (a 5), .ref (a 6), .ref (a 70), .ref (a 71)])), (a 2, .inr (5, [.int (P 0 2), .ref (a 20), .ref (a 21)]))]) [0, 1, 3] (by decide) rfl
  refine va_csv (W.runV (As := [.int (nI xs)]) (rest := []) ⟨hx, hb, hml, hown, hts⟩ (c_needSite l D cI cZ cJ lo s.heap.size g pa b a P xs hw (by omega)) (cwV 1 hts gX8_route_X8_needSite rfl rfl rfl (by decide +kernel) ⟨(Nat.le_of_ble_eq_true rfl), (Nat.le_of_ble_eq_true rfl)⟩) ⟨Pre.blind, va_recv hK hP (ci := 8) (q0 := 0) rfl rfl, Pre.mk hPc (hDc.weaken (fun _ _ _ h => hAlo _ h)) hC hS hAlo⟩ rfl rfl hl.1 rfl (lv_room (Nat.le_of_ble_eq_true rfl)) dX8_route_2 ⟨(Nat.le_of_ble_eq_true rfl), (Nat.le_of_ble_eq_true rfl)⟩) (fun e_1 => ?_)
  clear hPc hDc
  refine lv_aload_n hx hb dX8_route_5 rfl (lv_at hl 0 rfl) ?_
  refine lv_iload_n hx hb dX8_route_6 rfl (lv_at hl 2 rfl) ?_
  have hPc := hP.sub (ws' := [(g, .inr (8, [.ref (a 0), .ref (b 0), .ref (pa 0)])), (a 0, .inr (6, [.int (P 0 0), .ref (a 1), .ref (a 2), .ref (a 3), .ref (a 4), .ref (a 5), .ref (a 6), .ref (a 70), .ref (a 71)])), (a 2, .inr (5, [.int (P 0 2), .ref (a 20), .ref (a 21)]))]) [0, 1, 3] rfl
  have hDc := hD.sub (ws' := [(g, .inr (8, [.ref (a 0), .ref (b 0), .ref (pa 0)])), (a 0, .inr (6, [.int (P 0 0), .ref (a 1), .ref (a 2), .ref (a 3), .ref (a 4), .ref (a 5), .ref (a 6), .ref (a 70), .ref (a 71)])), (a 2, .inr (5, [.int (P 0 2), .ref (a 20), .ref (a 21)]))]) [0, 1, 3] (by decide) rfl
  refine va_csv (W.runV (As := [.int (nI xt)]) (rest := []) ⟨hx, hb, hml, hown, hts⟩ (c_needSite l D cI cZ cJ lo s.heap.size g pa b a P xt hw (by omega)) (cwV 1 hts gX8_route_X8_needSite rfl rfl rfl (by decide +kernel) ⟨(Nat.le_of_ble_eq_true rfl), (Nat.le_of_ble_eq_true rfl)⟩) ⟨Pre.blind, va_recv hK hP (ci := 8) (q0 := 0) rfl rfl, Pre.mk hPc (hDc.weaken (fun _ _ _ h => hAlo _ h)) hC hS hAlo⟩ rfl rfl hl.1 rfl (lv_room (Nat.le_of_ble_eq_true rfl)) dX8_route_7 ⟨(Nat.le_of_ble_eq_true rfl), (Nat.le_of_ble_eq_true rfl)⟩) (fun e_2 => ?_)
  clear hPc hDc
  refine lv_aload_n hx hb dX8_route_10 rfl (lv_at hl 0 rfl) ?_
  refine va_get (D := D) (ci := 8) (v := .ref (a 0)) (C := RX8) (T := TX8) (N := 3) hx hb hts in8 hown hK hP 0 rfl rfl 0 (by decide) (hts (.fieldLink RX8 10 "Granary" "now" "LGranary$Stock;") (by decide +kernel)) (fun _ h9 => h9) rfl dX8_route_11 ?_
  refine va_get (D := D) (ci := 6) (v := .ref (a 2)) (C := RX6) (T := TX6) (N := 9) hx hb hts in6 hown hK hP 1 rfl rfl 2 (by decide) (hts (.fieldLink RX8 48 "Granary$Stock" "sites" "LGranary$Sites;") (by decide +kernel)) (fun _ h9 => h9) rfl dX8_route_14 ?_
  refine lv_iload_n hx hb dX8_route_17 rfl (lv_at hl 1 rfl) ?_
  refine lv_iload_n hx hb dX8_route_18 rfl (lv_at hl 2 rfl) ?_
  have hPc := hP.sub (ws' := [(a 2, .inr (5, [.int (P 0 2), .ref (a 20), .ref (a 21)])), (a 21, .inl (cI, 25, .inl (P 21)))]) [3, 13] rfl
  have hDc := hD.sub (ws' := [(a 2, .inr (5, [.int (P 0 2), .ref (a 20), .ref (a 21)])), (a 21, .inl (cI, 25, .inl (P 21)))]) [3, 13] (by decide) rfl
  refine vp_callSi (W.runV (As := [.int (nI xs), .int (nI xt)]) (rest := []) ⟨hx, hb, hml, hown, hts⟩ (c_daysBetween l D cI cZ cJ lo s.heap.size a P (nI xs) (nI xt) hw) (cwV 2 hts gX8_route_X5_daysBetween rfl rfl rfl (by decide +kernel) ⟨(Nat.le_of_ble_eq_true rfl), (Nat.le_of_ble_eq_true rfl)⟩) ⟨Pre.blind, va_recv hK hP (ci := 5) (q0 := 3) rfl rfl, Pre.mk hPc (hDc.weaken (fun _ _ _ h => hAlo _ h)) hC hS hAlo⟩ rfl rfl hl.1 rfl (lv_room (Nat.le_of_ble_eq_true rfl)) dX8_route_19 ⟨(Nat.le_of_ble_eq_true rfl), (Nat.le_of_ble_eq_true rfl)⟩) (fun r_3 e_4 => ?_)
  clear hPc hDc
  have e_4 : sg_daysBetween P (nI xs) (nI xt) = r_3 := Eq.symm e_4
  subst e_4
  exact W.iret (v := (sg_daysBetween P (nI xs) (nI xt))) hx hb hr (fun t ht hW => ⟨(sg_daysBetween P (nI xs) (nI xt)), rfl, rfl, ht⟩) hL dX8_route_22

set_option maxHeartbeats 4000000 in
set_option maxRecDepth 100000 in
/-- X8_roomLeft -/
theorem c_g_roomLeft (l : Launch) (D : va_G) (cI cZ cJ : ClassId) (lo sz : Nat) (g : Nat) (pa : Nat → Nat) (b : Nat → Nat) (a : Nat → Nat) (P : sg_Pic) (q : Nat → Int32) (xs : Nat) (hw : sg_W P) (hs : xs < sg_cn P 2) : Met l yX8_roomLeft wsX8_roomLeft ({ frames := 2, cells := 0, slots := 0, locals := 44 }) (Pre lo D cI cZ cJ [.ref g, .int (nI xs)] sz ([(g, .inr (8, [.ref (a 0), .ref (b 0), .ref (pa 0)]))] ++ sg_St cI cZ a P q)) (vp_Si (fun r => r = sg_roomAt P (nI xs))) 0 0 (fun _ => False) := by
  refine Met.ofW (cc := cX8_roomLeft) (maxL := 2) (ret := (some .int)) (by decide) rfl ?_
  intro p e s m args below meth c s₁ B hml hv
  obtain ⟨rfl, hsz, hP, hD0, hC⟩ := hv
  have hx := B.exec
  have hb := B.bytes
  have hr := B.returns
  have hts := atoms_spec (ws := wsX8_roomLeft) B.pre
  have hown : s.vm.findClass RX8 = some m.cls := findClass_of_methodNamed B.named
  have hlocks := B.notSynchronized
  subst hsz
  have hn1 : sg_cn P 1 ≤ 6 := hw.n1
  have hn2 : sg_cn P 2 ≤ 5 := hw.n2
  have hn3 : sg_cn P 3 ≤ 200 := hw.n3
  have hn4 : sg_cn P 4 ≤ 60 := hw.n4
  have hn5 : sg_cn P 5 ≤ 90 := hw.n5
  have hK := hC.K
  have hD := hD0
  have hS : va_S (fun q => lo ≤ q) s.heap s.heap [] := va_S.rf
  have hAlo : ∀ q, (fun q => lo ≤ q) q → lo ≤ q := fun _ h => h
  have hL : ∀ q ∈ ([] : List Loc), (fun _ : Addr => False) q.base := fun q h => by cases h
  have hP : va_P D vwCl ([(g, .inr (8, [.ref (a 0), .ref (b 0), .ref (pa 0)]))] ++ sg_St cI cZ a P q) s.heap := hP
  have hl := lv_entry ([.ref g, .int (nI xs)]) (n := 2) (Nat.le_of_ble_eq_true rfl)
  rw [lg_entry_eq]
  generalize (lg_sl ([.ref g, .int (nI xs)]) ++ List.replicate (2 - (lg_sl ([.ref g, .int (nI xs)])).length) Slot.unset).toArray = ls at hl ⊢
  have hl : lv_has ls 2 [(0, .ref g), (1, .int (nI xs))] := hl
  have in8 : ∀ w ∈ u_ws RX8 TX8 3, w ∈ wsX8_roomLeft := by decide +kernel
  refine lv_aload_n hx hb dX8_roomLeft_0 rfl (lv_at hl 0 rfl) ?_
  refine lv_iload_n hx hb dX8_roomLeft_1 rfl (lv_at hl 1 rfl) ?_
  have hPc := hP.sub (ws' := [(g, .inr (8, [.ref (a 0), .ref (b 0), .ref (pa 0)])), (a 0, .inr (6, [.int (P 0 0), .ref (a 1), .ref (a 2), .ref (a 3), .ref (a 4), .ref (a 5), .ref (a 6), .ref (a 70), .ref (a 71)])), (a 2, .inr (5, [.int (P 0 2), .ref (a 20), .ref (a 21)]))]) [0, 1, 3] rfl
  have hDc := hD.sub (ws' := [(g, .inr (8, [.ref (a 0), .ref (b 0), .ref (pa 0)])), (a 0, .inr (6, [.int (P 0 0), .ref (a 1), .ref (a 2), .ref (a 3), .ref (a 4), .ref (a 5), .ref (a 6), .ref (a 70), .ref (a 71)])), (a 2, .inr (5, [.int (P 0 2), .ref (a 20), .ref (a 21)]))]) [0, 1, 3] (by decide) rfl
  refine va_csv (W.runV (As := [.int (nI xs)]) (rest := []) ⟨hx, hb, hml, hown, hts⟩ (c_needSite l D cI cZ cJ lo s.heap.size g pa b a P xs hw (by omega)) (cwV 1 hts gX8_roomLeft_X8_needSite rfl rfl rfl (by decide +kernel) ⟨(Nat.le_of_ble_eq_true rfl), (Nat.le_of_ble_eq_true rfl)⟩) ⟨Pre.blind, va_recv hK hP (ci := 8) (q0 := 0) rfl rfl, Pre.mk hPc (hDc.weaken (fun _ _ _ h => hAlo _ h)) hC hS hAlo⟩ rfl rfl hl.1 rfl (lv_room (Nat.le_of_ble_eq_true rfl)) dX8_roomLeft_2 ⟨(Nat.le_of_ble_eq_true rfl), (Nat.le_of_ble_eq_true rfl)⟩) (fun e_1 => ?_)
  clear hPc hDc
  refine lv_aload_n hx hb dX8_roomLeft_5 rfl (lv_at hl 0 rfl) ?_
  refine va_get (D := D) (ci := 8) (v := .ref (a 0)) (C := RX8) (T := TX8) (N := 3) hx hb hts in8 hown hK hP 0 rfl rfl 0 (by decide) (hts (.fieldLink RX8 10 "Granary" "now" "LGranary$Stock;") (by decide +kernel)) (fun _ h9 => h9) rfl dX8_roomLeft_6 ?_
  refine lv_iload_n hx hb dX8_roomLeft_9 rfl (lv_at hl 1 rfl) ?_
  have hPc := hP.sub (ws' := [(a 0, .inr (6, [.int (P 0 0), .ref (a 1), .ref (a 2), .ref (a 3), .ref (a 4), .ref (a 5), .ref (a 6), .ref (a 70), .ref (a 71)])), (a 2, .inr (5, [.int (P 0 2), .ref (a 20), .ref (a 21)])), (a 4, .inr (1, [.int (P 0 3), .ref (a 40), .ref (a 41), .ref (a 42), .ref (a 43), .ref (a 44)])), (a 20, .inl (cI, 5, .inl (P 20))), (a 21, .inl (cI, 25, .inl (P 21))), (a 40, .inl (cI, 200, .inl (P 40))), (a 41, .inl (cI, 200, .inl (P 41))), (a 42, .inl (cI, 200, .inl (P 42))), (a 43, .inl (cI, 200, .inl (P 43))), (a 44, .inl (cI, 200, .inl (P 44)))]) [1, 3, 5, 12, 13, 19, 20, 21, 22, 23] rfl
  have hDc := hD.sub (ws' := [(a 0, .inr (6, [.int (P 0 0), .ref (a 1), .ref (a 2), .ref (a 3), .ref (a 4), .ref (a 5), .ref (a 6), .ref (a 70), .ref (a 71)])), (a 2, .inr (5, [.int (P 0 2), .ref (a 20), .ref (a 21)])), (a 4, .inr (1, [.int (P 0 3), .ref (a 40), .ref (a 41), .ref (a 42), .ref (a 43), .ref (a 44)])), (a 20, .inl (cI, 5, .inl (P 20))), (a 21, .inl (cI, 25, .inl (P 21))), (a 40, .inl (cI, 200, .inl (P 40))), (a 41, .inl (cI, 200, .inl (P 41))), (a 42, .inl (cI, 200, .inl (P 42))), (a 43, .inl (cI, 200, .inl (P 43))), (a 44, .inl (cI, 200, .inl (P 44)))]) [1, 3, 5, 12, 13, 19, 20, 21, 22, 23] (by decide) rfl
  refine vp_callSi (W.runV (As := [.int (nI xs)]) (rest := []) ⟨hx, hb, hml, hown, hts⟩ (c_roomAt l D cI cZ cJ lo s.heap.size a P (nI xs) hw) (cwV 1 hts gX8_roomLeft_X6_roomAt rfl rfl rfl (by decide +kernel) ⟨(Nat.le_of_ble_eq_true rfl), (Nat.le_of_ble_eq_true rfl)⟩) ⟨Pre.blind, va_recv hK hP (ci := 6) (q0 := 1) rfl rfl, Pre.mk hPc (hDc.weaken (fun _ _ _ h => hAlo _ h)) hC hS hAlo⟩ rfl rfl hl.1 rfl (lv_room (Nat.le_of_ble_eq_true rfl)) dX8_roomLeft_10 ⟨(Nat.le_of_ble_eq_true rfl), (Nat.le_of_ble_eq_true rfl)⟩) (fun r_2 e_3 => ?_)
  clear hPc hDc
  have e_3 : sg_roomAt P (nI xs) = r_2 := Eq.symm e_3
  subst e_3
  exact W.iret (v := (sg_roomAt P (nI xs))) hx hb hr (fun t ht hW => ⟨(sg_roomAt P (nI xs)), rfl, rfl, ht⟩) hL dX8_roomLeft_13

theorem sg_leN {j M : Nat} (h : j ≤ M) (hM : M < 2 ^ 31 := by decide) : nI j ≤ nI M := nI_le h hM

set_option maxHeartbeats 4000000 in
set_option maxRecDepth 100000 in
/-- X8_account -/
theorem c_g_account (l : Launch) (D : va_G) (cI cZ cJ : ClassId) (lo sz : Nat) (g : Nat) (pa : Nat → Nat) (b : Nat → Nat) (a : Nat → Nat) (P : sg_Pic) (q : Nat → Int32) (xw : Nat) (hw : sg_W P) (hx0 : xw < 5) : Met l yX8_account wsX8_account ({ frames := 2, cells := 0, slots := 0, locals := 42 }) (Pre lo D cI cZ cJ [.ref g, .int (nI xw)] sz ([(g, .inr (8, [.ref (a 0), .ref (b 0), .ref (pa 0)]))] ++ sg_St cI cZ a P q)) (vp_Si (fun r => r = P 70 xw)) 0 0 (fun _ => False) := by
  refine Met.ofW (cc := cX8_account) (maxL := 2) (ret := (some .int)) (by decide) rfl ?_
  intro p e s m args below meth c s₁ B hml hv
  obtain ⟨rfl, hsz, hP, hD0, hC⟩ := hv
  have hx := B.exec
  have hb := B.bytes
  have hr := B.returns
  have hts := atoms_spec (ws := wsX8_account) B.pre
  have hown : s.vm.findClass RX8 = some m.cls := findClass_of_methodNamed B.named
  have hlocks := B.notSynchronized
  subst hsz
  have hn1 : sg_cn P 1 ≤ 6 := hw.n1
  have hn2 : sg_cn P 2 ≤ 5 := hw.n2
  have hn3 : sg_cn P 3 ≤ 200 := hw.n3
  have hn4 : sg_cn P 4 ≤ 60 := hw.n4
  have hn5 : sg_cn P 5 ≤ 90 := hw.n5
  have hK := hC.K
  have hD := hD0
  have hS : va_S (fun q => lo ≤ q) s.heap s.heap [] := va_S.rf
  have hAlo : ∀ q, (fun q => lo ≤ q) q → lo ≤ q := fun _ h => h
  have hL : ∀ q ∈ ([] : List Loc), (fun _ : Addr => False) q.base := fun q h => by cases h
  have hP : va_P D vwCl ([(g, .inr (8, [.ref (a 0), .ref (b 0), .ref (pa 0)]))] ++ sg_St cI cZ a P q) s.heap := hP
  have hl := lv_entry ([.ref g, .int (nI xw)]) (n := 2) (Nat.le_of_ble_eq_true rfl)
  rw [lg_entry_eq]
  generalize (lg_sl ([.ref g, .int (nI xw)]) ++ List.replicate (2 - (lg_sl ([.ref g, .int (nI xw)])).length) Slot.unset).toArray = ls at hl ⊢
  have hl : lv_has ls 2 [(0, .ref g), (1, .int (nI xw))] := hl
  have in6 : ∀ w ∈ u_ws RX6 TX6 9, w ∈ wsX8_account := by decide +kernel
  have in8 : ∀ w ∈ u_ws RX8 TX8 3, w ∈ wsX8_account := by decide +kernel
  refine lv_iload_n hx hb dX8_account_0 rfl (lv_at hl 1 rfl) ?_
  refine lv_iconst (v := 0) hx hb dX8_account_1 (by decide) ?_
  refine lv_iconst (v := 4) hx hb dX8_account_2 (by decide) ?_
  have hPc := hP.sub (ws' := []) [] rfl
  have hDc := hD.sub (ws' := []) [] (by decide) rfl
  refine va_csv (W.runS (As := [.int (nI xw), .int 0, .int 4]) (rest := []) ⟨hx, hb, hml, hown, hts⟩ (c_needWithin l D cI cZ cJ lo s.heap.size (nI xw) 0 4 (nI_pos' (by omega)) (sg_leN (M := 4) (by omega))) (va_cwS 3 hts gX8_account_X8_needWithin rfl rfl rfl (by decide +kernel) ⟨(Nat.le_of_ble_eq_true rfl), (Nat.le_of_ble_eq_true rfl)⟩) ⟨Pre.blind, Pre.mk hPc (hDc.weaken (fun _ _ _ h => hAlo _ h)) hC hS hAlo⟩ rfl rfl hl.1 rfl (lv_room (Nat.le_of_ble_eq_true rfl)) dX8_account_3 ⟨(Nat.le_of_ble_eq_true rfl), (Nat.le_of_ble_eq_true rfl)⟩) (fun e_1 => ?_)
  clear hPc hDc
  refine lv_aload_n hx hb dX8_account_6 rfl (lv_at hl 0 rfl) ?_
  refine va_get (D := D) (ci := 8) (v := .ref (a 0)) (C := RX8) (T := TX8) (N := 3) hx hb hts in8 hown hK hP 0 rfl rfl 0 (by decide) (hts (.fieldLink RX8 10 "Granary" "now" "LGranary$Stock;") (by decide +kernel)) (fun _ h9 => h9) rfl dX8_account_7 ?_
  refine va_get (D := D) (ci := 6) (v := .ref (a 70)) (C := RX6) (T := TX6) (N := 9) hx hb hts in6 hown hK hP 1 rfl rfl 7 (by decide) (hts (.fieldLink RX8 119 "Granary$Stock" "account" "[I") (by decide +kernel)) (fun _ h9 => h9) rfl dX8_account_10 ?_
  refine lv_iload_n hx hb dX8_account_13 rfl (lv_at hl 1 rfl) ?_
  refine sg_iald hx hb hK hP 40 0 rfl rfl (j := xw) rfl (by omega) (Nat.le_of_ble_eq_true rfl) dX8_account_14 ?_
  refine lv_toi (y := P 70 xw) rfl ?_
  exact W.iret (v := (P 70 xw)) hx hb hr (fun t ht hW => ⟨(P 70 xw), rfl, rfl, ht⟩) hL dX8_account_15

set_option maxHeartbeats 4000000 in
set_option maxRecDepth 100000 in
/-- X8_ofLot -/
theorem c_g_ofLot (l : Launch) (D : va_G) (cI cZ cJ : ClassId) (lo sz : Nat) (g : Nat) (pa : Nat → Nat) (b : Nat → Nat) (a : Nat → Nat) (P : sg_Pic) (q : Nat → Int32) (xl : Nat) (xw : Nat) (hw : sg_W P) (hl0 : xl < sg_cn P 3) (hx0 : xw < 5) : Met l yX8_ofLot wsX8_ofLot ({ frames := 2, cells := 0, slots := 0, locals := 42 }) (Pre lo D cI cZ cJ [.ref g, .int (nI xl), .int (nI xw)] sz ([(g, .inr (8, [.ref (a 0), .ref (b 0), .ref (pa 0)]))] ++ sg_St cI cZ a P q)) (vp_Si (fun r => r = sg_ltell P xl xw)) 0 0 (fun _ => False) := by
  refine Met.ofW (cc := cX8_ofLot) (maxL := 3) (ret := (some .int)) (by decide) rfl ?_
  intro p e s m args below meth c s₁ B hml hv
  obtain ⟨rfl, hsz, hP, hD0, hC⟩ := hv
  have hx := B.exec
  have hb := B.bytes
  have hr := B.returns
  have hts := atoms_spec (ws := wsX8_ofLot) B.pre
  have hown : s.vm.findClass RX8 = some m.cls := findClass_of_methodNamed B.named
  have hlocks := B.notSynchronized
  subst hsz
  have hn1 : sg_cn P 1 ≤ 6 := hw.n1
  have hn2 : sg_cn P 2 ≤ 5 := hw.n2
  have hn3 : sg_cn P 3 ≤ 200 := hw.n3
  have hn4 : sg_cn P 4 ≤ 60 := hw.n4
  have hn5 : sg_cn P 5 ≤ 90 := hw.n5
  have hK := hC.K
  have hD := hD0
  have hS : va_S (fun q => lo ≤ q) s.heap s.heap [] := va_S.rf
  have hAlo : ∀ q, (fun q => lo ≤ q) q → lo ≤ q := fun _ h => h
  have hL : ∀ q ∈ ([] : List Loc), (fun _ : Addr => False) q.base := fun q h => by cases h
  have hP : va_P D vwCl ([(g, .inr (8, [.ref (a 0), .ref (b 0), .ref (pa 0)]))] ++ sg_St cI cZ a P q) s.heap := hP
  have hl := lv_entry ([.ref g, .int (nI xl), .int (nI xw)]) (n := 3) (Nat.le_of_ble_eq_true rfl)
  rw [lg_entry_eq]
  generalize (lg_sl ([.ref g, .int (nI xl), .int (nI xw)]) ++ List.replicate (3 - (lg_sl ([.ref g, .int (nI xl), .int (nI xw)])).length) Slot.unset).toArray = ls at hl ⊢
  have hl : lv_has ls 3 [(0, .ref g), (1, .int (nI xl)), (2, .int (nI xw))] := hl
  have in6 : ∀ w ∈ u_ws RX6 TX6 9, w ∈ wsX8_ofLot := by decide +kernel
  have in8 : ∀ w ∈ u_ws RX8 TX8 3, w ∈ wsX8_ofLot := by decide +kernel
  refine lv_aload_n hx hb dX8_ofLot_0 rfl (lv_at hl 0 rfl) ?_
  refine lv_iload_n hx hb dX8_ofLot_1 rfl (lv_at hl 1 rfl) ?_
  have hPc := hP.sub (ws' := [(g, .inr (8, [.ref (a 0), .ref (b 0), .ref (pa 0)])), (a 0, .inr (6, [.int (P 0 0), .ref (a 1), .ref (a 2), .ref (a 3), .ref (a 4), .ref (a 5), .ref (a 6), .ref (a 70), .ref (a 71)])), (a 4, .inr (1, [.int (P 0 3), .ref (a 40), .ref (a 41), .ref (a 42), .ref (a 43), .ref (a 44)]))]) [0, 1, 5] rfl
  have hDc := hD.sub (ws' := [(g, .inr (8, [.ref (a 0), .ref (b 0), .ref (pa 0)])), (a 0, .inr (6, [.int (P 0 0), .ref (a 1), .ref (a 2), .ref (a 3), .ref (a 4), .ref (a 5), .ref (a 6), .ref (a 70), .ref (a 71)])), (a 4, .inr (1, [.int (P 0 3), .ref (a 40), .ref (a 41), .ref (a 42), .ref (a 43), .ref (a 44)]))]) [0, 1, 5] (by decide) rfl
  refine va_csv (W.runV (As := [.int (nI xl)]) (rest := []) ⟨hx, hb, hml, hown, hts⟩ (c_needLot l D cI cZ cJ lo s.heap.size g pa b a P xl hw (by omega)) (cwV 1 hts gX8_ofLot_X8_needLot rfl rfl rfl (by decide +kernel) ⟨(Nat.le_of_ble_eq_true rfl), (Nat.le_of_ble_eq_true rfl)⟩) ⟨Pre.blind, va_recv hK hP (ci := 8) (q0 := 0) rfl rfl, Pre.mk hPc (hDc.weaken (fun _ _ _ h => hAlo _ h)) hC hS hAlo⟩ rfl rfl hl.1 rfl (lv_room (Nat.le_of_ble_eq_true rfl)) dX8_ofLot_2 ⟨(Nat.le_of_ble_eq_true rfl), (Nat.le_of_ble_eq_true rfl)⟩) (fun e_1 => ?_)
  clear hPc hDc
  refine lv_iload_n hx hb dX8_ofLot_5 rfl (lv_at hl 2 rfl) ?_
  refine lv_iconst (v := 0) hx hb dX8_ofLot_6 (by decide) ?_
  refine lv_iconst (v := 4) hx hb dX8_ofLot_7 (by decide) ?_
  have hPc := hP.sub (ws' := []) [] rfl
  have hDc := hD.sub (ws' := []) [] (by decide) rfl
  refine va_csv (W.runS (As := [.int (nI xw), .int 0, .int 4]) (rest := []) ⟨hx, hb, hml, hown, hts⟩ (c_needWithin l D cI cZ cJ lo s.heap.size (nI xw) 0 4 (nI_pos' (by omega)) (sg_leN (M := 4) (by omega))) (va_cwS 3 hts gX8_ofLot_X8_needWithin rfl rfl rfl (by decide +kernel) ⟨(Nat.le_of_ble_eq_true rfl), (Nat.le_of_ble_eq_true rfl)⟩) ⟨Pre.blind, Pre.mk hPc (hDc.weaken (fun _ _ _ h => hAlo _ h)) hC hS hAlo⟩ rfl rfl hl.1 rfl (lv_room (Nat.le_of_ble_eq_true rfl)) dX8_ofLot_8 ⟨(Nat.le_of_ble_eq_true rfl), (Nat.le_of_ble_eq_true rfl)⟩) (fun e_2 => ?_)
  clear hPc hDc
  refine lv_aload_n hx hb dX8_ofLot_11 rfl (lv_at hl 0 rfl) ?_
  refine va_get (D := D) (ci := 8) (v := .ref (a 0)) (C := RX8) (T := TX8) (N := 3) hx hb hts in8 hown hK hP 0 rfl rfl 0 (by decide) (hts (.fieldLink RX8 10 "Granary" "now" "LGranary$Stock;") (by decide +kernel)) (fun _ h9 => h9) rfl dX8_ofLot_12 ?_
  refine va_get (D := D) (ci := 6) (v := .ref (a 4)) (C := RX6) (T := TX6) (N := 9) hx hb hts in6 hown hK hP 1 rfl rfl 4 (by decide) (hts (.fieldLink RX8 109 "Granary$Stock" "lots" "LGranary$Lots;") (by decide +kernel)) (fun _ h9 => h9) rfl dX8_ofLot_15 ?_
  refine lv_iload_n hx hb dX8_ofLot_18 rfl (lv_at hl 1 rfl) ?_
  refine lv_iload_n hx hb dX8_ofLot_19 rfl (lv_at hl 2 rfl) ?_
  have hPc := hP.sub (ws' := [(a 4, .inr (1, [.int (P 0 3), .ref (a 40), .ref (a 41), .ref (a 42), .ref (a 43), .ref (a 44)])), (a 40, .inl (cI, 200, .inl (P 40))), (a 41, .inl (cI, 200, .inl (P 41))), (a 42, .inl (cI, 200, .inl (P 42))), (a 43, .inl (cI, 200, .inl (P 43))), (a 44, .inl (cI, 200, .inl (P 44)))]) [5, 19, 20, 21, 22, 23] rfl
  have hDc := hD.sub (ws' := [(a 4, .inr (1, [.int (P 0 3), .ref (a 40), .ref (a 41), .ref (a 42), .ref (a 43), .ref (a 44)])), (a 40, .inl (cI, 200, .inl (P 40))), (a 41, .inl (cI, 200, .inl (P 41))), (a 42, .inl (cI, 200, .inl (P 42))), (a 43, .inl (cI, 200, .inl (P 43))), (a 44, .inl (cI, 200, .inl (P 44)))]) [5, 19, 20, 21, 22, 23] (by decide) rfl
  refine vp_callSi (W.runV (As := [.int (nI xl), .int (nI xw)]) (rest := []) ⟨hx, hb, hml, hown, hts⟩ (c_ltell l D cI cZ cJ lo s.heap.size a P xl xw (by omega) (by omega)) (cwV 2 hts gX8_ofLot_X1_tell rfl rfl rfl (by decide +kernel) ⟨(Nat.le_of_ble_eq_true rfl), (Nat.le_of_ble_eq_true rfl)⟩) ⟨Pre.blind, va_recv hK hP (ci := 1) (q0 := 5) rfl rfl, Pre.mk hPc (hDc.weaken (fun _ _ _ h => hAlo _ h)) hC hS hAlo⟩ rfl rfl hl.1 rfl (lv_room (Nat.le_of_ble_eq_true rfl)) dX8_ofLot_20 ⟨(Nat.le_of_ble_eq_true rfl), (Nat.le_of_ble_eq_true rfl)⟩) (fun r_3 e_4 => ?_)
  clear hPc hDc
  have e_4 : sg_ltell P xl xw = r_3 := Eq.symm e_4
  subst e_4
  exact W.iret (v := (sg_ltell P xl xw)) hx hb hr (fun t ht hW => ⟨(sg_ltell P xl xw), rfl, rfl, ht⟩) hL dX8_ofLot_23

set_option maxHeartbeats 4000000 in
set_option maxRecDepth 100000 in
/-- X8_ofOrder -/
theorem c_g_ofOrder (l : Launch) (D : va_G) (cI cZ cJ : ClassId) (lo sz : Nat) (g : Nat) (pa : Nat → Nat) (b : Nat → Nat) (a : Nat → Nat) (P : sg_Pic) (q : Nat → Int32) (xl : Nat) (xw : Nat) (hw : sg_W P) (hl0 : xl < sg_cn P 4) (hx0 : xw < 5) : Met l yX8_ofOrder wsX8_ofOrder ({ frames := 2, cells := 0, slots := 0, locals := 42 }) (Pre lo D cI cZ cJ [.ref g, .int (nI xl), .int (nI xw)] sz ([(g, .inr (8, [.ref (a 0), .ref (b 0), .ref (pa 0)]))] ++ sg_St cI cZ a P q)) (vp_Si (fun r => r = sg_otell P xl xw)) 0 0 (fun _ => False) := by
  refine Met.ofW (cc := cX8_ofOrder) (maxL := 3) (ret := (some .int)) (by decide) rfl ?_
  intro p e s m args below meth c s₁ B hml hv
  obtain ⟨rfl, hsz, hP, hD0, hC⟩ := hv
  have hx := B.exec
  have hb := B.bytes
  have hr := B.returns
  have hts := atoms_spec (ws := wsX8_ofOrder) B.pre
  have hown : s.vm.findClass RX8 = some m.cls := findClass_of_methodNamed B.named
  have hlocks := B.notSynchronized
  subst hsz
  have hn1 : sg_cn P 1 ≤ 6 := hw.n1
  have hn2 : sg_cn P 2 ≤ 5 := hw.n2
  have hn3 : sg_cn P 3 ≤ 200 := hw.n3
  have hn4 : sg_cn P 4 ≤ 60 := hw.n4
  have hn5 : sg_cn P 5 ≤ 90 := hw.n5
  have hK := hC.K
  have hD := hD0
  have hS : va_S (fun q => lo ≤ q) s.heap s.heap [] := va_S.rf
  have hAlo : ∀ q, (fun q => lo ≤ q) q → lo ≤ q := fun _ h => h
  have hL : ∀ q ∈ ([] : List Loc), (fun _ : Addr => False) q.base := fun q h => by cases h
  have hP : va_P D vwCl ([(g, .inr (8, [.ref (a 0), .ref (b 0), .ref (pa 0)]))] ++ sg_St cI cZ a P q) s.heap := hP
  have hl := lv_entry ([.ref g, .int (nI xl), .int (nI xw)]) (n := 3) (Nat.le_of_ble_eq_true rfl)
  rw [lg_entry_eq]
  generalize (lg_sl ([.ref g, .int (nI xl), .int (nI xw)]) ++ List.replicate (3 - (lg_sl ([.ref g, .int (nI xl), .int (nI xw)])).length) Slot.unset).toArray = ls at hl ⊢
  have hl : lv_has ls 3 [(0, .ref g), (1, .int (nI xl)), (2, .int (nI xw))] := hl
  have in6 : ∀ w ∈ u_ws RX6 TX6 9, w ∈ wsX8_ofOrder := by decide +kernel
  have in8 : ∀ w ∈ u_ws RX8 TX8 3, w ∈ wsX8_ofOrder := by decide +kernel
  refine lv_aload_n hx hb dX8_ofOrder_0 rfl (lv_at hl 0 rfl) ?_
  refine lv_iload_n hx hb dX8_ofOrder_1 rfl (lv_at hl 1 rfl) ?_
  have hPc := hP.sub (ws' := [(g, .inr (8, [.ref (a 0), .ref (b 0), .ref (pa 0)])), (a 0, .inr (6, [.int (P 0 0), .ref (a 1), .ref (a 2), .ref (a 3), .ref (a 4), .ref (a 5), .ref (a 6), .ref (a 70), .ref (a 71)])), (a 5, .inr (2, [.int (P 0 4), .ref (a 50), .ref (a 51), .ref (a 52), .ref (a 53), .ref (a 54), .ref (a 55), .ref (a 56), .ref (a 57), .ref (a 58), .ref (a 59)]))]) [0, 1, 6] rfl
  have hDc := hD.sub (ws' := [(g, .inr (8, [.ref (a 0), .ref (b 0), .ref (pa 0)])), (a 0, .inr (6, [.int (P 0 0), .ref (a 1), .ref (a 2), .ref (a 3), .ref (a 4), .ref (a 5), .ref (a 6), .ref (a 70), .ref (a 71)])), (a 5, .inr (2, [.int (P 0 4), .ref (a 50), .ref (a 51), .ref (a 52), .ref (a 53), .ref (a 54), .ref (a 55), .ref (a 56), .ref (a 57), .ref (a 58), .ref (a 59)]))]) [0, 1, 6] (by decide) rfl
  refine va_csv (W.runV (As := [.int (nI xl)]) (rest := []) ⟨hx, hb, hml, hown, hts⟩ (c_needOrder l D cI cZ cJ lo s.heap.size g pa b a P xl hw (by omega)) (cwV 1 hts gX8_ofOrder_X8_needOrder rfl rfl rfl (by decide +kernel) ⟨(Nat.le_of_ble_eq_true rfl), (Nat.le_of_ble_eq_true rfl)⟩) ⟨Pre.blind, va_recv hK hP (ci := 8) (q0 := 0) rfl rfl, Pre.mk hPc (hDc.weaken (fun _ _ _ h => hAlo _ h)) hC hS hAlo⟩ rfl rfl hl.1 rfl (lv_room (Nat.le_of_ble_eq_true rfl)) dX8_ofOrder_2 ⟨(Nat.le_of_ble_eq_true rfl), (Nat.le_of_ble_eq_true rfl)⟩) (fun e_1 => ?_)
  clear hPc hDc
  refine lv_iload_n hx hb dX8_ofOrder_5 rfl (lv_at hl 2 rfl) ?_
  refine lv_iconst (v := 0) hx hb dX8_ofOrder_6 (by decide) ?_
  refine lv_iconst (v := 4) hx hb dX8_ofOrder_7 (by decide) ?_
  have hPc := hP.sub (ws' := []) [] rfl
  have hDc := hD.sub (ws' := []) [] (by decide) rfl
  refine va_csv (W.runS (As := [.int (nI xw), .int 0, .int 4]) (rest := []) ⟨hx, hb, hml, hown, hts⟩ (c_needWithin l D cI cZ cJ lo s.heap.size (nI xw) 0 4 (nI_pos' (by omega)) (sg_leN (M := 4) (by omega))) (va_cwS 3 hts gX8_ofOrder_X8_needWithin rfl rfl rfl (by decide +kernel) ⟨(Nat.le_of_ble_eq_true rfl), (Nat.le_of_ble_eq_true rfl)⟩) ⟨Pre.blind, Pre.mk hPc (hDc.weaken (fun _ _ _ h => hAlo _ h)) hC hS hAlo⟩ rfl rfl hl.1 rfl (lv_room (Nat.le_of_ble_eq_true rfl)) dX8_ofOrder_8 ⟨(Nat.le_of_ble_eq_true rfl), (Nat.le_of_ble_eq_true rfl)⟩) (fun e_2 => ?_)
  clear hPc hDc
  refine lv_aload_n hx hb dX8_ofOrder_11 rfl (lv_at hl 0 rfl) ?_
  refine va_get (D := D) (ci := 8) (v := .ref (a 0)) (C := RX8) (T := TX8) (N := 3) hx hb hts in8 hown hK hP 0 rfl rfl 0 (by decide) (hts (.fieldLink RX8 10 "Granary" "now" "LGranary$Stock;") (by decide +kernel)) (fun _ h9 => h9) rfl dX8_ofOrder_12 ?_
  refine va_get (D := D) (ci := 6) (v := .ref (a 5)) (C := RX6) (T := TX6) (N := 9) hx hb hts in6 hown hK hP 1 rfl rfl 5 (by decide) (hts (.fieldLink RX8 131 "Granary$Stock" "orders" "LGranary$Orders;") (by decide +kernel)) (fun _ h9 => h9) rfl dX8_ofOrder_15 ?_
  refine lv_iload_n hx hb dX8_ofOrder_18 rfl (lv_at hl 1 rfl) ?_
  refine lv_iload_n hx hb dX8_ofOrder_19 rfl (lv_at hl 2 rfl) ?_
  have hPc := hP.sub (ws' := [(a 5, .inr (2, [.int (P 0 4), .ref (a 50), .ref (a 51), .ref (a 52), .ref (a 53), .ref (a 54), .ref (a 55), .ref (a 56), .ref (a 57), .ref (a 58), .ref (a 59)])), (a 50, .inl (cI, 60, .inl (P 50))), (a 51, .inl (cI, 60, .inl (P 51))), (a 52, .inl (cI, 60, .inl (P 52))), (a 53, .inl (cI, 60, .inl (P 53))), (a 54, .inl (cI, 60, .inl (P 54))), (a 55, .inl (cI, 60, .inl (P 55))), (a 56, .inl (cI, 60, .inl (P 56))), (a 57, .inl (cI, 60, .inl (P 57))), (a 58, .inl (cI, 60, .inl (P 58))), (a 59, .inl (cI, 12000, .inl (P 59)))]) [6, 24, 25, 26, 27, 28, 29, 30, 31, 32, 33] rfl
  have hDc := hD.sub (ws' := [(a 5, .inr (2, [.int (P 0 4), .ref (a 50), .ref (a 51), .ref (a 52), .ref (a 53), .ref (a 54), .ref (a 55), .ref (a 56), .ref (a 57), .ref (a 58), .ref (a 59)])), (a 50, .inl (cI, 60, .inl (P 50))), (a 51, .inl (cI, 60, .inl (P 51))), (a 52, .inl (cI, 60, .inl (P 52))), (a 53, .inl (cI, 60, .inl (P 53))), (a 54, .inl (cI, 60, .inl (P 54))), (a 55, .inl (cI, 60, .inl (P 55))), (a 56, .inl (cI, 60, .inl (P 56))), (a 57, .inl (cI, 60, .inl (P 57))), (a 58, .inl (cI, 60, .inl (P 58))), (a 59, .inl (cI, 12000, .inl (P 59)))]) [6, 24, 25, 26, 27, 28, 29, 30, 31, 32, 33] (by decide) rfl
  refine vp_callSi (W.runV (As := [.int (nI xl), .int (nI xw)]) (rest := []) ⟨hx, hb, hml, hown, hts⟩ (c_otell l D cI cZ cJ lo s.heap.size a P xl xw (by omega) (by omega)) (cwV 2 hts gX8_ofOrder_X2_tell rfl rfl rfl (by decide +kernel) ⟨(Nat.le_of_ble_eq_true rfl), (Nat.le_of_ble_eq_true rfl)⟩) ⟨Pre.blind, va_recv hK hP (ci := 2) (q0 := 6) rfl rfl, Pre.mk hPc (hDc.weaken (fun _ _ _ h => hAlo _ h)) hC hS hAlo⟩ rfl rfl hl.1 rfl (lv_room (Nat.le_of_ble_eq_true rfl)) dX8_ofOrder_20 ⟨(Nat.le_of_ble_eq_true rfl), (Nat.le_of_ble_eq_true rfl)⟩) (fun r_3 e_4 => ?_)
  clear hPc hDc
  have e_4 : sg_otell P xl xw = r_3 := Eq.symm e_4
  subst e_4
  exact W.iret (v := (sg_otell P xl xw)) hx hb hr (fun t ht hW => ⟨(sg_otell P xl xw), rfl, rfl, ht⟩) hL dX8_ofOrder_23

theorem sg_ge3 {P : sg_Pic} (hw : sg_W P) (h : sg_cn P 3 < 200) : ¬ ((200 : Int32) ≤ P 0 3) := by
  rw [hw.e3]
  exact nI_ge h (by decide)
theorem sg_ge4 {P : sg_Pic} (hw : sg_W P) (h : sg_cn P 4 < 60) : ¬ ((60 : Int32) ≤ P 0 4) := by
  rw [hw.e4]
  exact nI_ge h (by decide)
theorem sg_ge1 {P : sg_Pic} (hw : sg_W P) (h : sg_cn P 1 < 6) : ¬ ((6 : Int32) ≤ P 0 1) := by
  rw [hw.e1]
  exact nI_ge h (by decide)
theorem sg_ge2 {P : sg_Pic} (hw : sg_W P) (h : sg_cn P 2 < 5) : ¬ ((5 : Int32) ≤ P 0 2) := by
  rw [hw.e2]
  exact nI_ge h (by decide)

set_option maxHeartbeats 4000000 in
set_option maxRecDepth 100000 in
/-- X8_needIndex -/
theorem c_needIndex (l : Launch) (D : va_G) (cI cZ cJ : ClassId) (lo sz : Nat) (x : Int32) (hq0 : ¬ (x = 0)) : Met l yX8_needIndex wsX8_needIndex ({ frames := 0, cells := 0, slots := 0, locals := 0 }) (Pre lo D cI cZ cJ [.int x] sz []) (va_Sv (fun _ => True)) 0 0 (fun _ => False) := by
  refine Met.ofW (cc := cX8_needIndex) (maxL := 1) (ret := none) (by decide) rfl ?_
  intro p e s m args below meth c s₁ B hml hv
  obtain ⟨rfl, hsz, hP, hD0, hC⟩ := hv
  have hx := B.exec
  have hb := B.bytes
  have hr := B.returns
  have hts := atoms_spec (ws := wsX8_needIndex) B.pre
  have hown : s.vm.findClass RX8 = some m.cls := findClass_of_methodNamed B.named
  have hlocks := B.notSynchronized
  subst hsz
  have hK := hC.K
  have hD := hD0
  have hS : va_S (fun q => lo ≤ q) s.heap s.heap [] := va_S.rf
  have hAlo : ∀ q, (fun q => lo ≤ q) q → lo ≤ q := fun _ h => h
  have hL : ∀ q ∈ ([] : List Loc), (fun _ : Addr => False) q.base := fun q h => by cases h
  have hP : va_P D vwCl [] s.heap := hP
  have hl := lv_entry ([.int x]) (n := 1) (Nat.le_of_ble_eq_true rfl)
  rw [lg_entry_eq]
  generalize (lg_sl ([.int x]) ++ List.replicate (1 - (lg_sl ([.int x])).length) Slot.unset).toArray = ls at hl ⊢
  have hl : lv_has ls 1 [(0, .int x)] := hl
  refine lv_iload_n hx hb dX8_needIndex_0 rfl (lv_at hl 0 rfl) ?_
  refine lv_if_ne (tgt := 15) hx hb dX8_needIndex_1 (by decide) (fun _ => ?_) (fun c9 => absurd c9 (show ¬ x = (0 : Int32) from hq0))
  exact W.vret hx hb hr (fun t ht hW => ⟨rfl, trivial, ht⟩) hL dX8_needIndex_15

set_option maxHeartbeats 4000000 in
set_option maxRecDepth 100000 in
/-- X8_needArgument -/
theorem c_needArgument (l : Launch) (D : va_G) (cI cZ cJ : ClassId) (lo sz : Nat) (x : Int32) (hq0 : ¬ (x = 0)) : Met l yX8_needArgument wsX8_needArgument ({ frames := 0, cells := 0, slots := 0, locals := 0 }) (Pre lo D cI cZ cJ [.int x] sz []) (va_Sv (fun _ => True)) 0 0 (fun _ => False) := by
  refine Met.ofW (cc := cX8_needArgument) (maxL := 1) (ret := none) (by decide) rfl ?_
  intro p e s m args below meth c s₁ B hml hv
  obtain ⟨rfl, hsz, hP, hD0, hC⟩ := hv
  have hx := B.exec
  have hb := B.bytes
  have hr := B.returns
  have hts := atoms_spec (ws := wsX8_needArgument) B.pre
  have hown : s.vm.findClass RX8 = some m.cls := findClass_of_methodNamed B.named
  have hlocks := B.notSynchronized
  subst hsz
  have hK := hC.K
  have hD := hD0
  have hS : va_S (fun q => lo ≤ q) s.heap s.heap [] := va_S.rf
  have hAlo : ∀ q, (fun q => lo ≤ q) q → lo ≤ q := fun _ h => h
  have hL : ∀ q ∈ ([] : List Loc), (fun _ : Addr => False) q.base := fun q h => by cases h
  have hP : va_P D vwCl [] s.heap := hP
  have hl := lv_entry ([.int x]) (n := 1) (Nat.le_of_ble_eq_true rfl)
  rw [lg_entry_eq]
  generalize (lg_sl ([.int x]) ++ List.replicate (1 - (lg_sl ([.int x])).length) Slot.unset).toArray = ls at hl ⊢
  have hl : lv_has ls 1 [(0, .int x)] := hl
  refine lv_iload_n hx hb dX8_needArgument_0 rfl (lv_at hl 0 rfl) ?_
  refine lv_if_ne (tgt := 15) hx hb dX8_needArgument_1 (by decide) (fun _ => ?_) (fun c9 => absurd c9 (show ¬ x = (0 : Int32) from hq0))
  exact W.vret hx hb hr (fun t ht hW => ⟨rfl, trivial, ht⟩) hL dX8_needArgument_15

set_option maxHeartbeats 4000000 in
set_option maxRecDepth 100000 in
/-- X8_needState -/
theorem c_needState (l : Launch) (D : va_G) (cI cZ cJ : ClassId) (lo sz : Nat) (x : Int32) (hq0 : ¬ (x = 0)) : Met l yX8_needState wsX8_needState ({ frames := 0, cells := 0, slots := 0, locals := 0 }) (Pre lo D cI cZ cJ [.int x] sz []) (va_Sv (fun _ => True)) 0 0 (fun _ => False) := by
  refine Met.ofW (cc := cX8_needState) (maxL := 1) (ret := none) (by decide) rfl ?_
  intro p e s m args below meth c s₁ B hml hv
  obtain ⟨rfl, hsz, hP, hD0, hC⟩ := hv
  have hx := B.exec
  have hb := B.bytes
  have hr := B.returns
  have hts := atoms_spec (ws := wsX8_needState) B.pre
  have hown : s.vm.findClass RX8 = some m.cls := findClass_of_methodNamed B.named
  have hlocks := B.notSynchronized
  subst hsz
  have hK := hC.K
  have hD := hD0
  have hS : va_S (fun q => lo ≤ q) s.heap s.heap [] := va_S.rf
  have hAlo : ∀ q, (fun q => lo ≤ q) q → lo ≤ q := fun _ h => h
  have hL : ∀ q ∈ ([] : List Loc), (fun _ : Addr => False) q.base := fun q h => by cases h
  have hP : va_P D vwCl [] s.heap := hP
  have hl := lv_entry ([.int x]) (n := 1) (Nat.le_of_ble_eq_true rfl)
  rw [lg_entry_eq]
  generalize (lg_sl ([.int x]) ++ List.replicate (1 - (lg_sl ([.int x])).length) Slot.unset).toArray = ls at hl ⊢
  have hl : lv_has ls 1 [(0, .int x)] := hl
  refine lv_iload_n hx hb dX8_needState_0 rfl (lv_at hl 0 rfl) ?_
  refine lv_if_ne (tgt := 15) hx hb dX8_needState_1 (by decide) (fun _ => ?_) (fun c9 => absurd c9 (show ¬ x = (0 : Int32) from hq0))
  exact W.vret hx hb hr (fun t ht hW => ⟨rfl, trivial, ht⟩) hL dX8_needState_15

set_option maxHeartbeats 4000000 in
set_option maxRecDepth 100000 in
/-- X8_needWithin -/
theorem c_needWithin (l : Launch) (D : va_G) (cI cZ cJ : ClassId) (lo sz : Nat) (x : Int32) (y : Int32) (z : Int32) (h1 : y ≤ x) (h2 : x ≤ z) : Met l yX8_needWithin wsX8_needWithin ({ frames := 1, cells := 0, slots := 0, locals := 20 }) (Pre lo D cI cZ cJ [.int x, .int y, .int z] sz []) (va_Sv (fun _ => True)) 0 0 (fun _ => False) := by
  refine Met.ofW (cc := cX8_needWithin) (maxL := 3) (ret := none) (by decide) rfl ?_
  intro p e s m args below meth c s₁ B hml hv
  obtain ⟨rfl, hsz, hP, hD0, hC⟩ := hv
  have hx := B.exec
  have hb := B.bytes
  have hr := B.returns
  have hts := atoms_spec (ws := wsX8_needWithin) B.pre
  have hown : s.vm.findClass RX8 = some m.cls := findClass_of_methodNamed B.named
  have hlocks := B.notSynchronized
  subst hsz
  have hK := hC.K
  have hD := hD0
  have hS : va_S (fun q => lo ≤ q) s.heap s.heap [] := va_S.rf
  have hAlo : ∀ q, (fun q => lo ≤ q) q → lo ≤ q := fun _ h => h
  have hL : ∀ q ∈ ([] : List Loc), (fun _ : Addr => False) q.base := fun q h => by cases h
  have hP : va_P D vwCl [] s.heap := hP
  have hl := lv_entry ([.int x, .int y, .int z]) (n := 3) (Nat.le_of_ble_eq_true rfl)
  rw [lg_entry_eq]
  generalize (lg_sl ([.int x, .int y, .int z]) ++ List.replicate (3 - (lg_sl ([.int x, .int y, .int z])).length) Slot.unset).toArray = ls at hl ⊢
  have hl : lv_has ls 3 [(0, .int x), (1, .int y), (2, .int z)] := hl
  refine lv_iload_n hx hb dX8_needWithin_0 rfl (lv_at hl 0 rfl) ?_
  refine lv_iload_n hx hb dX8_needWithin_1 rfl (lv_at hl 1 rfl) ?_
  refine lv_icmp_lt (tgt := 14) hx hb dX8_needWithin_2 (by decide) (fun c9 => absurd c9 (show ¬ (x < y) from (Int32.not_lt.mpr h1))) (fun _ => ?_)
  refine lv_iload_n hx hb dX8_needWithin_5 rfl (lv_at hl 0 rfl) ?_
  refine lv_iload_n hx hb dX8_needWithin_6 rfl (lv_at hl 2 rfl) ?_
  refine lv_icmp_gt (tgt := 14) hx hb dX8_needWithin_7 (by decide) (fun c9 => absurd c9 (show ¬ (z < x) from (Int32.not_lt.mpr h2))) (fun _ => ?_)
  refine lv_iconst (v := 1) hx hb dX8_needWithin_10 (by decide) ?_
  refine lv_goto (tgt := 15) hx hb dX8_needWithin_11 (by decide) ?_
  have hPc : va_P D vwCl [] s.heap := hP
  have hDc : va_D (fun q : Nat => lo ≤ q) [] := hD
  refine va_csv (W.runS (As := [.int 1]) (rest := []) ⟨hx, hb, hml, hown, hts⟩ (c_needArgument l D cI cZ cJ lo s.heap.size 1 (by decide)) (va_cwS 1 hts gX8_needWithin_X8_needArgument rfl rfl rfl (by decide +kernel) ⟨(Nat.le_of_ble_eq_true rfl), (Nat.le_of_ble_eq_true rfl)⟩) ⟨Pre.blind, Pre.mk hPc (hDc.weaken (fun _ _ _ h => hAlo _ h)) hC hS hAlo⟩ rfl rfl hl.1 rfl (lv_room (Nat.le_of_ble_eq_true rfl)) dX8_needWithin_15 ⟨(Nat.le_of_ble_eq_true rfl), (Nat.le_of_ble_eq_true rfl)⟩) (fun e_1 => ?_)
  clear hPc hDc
  exact W.vret hx hb hr (fun t ht hW => ⟨rfl, trivial, ht⟩) hL dX8_needWithin_18

set_option maxHeartbeats 4000000 in
set_option maxRecDepth 100000 in
/-- X8_needItem -/
theorem c_needItem (l : Launch) (D : va_G) (cI cZ cJ : ClassId) (lo sz : Nat) (g : Nat) (pa : Nat → Nat) (b : Nat → Nat) (a : Nat → Nat) (P : sg_Pic) (xi : Nat) (hw : sg_W P) (hi : xi < sg_cn P 1) : Met l yX8_needItem wsX8_needItem ({ frames := 1, cells := 0, slots := 0, locals := 21 }) (Pre lo D cI cZ cJ [.ref g, .int (nI xi)] sz [(g, .inr (8, [.ref (a 0), .ref (b 0), .ref (pa 0)])), (a 0, .inr (6, [.int (P 0 0), .ref (a 1), .ref (a 2), .ref (a 3), .ref (a 4), .ref (a 5), .ref (a 6), .ref (a 70), .ref (a 71)])), (a 1, .inr (0, [.int (P 0 1), .ref (a 10), .ref (a 11), .ref (a 12), .ref (a 13)]))]) (va_Sv (fun _ => True)) 0 0 (fun _ => False) := by
  refine Met.ofW (cc := cX8_needItem) (maxL := 2) (ret := none) (by decide) rfl ?_
  intro p e s m args below meth c s₁ B hml hv
  obtain ⟨rfl, hsz, hP, hD0, hC⟩ := hv
  have hx := B.exec
  have hb := B.bytes
  have hr := B.returns
  have hts := atoms_spec (ws := wsX8_needItem) B.pre
  have hown : s.vm.findClass RX8 = some m.cls := findClass_of_methodNamed B.named
  have hlocks := B.notSynchronized
  subst hsz
  have hn1 : sg_cn P 1 ≤ 6 := hw.n1
  have hn2 : sg_cn P 2 ≤ 5 := hw.n2
  have hn3 : sg_cn P 3 ≤ 200 := hw.n3
  have hn4 : sg_cn P 4 ≤ 60 := hw.n4
  have hn5 : sg_cn P 5 ≤ 90 := hw.n5
  have hK := hC.K
  have hD := hD0
  have hS : va_S (fun q => lo ≤ q) s.heap s.heap [] := va_S.rf
  have hAlo : ∀ q, (fun q => lo ≤ q) q → lo ≤ q := fun _ h => h
  have hL : ∀ q ∈ ([] : List Loc), (fun _ : Addr => False) q.base := fun q h => by cases h
  have hP : va_P D vwCl [(g, .inr (8, [.ref (a 0), .ref (b 0), .ref (pa 0)])), (a 0, .inr (6, [.int (P 0 0), .ref (a 1), .ref (a 2), .ref (a 3), .ref (a 4), .ref (a 5), .ref (a 6), .ref (a 70), .ref (a 71)])), (a 1, .inr (0, [.int (P 0 1), .ref (a 10), .ref (a 11), .ref (a 12), .ref (a 13)]))] s.heap := hP
  have hl := lv_entry ([.ref g, .int (nI xi)]) (n := 2) (Nat.le_of_ble_eq_true rfl)
  rw [lg_entry_eq]
  generalize (lg_sl ([.ref g, .int (nI xi)]) ++ List.replicate (2 - (lg_sl ([.ref g, .int (nI xi)])).length) Slot.unset).toArray = ls at hl ⊢
  have hl : lv_has ls 2 [(0, .ref g), (1, .int (nI xi))] := hl
  have in6 : ∀ w ∈ u_ws RX6 TX6 9, w ∈ wsX8_needItem := by decide +kernel
  have in8 : ∀ w ∈ u_ws RX8 TX8 3, w ∈ wsX8_needItem := by decide +kernel
  refine lv_aload_n hx hb dX8_needItem_0 rfl (lv_at hl 0 rfl) ?_
  refine va_get (D := D) (ci := 8) (v := .ref (a 0)) (C := RX8) (T := TX8) (N := 3) hx hb hts in8 hown hK hP 0 rfl rfl 0 (by decide) (hts (.fieldLink RX8 10 "Granary" "now" "LGranary$Stock;") (by decide +kernel)) (fun _ h9 => h9) rfl dX8_needItem_1 ?_
  refine va_get (D := D) (ci := 6) (v := .ref (a 1)) (C := RX6) (T := TX6) (N := 9) hx hb hts in6 hown hK hP 1 rfl rfl 1 (by decide) (hts (.fieldLink RX8 30 "Granary$Stock" "items" "LGranary$Items;") (by decide +kernel)) (fun _ h9 => h9) rfl dX8_needItem_4 ?_
  refine lv_iload_n hx hb dX8_needItem_7 rfl (lv_at hl 1 rfl) ?_
  have hPc := hP.sub (ws' := [(a 1, .inr (0, [.int (P 0 1), .ref (a 10), .ref (a 11), .ref (a 12), .ref (a 13)]))]) [2] rfl
  have hDc := hD.sub (ws' := [(a 1, .inr (0, [.int (P 0 1), .ref (a 10), .ref (a 11), .ref (a 12), .ref (a 13)]))]) [2] (by decide) rfl
  refine vp_callSi (W.runV (As := [.int (nI xi)]) (rest := []) ⟨hx, hb, hml, hown, hts⟩ (c_X0_has l D cI cZ cJ lo s.heap.size a P (nI xi)) (cwV 1 hts gX8_needItem_X0_has rfl rfl rfl (by decide +kernel) ⟨(Nat.le_of_ble_eq_true rfl), (Nat.le_of_ble_eq_true rfl)⟩) ⟨Pre.blind, va_recv hK hP (ci := 0) (q0 := 2) rfl rfl, Pre.mk hPc (hDc.weaken (fun _ _ _ h => hAlo _ h)) hC hS hAlo⟩ rfl rfl hl.1 rfl (lv_room (Nat.le_of_ble_eq_true rfl)) dX8_needItem_8 ⟨(Nat.le_of_ble_eq_true rfl), (Nat.le_of_ble_eq_true rfl)⟩) (fun r_1 e_2 => ?_)
  clear hPc hDc
  have e_2 : sg_X0_has P (nI xi) = r_1 := Eq.symm e_2
  subst e_2
  have hPc := hP.sub (ws' := []) [] rfl
  have hDc := hD.sub (ws' := []) [] (by decide) rfl
  refine va_csv (W.runS (As := [.int (sg_X0_has P (nI xi))]) (rest := []) ⟨hx, hb, hml, hown, hts⟩ (c_needIndex l D cI cZ cJ lo s.heap.size (sg_X0_has P (nI xi)) (sg_hasI1 hw hi)) (va_cwS 1 hts gX8_needItem_X8_needIndex rfl rfl rfl (by decide +kernel) ⟨(Nat.le_of_ble_eq_true rfl), (Nat.le_of_ble_eq_true rfl)⟩) ⟨Pre.blind, Pre.mk hPc (hDc.weaken (fun _ _ _ h => hAlo _ h)) hC hS hAlo⟩ rfl rfl hl.1 rfl (lv_room (Nat.le_of_ble_eq_true rfl)) dX8_needItem_11 ⟨(Nat.le_of_ble_eq_true rfl), (Nat.le_of_ble_eq_true rfl)⟩) (fun e_3 => ?_)
  clear hPc hDc
  exact W.vret hx hb hr (fun t ht hW => ⟨rfl, trivial, ht⟩) hL dX8_needItem_14

set_option maxHeartbeats 4000000 in
set_option maxRecDepth 100000 in
/-- X8_needSite -/
theorem c_needSite (l : Launch) (D : va_G) (cI cZ cJ : ClassId) (lo sz : Nat) (g : Nat) (pa : Nat → Nat) (b : Nat → Nat) (a : Nat → Nat) (P : sg_Pic) (xi : Nat) (hw : sg_W P) (hi : xi < sg_cn P 2) : Met l yX8_needSite wsX8_needSite ({ frames := 1, cells := 0, slots := 0, locals := 21 }) (Pre lo D cI cZ cJ [.ref g, .int (nI xi)] sz [(g, .inr (8, [.ref (a 0), .ref (b 0), .ref (pa 0)])), (a 0, .inr (6, [.int (P 0 0), .ref (a 1), .ref (a 2), .ref (a 3), .ref (a 4), .ref (a 5), .ref (a 6), .ref (a 70), .ref (a 71)])), (a 2, .inr (5, [.int (P 0 2), .ref (a 20), .ref (a 21)]))]) (va_Sv (fun _ => True)) 0 0 (fun _ => False) := by
  refine Met.ofW (cc := cX8_needSite) (maxL := 2) (ret := none) (by decide) rfl ?_
  intro p e s m args below meth c s₁ B hml hv
  obtain ⟨rfl, hsz, hP, hD0, hC⟩ := hv
  have hx := B.exec
  have hb := B.bytes
  have hr := B.returns
  have hts := atoms_spec (ws := wsX8_needSite) B.pre
  have hown : s.vm.findClass RX8 = some m.cls := findClass_of_methodNamed B.named
  have hlocks := B.notSynchronized
  subst hsz
  have hn1 : sg_cn P 1 ≤ 6 := hw.n1
  have hn2 : sg_cn P 2 ≤ 5 := hw.n2
  have hn3 : sg_cn P 3 ≤ 200 := hw.n3
  have hn4 : sg_cn P 4 ≤ 60 := hw.n4
  have hn5 : sg_cn P 5 ≤ 90 := hw.n5
  have hK := hC.K
  have hD := hD0
  have hS : va_S (fun q => lo ≤ q) s.heap s.heap [] := va_S.rf
  have hAlo : ∀ q, (fun q => lo ≤ q) q → lo ≤ q := fun _ h => h
  have hL : ∀ q ∈ ([] : List Loc), (fun _ : Addr => False) q.base := fun q h => by cases h
  have hP : va_P D vwCl [(g, .inr (8, [.ref (a 0), .ref (b 0), .ref (pa 0)])), (a 0, .inr (6, [.int (P 0 0), .ref (a 1), .ref (a 2), .ref (a 3), .ref (a 4), .ref (a 5), .ref (a 6), .ref (a 70), .ref (a 71)])), (a 2, .inr (5, [.int (P 0 2), .ref (a 20), .ref (a 21)]))] s.heap := hP
  have hl := lv_entry ([.ref g, .int (nI xi)]) (n := 2) (Nat.le_of_ble_eq_true rfl)
  rw [lg_entry_eq]
  generalize (lg_sl ([.ref g, .int (nI xi)]) ++ List.replicate (2 - (lg_sl ([.ref g, .int (nI xi)])).length) Slot.unset).toArray = ls at hl ⊢
  have hl : lv_has ls 2 [(0, .ref g), (1, .int (nI xi))] := hl
  have in6 : ∀ w ∈ u_ws RX6 TX6 9, w ∈ wsX8_needSite := by decide +kernel
  have in8 : ∀ w ∈ u_ws RX8 TX8 3, w ∈ wsX8_needSite := by decide +kernel
  refine lv_aload_n hx hb dX8_needSite_0 rfl (lv_at hl 0 rfl) ?_
  refine va_get (D := D) (ci := 8) (v := .ref (a 0)) (C := RX8) (T := TX8) (N := 3) hx hb hts in8 hown hK hP 0 rfl rfl 0 (by decide) (hts (.fieldLink RX8 10 "Granary" "now" "LGranary$Stock;") (by decide +kernel)) (fun _ h9 => h9) rfl dX8_needSite_1 ?_
  refine va_get (D := D) (ci := 6) (v := .ref (a 2)) (C := RX6) (T := TX6) (N := 9) hx hb hts in6 hown hK hP 1 rfl rfl 2 (by decide) (hts (.fieldLink RX8 48 "Granary$Stock" "sites" "LGranary$Sites;") (by decide +kernel)) (fun _ h9 => h9) rfl dX8_needSite_4 ?_
  refine lv_iload_n hx hb dX8_needSite_7 rfl (lv_at hl 1 rfl) ?_
  have hPc := hP.sub (ws' := [(a 2, .inr (5, [.int (P 0 2), .ref (a 20), .ref (a 21)]))]) [2] rfl
  have hDc := hD.sub (ws' := [(a 2, .inr (5, [.int (P 0 2), .ref (a 20), .ref (a 21)]))]) [2] (by decide) rfl
  refine vp_callSi (W.runV (As := [.int (nI xi)]) (rest := []) ⟨hx, hb, hml, hown, hts⟩ (c_X5_has l D cI cZ cJ lo s.heap.size a P (nI xi)) (cwV 1 hts gX8_needSite_X5_has rfl rfl rfl (by decide +kernel) ⟨(Nat.le_of_ble_eq_true rfl), (Nat.le_of_ble_eq_true rfl)⟩) ⟨Pre.blind, va_recv hK hP (ci := 5) (q0 := 2) rfl rfl, Pre.mk hPc (hDc.weaken (fun _ _ _ h => hAlo _ h)) hC hS hAlo⟩ rfl rfl hl.1 rfl (lv_room (Nat.le_of_ble_eq_true rfl)) dX8_needSite_8 ⟨(Nat.le_of_ble_eq_true rfl), (Nat.le_of_ble_eq_true rfl)⟩) (fun r_1 e_2 => ?_)
  clear hPc hDc
  have e_2 : sg_X5_has P (nI xi) = r_1 := Eq.symm e_2
  subst e_2
  have hPc := hP.sub (ws' := []) [] rfl
  have hDc := hD.sub (ws' := []) [] (by decide) rfl
  refine va_csv (W.runS (As := [.int (sg_X5_has P (nI xi))]) (rest := []) ⟨hx, hb, hml, hown, hts⟩ (c_needIndex l D cI cZ cJ lo s.heap.size (sg_X5_has P (nI xi)) (sg_hasS1 hw hi)) (va_cwS 1 hts gX8_needSite_X8_needIndex rfl rfl rfl (by decide +kernel) ⟨(Nat.le_of_ble_eq_true rfl), (Nat.le_of_ble_eq_true rfl)⟩) ⟨Pre.blind, Pre.mk hPc (hDc.weaken (fun _ _ _ h => hAlo _ h)) hC hS hAlo⟩ rfl rfl hl.1 rfl (lv_room (Nat.le_of_ble_eq_true rfl)) dX8_needSite_11 ⟨(Nat.le_of_ble_eq_true rfl), (Nat.le_of_ble_eq_true rfl)⟩) (fun e_3 => ?_)
  clear hPc hDc
  exact W.vret hx hb hr (fun t ht hW => ⟨rfl, trivial, ht⟩) hL dX8_needSite_14

set_option maxHeartbeats 4000000 in
set_option maxRecDepth 100000 in
/-- X8_needLot -/
theorem c_needLot (l : Launch) (D : va_G) (cI cZ cJ : ClassId) (lo sz : Nat) (g : Nat) (pa : Nat → Nat) (b : Nat → Nat) (a : Nat → Nat) (P : sg_Pic) (xi : Nat) (hw : sg_W P) (hi : xi < sg_cn P 3) : Met l yX8_needLot wsX8_needLot ({ frames := 1, cells := 0, slots := 0, locals := 21 }) (Pre lo D cI cZ cJ [.ref g, .int (nI xi)] sz [(g, .inr (8, [.ref (a 0), .ref (b 0), .ref (pa 0)])), (a 0, .inr (6, [.int (P 0 0), .ref (a 1), .ref (a 2), .ref (a 3), .ref (a 4), .ref (a 5), .ref (a 6), .ref (a 70), .ref (a 71)])), (a 4, .inr (1, [.int (P 0 3), .ref (a 40), .ref (a 41), .ref (a 42), .ref (a 43), .ref (a 44)]))]) (va_Sv (fun _ => True)) 0 0 (fun _ => False) := by
  refine Met.ofW (cc := cX8_needLot) (maxL := 2) (ret := none) (by decide) rfl ?_
  intro p e s m args below meth c s₁ B hml hv
  obtain ⟨rfl, hsz, hP, hD0, hC⟩ := hv
  have hx := B.exec
  have hb := B.bytes
  have hr := B.returns
  have hts := atoms_spec (ws := wsX8_needLot) B.pre
  have hown : s.vm.findClass RX8 = some m.cls := findClass_of_methodNamed B.named
  have hlocks := B.notSynchronized
  subst hsz
  have hn1 : sg_cn P 1 ≤ 6 := hw.n1
  have hn2 : sg_cn P 2 ≤ 5 := hw.n2
  have hn3 : sg_cn P 3 ≤ 200 := hw.n3
  have hn4 : sg_cn P 4 ≤ 60 := hw.n4
  have hn5 : sg_cn P 5 ≤ 90 := hw.n5
  have hK := hC.K
  have hD := hD0
  have hS : va_S (fun q => lo ≤ q) s.heap s.heap [] := va_S.rf
  have hAlo : ∀ q, (fun q => lo ≤ q) q → lo ≤ q := fun _ h => h
  have hL : ∀ q ∈ ([] : List Loc), (fun _ : Addr => False) q.base := fun q h => by cases h
  have hP : va_P D vwCl [(g, .inr (8, [.ref (a 0), .ref (b 0), .ref (pa 0)])), (a 0, .inr (6, [.int (P 0 0), .ref (a 1), .ref (a 2), .ref (a 3), .ref (a 4), .ref (a 5), .ref (a 6), .ref (a 70), .ref (a 71)])), (a 4, .inr (1, [.int (P 0 3), .ref (a 40), .ref (a 41), .ref (a 42), .ref (a 43), .ref (a 44)]))] s.heap := hP
  have hl := lv_entry ([.ref g, .int (nI xi)]) (n := 2) (Nat.le_of_ble_eq_true rfl)
  rw [lg_entry_eq]
  generalize (lg_sl ([.ref g, .int (nI xi)]) ++ List.replicate (2 - (lg_sl ([.ref g, .int (nI xi)])).length) Slot.unset).toArray = ls at hl ⊢
  have hl : lv_has ls 2 [(0, .ref g), (1, .int (nI xi))] := hl
  have in6 : ∀ w ∈ u_ws RX6 TX6 9, w ∈ wsX8_needLot := by decide +kernel
  have in8 : ∀ w ∈ u_ws RX8 TX8 3, w ∈ wsX8_needLot := by decide +kernel
  refine lv_aload_n hx hb dX8_needLot_0 rfl (lv_at hl 0 rfl) ?_
  refine va_get (D := D) (ci := 8) (v := .ref (a 0)) (C := RX8) (T := TX8) (N := 3) hx hb hts in8 hown hK hP 0 rfl rfl 0 (by decide) (hts (.fieldLink RX8 10 "Granary" "now" "LGranary$Stock;") (by decide +kernel)) (fun _ h9 => h9) rfl dX8_needLot_1 ?_
  refine va_get (D := D) (ci := 6) (v := .ref (a 4)) (C := RX6) (T := TX6) (N := 9) hx hb hts in6 hown hK hP 1 rfl rfl 4 (by decide) (hts (.fieldLink RX8 109 "Granary$Stock" "lots" "LGranary$Lots;") (by decide +kernel)) (fun _ h9 => h9) rfl dX8_needLot_4 ?_
  refine lv_iload_n hx hb dX8_needLot_7 rfl (lv_at hl 1 rfl) ?_
  have hPc := hP.sub (ws' := [(a 4, .inr (1, [.int (P 0 3), .ref (a 40), .ref (a 41), .ref (a 42), .ref (a 43), .ref (a 44)]))]) [2] rfl
  have hDc := hD.sub (ws' := [(a 4, .inr (1, [.int (P 0 3), .ref (a 40), .ref (a 41), .ref (a 42), .ref (a 43), .ref (a 44)]))]) [2] (by decide) rfl
  refine vp_callSi (W.runV (As := [.int (nI xi)]) (rest := []) ⟨hx, hb, hml, hown, hts⟩ (c_X1_has l D cI cZ cJ lo s.heap.size a P (nI xi)) (cwV 1 hts gX8_needLot_X1_has rfl rfl rfl (by decide +kernel) ⟨(Nat.le_of_ble_eq_true rfl), (Nat.le_of_ble_eq_true rfl)⟩) ⟨Pre.blind, va_recv hK hP (ci := 1) (q0 := 2) rfl rfl, Pre.mk hPc (hDc.weaken (fun _ _ _ h => hAlo _ h)) hC hS hAlo⟩ rfl rfl hl.1 rfl (lv_room (Nat.le_of_ble_eq_true rfl)) dX8_needLot_8 ⟨(Nat.le_of_ble_eq_true rfl), (Nat.le_of_ble_eq_true rfl)⟩) (fun r_1 e_2 => ?_)
  clear hPc hDc
  have e_2 : sg_X1_has P (nI xi) = r_1 := Eq.symm e_2
  subst e_2
  have hPc := hP.sub (ws' := []) [] rfl
  have hDc := hD.sub (ws' := []) [] (by decide) rfl
  refine va_csv (W.runS (As := [.int (sg_X1_has P (nI xi))]) (rest := []) ⟨hx, hb, hml, hown, hts⟩ (c_needIndex l D cI cZ cJ lo s.heap.size (sg_X1_has P (nI xi)) (sg_hasL1 hw hi)) (va_cwS 1 hts gX8_needLot_X8_needIndex rfl rfl rfl (by decide +kernel) ⟨(Nat.le_of_ble_eq_true rfl), (Nat.le_of_ble_eq_true rfl)⟩) ⟨Pre.blind, Pre.mk hPc (hDc.weaken (fun _ _ _ h => hAlo _ h)) hC hS hAlo⟩ rfl rfl hl.1 rfl (lv_room (Nat.le_of_ble_eq_true rfl)) dX8_needLot_11 ⟨(Nat.le_of_ble_eq_true rfl), (Nat.le_of_ble_eq_true rfl)⟩) (fun e_3 => ?_)
  clear hPc hDc
  exact W.vret hx hb hr (fun t ht hW => ⟨rfl, trivial, ht⟩) hL dX8_needLot_14

set_option maxHeartbeats 4000000 in
set_option maxRecDepth 100000 in
/-- X8_needOrder -/
theorem c_needOrder (l : Launch) (D : va_G) (cI cZ cJ : ClassId) (lo sz : Nat) (g : Nat) (pa : Nat → Nat) (b : Nat → Nat) (a : Nat → Nat) (P : sg_Pic) (xi : Nat) (hw : sg_W P) (hi : xi < sg_cn P 4) : Met l yX8_needOrder wsX8_needOrder ({ frames := 1, cells := 0, slots := 0, locals := 21 }) (Pre lo D cI cZ cJ [.ref g, .int (nI xi)] sz [(g, .inr (8, [.ref (a 0), .ref (b 0), .ref (pa 0)])), (a 0, .inr (6, [.int (P 0 0), .ref (a 1), .ref (a 2), .ref (a 3), .ref (a 4), .ref (a 5), .ref (a 6), .ref (a 70), .ref (a 71)])), (a 5, .inr (2, [.int (P 0 4), .ref (a 50), .ref (a 51), .ref (a 52), .ref (a 53), .ref (a 54), .ref (a 55), .ref (a 56), .ref (a 57), .ref (a 58), .ref (a 59)]))]) (va_Sv (fun _ => True)) 0 0 (fun _ => False) := by
  refine Met.ofW (cc := cX8_needOrder) (maxL := 2) (ret := none) (by decide) rfl ?_
  intro p e s m args below meth c s₁ B hml hv
  obtain ⟨rfl, hsz, hP, hD0, hC⟩ := hv
  have hx := B.exec
  have hb := B.bytes
  have hr := B.returns
  have hts := atoms_spec (ws := wsX8_needOrder) B.pre
  have hown : s.vm.findClass RX8 = some m.cls := findClass_of_methodNamed B.named
  have hlocks := B.notSynchronized
  subst hsz
  have hn1 : sg_cn P 1 ≤ 6 := hw.n1
  have hn2 : sg_cn P 2 ≤ 5 := hw.n2
  have hn3 : sg_cn P 3 ≤ 200 := hw.n3
  have hn4 : sg_cn P 4 ≤ 60 := hw.n4
  have hn5 : sg_cn P 5 ≤ 90 := hw.n5
  have hK := hC.K
  have hD := hD0
  have hS : va_S (fun q => lo ≤ q) s.heap s.heap [] := va_S.rf
  have hAlo : ∀ q, (fun q => lo ≤ q) q → lo ≤ q := fun _ h => h
  have hL : ∀ q ∈ ([] : List Loc), (fun _ : Addr => False) q.base := fun q h => by cases h
  have hP : va_P D vwCl [(g, .inr (8, [.ref (a 0), .ref (b 0), .ref (pa 0)])), (a 0, .inr (6, [.int (P 0 0), .ref (a 1), .ref (a 2), .ref (a 3), .ref (a 4), .ref (a 5), .ref (a 6), .ref (a 70), .ref (a 71)])), (a 5, .inr (2, [.int (P 0 4), .ref (a 50), .ref (a 51), .ref (a 52), .ref (a 53), .ref (a 54), .ref (a 55), .ref (a 56), .ref (a 57), .ref (a 58), .ref (a 59)]))] s.heap := hP
  have hl := lv_entry ([.ref g, .int (nI xi)]) (n := 2) (Nat.le_of_ble_eq_true rfl)
  rw [lg_entry_eq]
  generalize (lg_sl ([.ref g, .int (nI xi)]) ++ List.replicate (2 - (lg_sl ([.ref g, .int (nI xi)])).length) Slot.unset).toArray = ls at hl ⊢
  have hl : lv_has ls 2 [(0, .ref g), (1, .int (nI xi))] := hl
  have in6 : ∀ w ∈ u_ws RX6 TX6 9, w ∈ wsX8_needOrder := by decide +kernel
  have in8 : ∀ w ∈ u_ws RX8 TX8 3, w ∈ wsX8_needOrder := by decide +kernel
  refine lv_aload_n hx hb dX8_needOrder_0 rfl (lv_at hl 0 rfl) ?_
  refine va_get (D := D) (ci := 8) (v := .ref (a 0)) (C := RX8) (T := TX8) (N := 3) hx hb hts in8 hown hK hP 0 rfl rfl 0 (by decide) (hts (.fieldLink RX8 10 "Granary" "now" "LGranary$Stock;") (by decide +kernel)) (fun _ h9 => h9) rfl dX8_needOrder_1 ?_
  refine va_get (D := D) (ci := 6) (v := .ref (a 5)) (C := RX6) (T := TX6) (N := 9) hx hb hts in6 hown hK hP 1 rfl rfl 5 (by decide) (hts (.fieldLink RX8 131 "Granary$Stock" "orders" "LGranary$Orders;") (by decide +kernel)) (fun _ h9 => h9) rfl dX8_needOrder_4 ?_
  refine lv_iload_n hx hb dX8_needOrder_7 rfl (lv_at hl 1 rfl) ?_
  have hPc := hP.sub (ws' := [(a 5, .inr (2, [.int (P 0 4), .ref (a 50), .ref (a 51), .ref (a 52), .ref (a 53), .ref (a 54), .ref (a 55), .ref (a 56), .ref (a 57), .ref (a 58), .ref (a 59)]))]) [2] rfl
  have hDc := hD.sub (ws' := [(a 5, .inr (2, [.int (P 0 4), .ref (a 50), .ref (a 51), .ref (a 52), .ref (a 53), .ref (a 54), .ref (a 55), .ref (a 56), .ref (a 57), .ref (a 58), .ref (a 59)]))]) [2] (by decide) rfl
  refine vp_callSi (W.runV (As := [.int (nI xi)]) (rest := []) ⟨hx, hb, hml, hown, hts⟩ (c_X2_has l D cI cZ cJ lo s.heap.size a P (nI xi)) (cwV 1 hts gX8_needOrder_X2_has rfl rfl rfl (by decide +kernel) ⟨(Nat.le_of_ble_eq_true rfl), (Nat.le_of_ble_eq_true rfl)⟩) ⟨Pre.blind, va_recv hK hP (ci := 2) (q0 := 2) rfl rfl, Pre.mk hPc (hDc.weaken (fun _ _ _ h => hAlo _ h)) hC hS hAlo⟩ rfl rfl hl.1 rfl (lv_room (Nat.le_of_ble_eq_true rfl)) dX8_needOrder_8 ⟨(Nat.le_of_ble_eq_true rfl), (Nat.le_of_ble_eq_true rfl)⟩) (fun r_1 e_2 => ?_)
  clear hPc hDc
  have e_2 : sg_X2_has P (nI xi) = r_1 := Eq.symm e_2
  subst e_2
  have hPc := hP.sub (ws' := []) [] rfl
  have hDc := hD.sub (ws' := []) [] (by decide) rfl
  refine va_csv (W.runS (As := [.int (sg_X2_has P (nI xi))]) (rest := []) ⟨hx, hb, hml, hown, hts⟩ (c_needIndex l D cI cZ cJ lo s.heap.size (sg_X2_has P (nI xi)) (sg_hasO1 hw hi)) (va_cwS 1 hts gX8_needOrder_X8_needIndex rfl rfl rfl (by decide +kernel) ⟨(Nat.le_of_ble_eq_true rfl), (Nat.le_of_ble_eq_true rfl)⟩) ⟨Pre.blind, Pre.mk hPc (hDc.weaken (fun _ _ _ h => hAlo _ h)) hC hS hAlo⟩ rfl rfl hl.1 rfl (lv_room (Nat.le_of_ble_eq_true rfl)) dX8_needOrder_11 ⟨(Nat.le_of_ble_eq_true rfl), (Nat.le_of_ble_eq_true rfl)⟩) (fun e_3 => ?_)
  clear hPc hDc
  exact W.vret hx hb hr (fun t ht hW => ⟨rfl, trivial, ht⟩) hL dX8_needOrder_14

set_option maxHeartbeats 4000000 in
set_option maxRecDepth 100000 in
/-- X8_mix -/
theorem c_mix (l : Launch) (D : va_G) (cI cZ cJ : ClassId) (lo sz : Nat) (x : Int64) (y : Int64) : Met l yX8_mix wsX8_mix ({ frames := 0, cells := 0, slots := 0, locals := 0 }) (Pre lo D cI cZ cJ [.long x, .long y] sz []) (vp_Sl (fun r => r = (x * 31) + y)) 0 0 (fun _ => False) := by
  refine Met.ofW (cc := cX8_mix) (maxL := 4) (ret := (some .long)) (by decide) rfl ?_
  intro p e s m args below meth c s₁ B hml hv
  obtain ⟨rfl, hsz, hP, hD0, hC⟩ := hv
  have hx := B.exec
  have hb := B.bytes
  have hr := B.returns
  have hts := atoms_spec (ws := wsX8_mix) B.pre
  have hown : s.vm.findClass RX8 = some m.cls := findClass_of_methodNamed B.named
  have hlocks := B.notSynchronized
  subst hsz
  have hK := hC.K
  have hD := hD0
  have hS : va_S (fun q => lo ≤ q) s.heap s.heap [] := va_S.rf
  have hAlo : ∀ q, (fun q => lo ≤ q) q → lo ≤ q := fun _ h => h
  have hL : ∀ q ∈ ([] : List Loc), (fun _ : Addr => False) q.base := fun q h => by cases h
  have hP : va_P D vwCl [] s.heap := hP
  have hl := lv_entry ([.long x, .long y]) (n := 4) (Nat.le_of_ble_eq_true rfl)
  rw [lg_entry_eq]
  generalize (lg_sl ([.long x, .long y]) ++ List.replicate (4 - (lg_sl ([.long x, .long y])).length) Slot.unset).toArray = ls at hl ⊢
  have hl : lv_has ls 4 [(0, .long x), (2, .long y)] := hl
  refine lv_lload_n hx hb dX8_mix_0 rfl (lv_at hl 0 rfl) ?_
  refine lv_ldc2 hx hb (v := 31) hown (hts (.constantLong RX8 285 (31)) (by decide +kernel)) dX8_mix_1 ?_
  refine lv_lmul hx hb dX8_mix_4 ?_
  refine lv_lload_n hx hb dX8_mix_5 rfl (lv_at hl 1 rfl) ?_
  refine lv_ladd hx hb dX8_mix_6 ?_
  exact W.lret (v := ((x * 31) + y)) hx hb hr (fun t ht hW => ⟨((x * 31) + y), rfl, rfl, ht⟩) hL dX8_mix_7

def sg_g_mixCounts_96 (P : sg_Pic) (x : Int64) : Nat → Int64
  | 0 => (((((((((((x * 31) + ((P 0 0).toInt64)) * 31) + ((P 0 1).toInt64)) * 31) + ((P 0 2).toInt64)) * 31) + ((P 0 3).toInt64)) * 31) + ((P 0 4).toInt64)) * 31) + ((P 0 5).toInt64)
  | j96 + 1 => (((sg_g_mixCounts_96 P x j96) * 31) + ((P 70 j96).toInt64))

def sg_g_mixCounts (P : sg_Pic) (x : Int64) : Int64 := (sg_g_mixCounts_96 P x 5)

set_option maxHeartbeats 4000000 in
set_option maxRecDepth 100000 in
/-- X8_mixCounts -/
theorem c_g_mixCounts (l : Launch) (D : va_G) (cI cZ cJ : ClassId) (lo sz : Nat) (g : Nat) (pa : Nat → Nat) (b : Nat → Nat) (a : Nat → Nat) (P : sg_Pic) (q : Nat → Int32) (x : Int64) (hw : sg_W P) : Met l yX8_mixCounts wsX8_mixCounts ({ frames := 1, cells := 0, slots := 0, locals := 23 }) (Pre lo D cI cZ cJ [.ref g, .long x] sz ([(g, .inr (8, [.ref (a 0), .ref (b 0), .ref (pa 0)]))] ++ sg_St cI cZ a P q)) (vp_Sl (fun r => r = sg_g_mixCounts P x)) 0 0 (fun _ => False) := by
  refine Met.ofW (cc := cX8_mixCounts) (maxL := 6) (ret := (some .long)) (by decide) rfl ?_
  intro p e s m args below meth c s₁ B hml hv
  obtain ⟨rfl, hsz, hP, hD0, hC⟩ := hv
  have hx := B.exec
  have hb := B.bytes
  have hr := B.returns
  have hts := atoms_spec (ws := wsX8_mixCounts) B.pre
  have hown : s.vm.findClass RX8 = some m.cls := findClass_of_methodNamed B.named
  have hlocks := B.notSynchronized
  subst hsz
  have hn1 : sg_cn P 1 ≤ 6 := hw.n1
  have hn2 : sg_cn P 2 ≤ 5 := hw.n2
  have hn3 : sg_cn P 3 ≤ 200 := hw.n3
  have hn4 : sg_cn P 4 ≤ 60 := hw.n4
  have hn5 : sg_cn P 5 ≤ 90 := hw.n5
  have hK := hC.K
  have hD := hD0
  have hS : va_S (fun q => lo ≤ q) s.heap s.heap [] := va_S.rf
  have hAlo : ∀ q, (fun q => lo ≤ q) q → lo ≤ q := fun _ h => h
  have hL : ∀ q ∈ ([] : List Loc), (fun _ : Addr => False) q.base := fun q h => by cases h
  have hP : va_P D vwCl ([(g, .inr (8, [.ref (a 0), .ref (b 0), .ref (pa 0)]))] ++ sg_St cI cZ a P q) s.heap := hP
  have hl := lv_entry ([.ref g, .long x]) (n := 6) (Nat.le_of_ble_eq_true rfl)
  rw [lg_entry_eq]
  generalize (lg_sl ([.ref g, .long x]) ++ List.replicate (6 - (lg_sl ([.ref g, .long x])).length) Slot.unset).toArray = ls at hl ⊢
  have hl : lv_has ls 6 [(0, .ref g), (1, .long x)] := hl
  have in0 : ∀ w ∈ u_ws RX0 TX0 5, w ∈ wsX8_mixCounts := by decide +kernel
  have in1 : ∀ w ∈ u_ws RX1 TX1 6, w ∈ wsX8_mixCounts := by decide +kernel
  have in2 : ∀ w ∈ u_ws RX2 TX2 11, w ∈ wsX8_mixCounts := by decide +kernel
  have in5 : ∀ w ∈ u_ws RX5 TX5 3, w ∈ wsX8_mixCounts := by decide +kernel
  have in6 : ∀ w ∈ u_ws RX6 TX6 9, w ∈ wsX8_mixCounts := by decide +kernel
  have in7 : ∀ w ∈ u_ws RX7 TX7 7, w ∈ wsX8_mixCounts := by decide +kernel
  have in8 : ∀ w ∈ u_ws RX8 TX8 3, w ∈ wsX8_mixCounts := by decide +kernel
  refine lv_lload_n hx hb dX8_mixCounts_0 rfl (lv_at hl 1 rfl) ?_
  refine lv_aload_n hx hb dX8_mixCounts_1 rfl (lv_at hl 0 rfl) ?_
  refine va_get (D := D) (ci := 8) (v := .ref (a 0)) (C := RX8) (T := TX8) (N := 3) hx hb hts in8 hown hK hP 0 rfl rfl 0 (by decide) (hts (.fieldLink RX8 10 "Granary" "now" "LGranary$Stock;") (by decide +kernel)) (fun _ h9 => h9) rfl dX8_mixCounts_2 ?_
  refine va_get (D := D) (ci := 6) (v := .int (P 0 0)) (C := RX6) (T := TX6) (N := 9) hx hb hts in6 hown hK hP 1 rfl rfl 0 (by decide) (hts (.fieldLink RX8 125 "Granary$Stock" "day" "I") (by decide +kernel)) (fun _ h9 => h9) rfl dX8_mixCounts_5 ?_
  refine lv_i2l (v := (P 0 0).toInt64) hx hb dX8_mixCounts_8 rfl ?_
  have hPc := hP.sub (ws' := []) [] rfl
  have hDc := hD.sub (ws' := []) [] (by decide) rfl
  refine vp_callSl (W.runS (As := [.long x, .long ((P 0 0).toInt64)]) (rest := []) ⟨hx, hb, hml, hown, hts⟩ (c_mix l D cI cZ cJ lo s.heap.size x ((P 0 0).toInt64)) (va_cwS 2 hts gX8_mixCounts_X8_mix rfl rfl rfl (by decide +kernel) ⟨(Nat.le_of_ble_eq_true rfl), (Nat.le_of_ble_eq_true rfl)⟩) ⟨Pre.blind, Pre.mk hPc (hDc.weaken (fun _ _ _ h => hAlo _ h)) hC hS hAlo⟩ rfl rfl hl.1 rfl (lv_room (Nat.le_of_ble_eq_true rfl)) dX8_mixCounts_9 ⟨(Nat.le_of_ble_eq_true rfl), (Nat.le_of_ble_eq_true rfl)⟩) (fun r_1 e_2 => ?_)
  clear hPc hDc
  have e_2 : (x * 31) + ((P 0 0).toInt64) = r_1 := Eq.symm e_2
  subst e_2
  refine lv_lstore_n (lv' := [(3, .long ((x * 31) + ((P 0 0).toInt64))), (0, .ref g), (1, .long x)]) hx hb dX8_mixCounts_12 rfl hl (by decide) rfl (fun ls hl => ?_)
  refine lv_lload_n hx hb dX8_mixCounts_13 rfl (lv_at hl 0 rfl) ?_
  refine lv_aload_n hx hb dX8_mixCounts_14 rfl (lv_at hl 1 rfl) ?_
  refine va_get (D := D) (ci := 8) (v := .ref (a 0)) (C := RX8) (T := TX8) (N := 3) hx hb hts in8 hown hK hP 0 rfl rfl 0 (by decide) (hts (.fieldLink RX8 10 "Granary" "now" "LGranary$Stock;") (by decide +kernel)) (fun _ h9 => h9) rfl dX8_mixCounts_15 ?_
  refine va_get (D := D) (ci := 6) (v := .ref (a 1)) (C := RX6) (T := TX6) (N := 9) hx hb hts in6 hown hK hP 1 rfl rfl 1 (by decide) (hts (.fieldLink RX8 30 "Granary$Stock" "items" "LGranary$Items;") (by decide +kernel)) (fun _ h9 => h9) rfl dX8_mixCounts_18 ?_
  refine va_get (D := D) (ci := 0) (v := .int (P 0 1)) (C := RX0) (T := TX0) (N := 5) hx hb hts in0 hown hK hP 2 rfl rfl 0 (by decide) (hts (.fieldLink RX8 34 "Granary$Items" "count" "I") (by decide +kernel)) (fun _ h9 => h9) rfl dX8_mixCounts_21 ?_
  refine lv_i2l (v := (P 0 1).toInt64) hx hb dX8_mixCounts_24 rfl ?_
  have hPc := hP.sub (ws' := []) [] rfl
  have hDc := hD.sub (ws' := []) [] (by decide) rfl
  refine vp_callSl (W.runS (As := [.long ((x * 31) + ((P 0 0).toInt64)), .long ((P 0 1).toInt64)]) (rest := []) ⟨hx, hb, hml, hown, hts⟩ (c_mix l D cI cZ cJ lo s.heap.size ((x * 31) + ((P 0 0).toInt64)) ((P 0 1).toInt64)) (va_cwS 2 hts gX8_mixCounts_X8_mix rfl rfl rfl (by decide +kernel) ⟨(Nat.le_of_ble_eq_true rfl), (Nat.le_of_ble_eq_true rfl)⟩) ⟨Pre.blind, Pre.mk hPc (hDc.weaken (fun _ _ _ h => hAlo _ h)) hC hS hAlo⟩ rfl rfl hl.1 rfl (lv_room (Nat.le_of_ble_eq_true rfl)) dX8_mixCounts_25 ⟨(Nat.le_of_ble_eq_true rfl), (Nat.le_of_ble_eq_true rfl)⟩) (fun r_3 e_4 => ?_)
  clear hPc hDc
  have e_4 : (((x * 31) + ((P 0 0).toInt64)) * 31) + ((P 0 1).toInt64) = r_3 := Eq.symm e_4
  subst e_4
  refine lv_lstore_n (lv' := [(3, .long ((((x * 31) + ((P 0 0).toInt64)) * 31) + ((P 0 1).toInt64))), (0, .ref g), (1, .long x)]) hx hb dX8_mixCounts_28 rfl hl (by decide) rfl (fun ls hl => ?_)
  refine lv_lload_n hx hb dX8_mixCounts_29 rfl (lv_at hl 0 rfl) ?_
  refine lv_aload_n hx hb dX8_mixCounts_30 rfl (lv_at hl 1 rfl) ?_
  refine va_get (D := D) (ci := 8) (v := .ref (a 0)) (C := RX8) (T := TX8) (N := 3) hx hb hts in8 hown hK hP 0 rfl rfl 0 (by decide) (hts (.fieldLink RX8 10 "Granary" "now" "LGranary$Stock;") (by decide +kernel)) (fun _ h9 => h9) rfl dX8_mixCounts_31 ?_
  refine va_get (D := D) (ci := 6) (v := .ref (a 2)) (C := RX6) (T := TX6) (N := 9) hx hb hts in6 hown hK hP 1 rfl rfl 2 (by decide) (hts (.fieldLink RX8 48 "Granary$Stock" "sites" "LGranary$Sites;") (by decide +kernel)) (fun _ h9 => h9) rfl dX8_mixCounts_34 ?_
  refine va_get (D := D) (ci := 5) (v := .int (P 0 2)) (C := RX5) (T := TX5) (N := 3) hx hb hts in5 hown hK hP 3 rfl rfl 0 (by decide) (hts (.fieldLink RX8 52 "Granary$Sites" "count" "I") (by decide +kernel)) (fun _ h9 => h9) rfl dX8_mixCounts_37 ?_
  refine lv_i2l (v := (P 0 2).toInt64) hx hb dX8_mixCounts_40 rfl ?_
  have hPc := hP.sub (ws' := []) [] rfl
  have hDc := hD.sub (ws' := []) [] (by decide) rfl
  refine vp_callSl (W.runS (As := [.long ((((x * 31) + ((P 0 0).toInt64)) * 31) + ((P 0 1).toInt64)), .long ((P 0 2).toInt64)]) (rest := []) ⟨hx, hb, hml, hown, hts⟩ (c_mix l D cI cZ cJ lo s.heap.size ((((x * 31) + ((P 0 0).toInt64)) * 31) + ((P 0 1).toInt64)) ((P 0 2).toInt64)) (va_cwS 2 hts gX8_mixCounts_X8_mix rfl rfl rfl (by decide +kernel) ⟨(Nat.le_of_ble_eq_true rfl), (Nat.le_of_ble_eq_true rfl)⟩) ⟨Pre.blind, Pre.mk hPc (hDc.weaken (fun _ _ _ h => hAlo _ h)) hC hS hAlo⟩ rfl rfl hl.1 rfl (lv_room (Nat.le_of_ble_eq_true rfl)) dX8_mixCounts_41 ⟨(Nat.le_of_ble_eq_true rfl), (Nat.le_of_ble_eq_true rfl)⟩) (fun r_5 e_6 => ?_)
  clear hPc hDc
  have e_6 : (((((x * 31) + ((P 0 0).toInt64)) * 31) + ((P 0 1).toInt64)) * 31) + ((P 0 2).toInt64) = r_5 := Eq.symm e_6
  subst e_6
  refine lv_lstore_n (lv' := [(3, .long ((((((x * 31) + ((P 0 0).toInt64)) * 31) + ((P 0 1).toInt64)) * 31) + ((P 0 2).toInt64))), (0, .ref g), (1, .long x)]) hx hb dX8_mixCounts_44 rfl hl (by decide) rfl (fun ls hl => ?_)
  refine lv_lload_n hx hb dX8_mixCounts_45 rfl (lv_at hl 0 rfl) ?_
  refine lv_aload_n hx hb dX8_mixCounts_46 rfl (lv_at hl 1 rfl) ?_
  refine va_get (D := D) (ci := 8) (v := .ref (a 0)) (C := RX8) (T := TX8) (N := 3) hx hb hts in8 hown hK hP 0 rfl rfl 0 (by decide) (hts (.fieldLink RX8 10 "Granary" "now" "LGranary$Stock;") (by decide +kernel)) (fun _ h9 => h9) rfl dX8_mixCounts_47 ?_
  refine va_get (D := D) (ci := 6) (v := .ref (a 4)) (C := RX6) (T := TX6) (N := 9) hx hb hts in6 hown hK hP 1 rfl rfl 4 (by decide) (hts (.fieldLink RX8 109 "Granary$Stock" "lots" "LGranary$Lots;") (by decide +kernel)) (fun _ h9 => h9) rfl dX8_mixCounts_50 ?_
  refine va_get (D := D) (ci := 1) (v := .int (P 0 3)) (C := RX1) (T := TX1) (N := 6) hx hb hts in1 hown hK hP 5 rfl rfl 0 (by decide) (hts (.fieldLink RX8 113 "Granary$Lots" "count" "I") (by decide +kernel)) (fun _ h9 => h9) rfl dX8_mixCounts_53 ?_
  refine lv_i2l (v := (P 0 3).toInt64) hx hb dX8_mixCounts_56 rfl ?_
  have hPc := hP.sub (ws' := []) [] rfl
  have hDc := hD.sub (ws' := []) [] (by decide) rfl
  refine vp_callSl (W.runS (As := [.long ((((((x * 31) + ((P 0 0).toInt64)) * 31) + ((P 0 1).toInt64)) * 31) + ((P 0 2).toInt64)), .long ((P 0 3).toInt64)]) (rest := []) ⟨hx, hb, hml, hown, hts⟩ (c_mix l D cI cZ cJ lo s.heap.size ((((((x * 31) + ((P 0 0).toInt64)) * 31) + ((P 0 1).toInt64)) * 31) + ((P 0 2).toInt64)) ((P 0 3).toInt64)) (va_cwS 2 hts gX8_mixCounts_X8_mix rfl rfl rfl (by decide +kernel) ⟨(Nat.le_of_ble_eq_true rfl), (Nat.le_of_ble_eq_true rfl)⟩) ⟨Pre.blind, Pre.mk hPc (hDc.weaken (fun _ _ _ h => hAlo _ h)) hC hS hAlo⟩ rfl rfl hl.1 rfl (lv_room (Nat.le_of_ble_eq_true rfl)) dX8_mixCounts_57 ⟨(Nat.le_of_ble_eq_true rfl), (Nat.le_of_ble_eq_true rfl)⟩) (fun r_7 e_8 => ?_)
  clear hPc hDc
  have e_8 : (((((((x * 31) + ((P 0 0).toInt64)) * 31) + ((P 0 1).toInt64)) * 31) + ((P 0 2).toInt64)) * 31) + ((P 0 3).toInt64) = r_7 := Eq.symm e_8
  subst e_8
  refine lv_lstore_n (lv' := [(3, .long ((((((((x * 31) + ((P 0 0).toInt64)) * 31) + ((P 0 1).toInt64)) * 31) + ((P 0 2).toInt64)) * 31) + ((P 0 3).toInt64))), (0, .ref g), (1, .long x)]) hx hb dX8_mixCounts_60 rfl hl (by decide) rfl (fun ls hl => ?_)
  refine lv_lload_n hx hb dX8_mixCounts_61 rfl (lv_at hl 0 rfl) ?_
  refine lv_aload_n hx hb dX8_mixCounts_62 rfl (lv_at hl 1 rfl) ?_
  refine va_get (D := D) (ci := 8) (v := .ref (a 0)) (C := RX8) (T := TX8) (N := 3) hx hb hts in8 hown hK hP 0 rfl rfl 0 (by decide) (hts (.fieldLink RX8 10 "Granary" "now" "LGranary$Stock;") (by decide +kernel)) (fun _ h9 => h9) rfl dX8_mixCounts_63 ?_
  refine va_get (D := D) (ci := 6) (v := .ref (a 5)) (C := RX6) (T := TX6) (N := 9) hx hb hts in6 hown hK hP 1 rfl rfl 5 (by decide) (hts (.fieldLink RX8 131 "Granary$Stock" "orders" "LGranary$Orders;") (by decide +kernel)) (fun _ h9 => h9) rfl dX8_mixCounts_66 ?_
  refine va_get (D := D) (ci := 2) (v := .int (P 0 4)) (C := RX2) (T := TX2) (N := 11) hx hb hts in2 hown hK hP 6 rfl rfl 0 (by decide) (hts (.fieldLink RX8 135 "Granary$Orders" "count" "I") (by decide +kernel)) (fun _ h9 => h9) rfl dX8_mixCounts_69 ?_
  refine lv_i2l (v := (P 0 4).toInt64) hx hb dX8_mixCounts_72 rfl ?_
  have hPc := hP.sub (ws' := []) [] rfl
  have hDc := hD.sub (ws' := []) [] (by decide) rfl
  refine vp_callSl (W.runS (As := [.long ((((((((x * 31) + ((P 0 0).toInt64)) * 31) + ((P 0 1).toInt64)) * 31) + ((P 0 2).toInt64)) * 31) + ((P 0 3).toInt64)), .long ((P 0 4).toInt64)]) (rest := []) ⟨hx, hb, hml, hown, hts⟩ (c_mix l D cI cZ cJ lo s.heap.size ((((((((x * 31) + ((P 0 0).toInt64)) * 31) + ((P 0 1).toInt64)) * 31) + ((P 0 2).toInt64)) * 31) + ((P 0 3).toInt64)) ((P 0 4).toInt64)) (va_cwS 2 hts gX8_mixCounts_X8_mix rfl rfl rfl (by decide +kernel) ⟨(Nat.le_of_ble_eq_true rfl), (Nat.le_of_ble_eq_true rfl)⟩) ⟨Pre.blind, Pre.mk hPc (hDc.weaken (fun _ _ _ h => hAlo _ h)) hC hS hAlo⟩ rfl rfl hl.1 rfl (lv_room (Nat.le_of_ble_eq_true rfl)) dX8_mixCounts_73 ⟨(Nat.le_of_ble_eq_true rfl), (Nat.le_of_ble_eq_true rfl)⟩) (fun r_9 e_10 => ?_)
  clear hPc hDc
  have e_10 : (((((((((x * 31) + ((P 0 0).toInt64)) * 31) + ((P 0 1).toInt64)) * 31) + ((P 0 2).toInt64)) * 31) + ((P 0 3).toInt64)) * 31) + ((P 0 4).toInt64) = r_9 := Eq.symm e_10
  subst e_10
  refine lv_lstore_n (lv' := [(3, .long ((((((((((x * 31) + ((P 0 0).toInt64)) * 31) + ((P 0 1).toInt64)) * 31) + ((P 0 2).toInt64)) * 31) + ((P 0 3).toInt64)) * 31) + ((P 0 4).toInt64))), (0, .ref g), (1, .long x)]) hx hb dX8_mixCounts_76 rfl hl (by decide) rfl (fun ls hl => ?_)
  refine lv_lload_n hx hb dX8_mixCounts_77 rfl (lv_at hl 0 rfl) ?_
  refine lv_aload_n hx hb dX8_mixCounts_78 rfl (lv_at hl 1 rfl) ?_
  refine va_get (D := D) (ci := 8) (v := .ref (a 0)) (C := RX8) (T := TX8) (N := 3) hx hb hts in8 hown hK hP 0 rfl rfl 0 (by decide) (hts (.fieldLink RX8 10 "Granary" "now" "LGranary$Stock;") (by decide +kernel)) (fun _ h9 => h9) rfl dX8_mixCounts_79 ?_
  refine va_get (D := D) (ci := 6) (v := .ref (a 6)) (C := RX6) (T := TX6) (N := 9) hx hb hts in6 hown hK hP 1 rfl rfl 6 (by decide) (hts (.fieldLink RX8 183 "Granary$Stock" "transports" "LGranary$Transports;") (by decide +kernel)) (fun _ h9 => h9) rfl dX8_mixCounts_82 ?_
  refine va_get (D := D) (ci := 7) (v := .int (P 0 5)) (C := RX7) (T := TX7) (N := 7) hx hb hts in7 hown hK hP 7 rfl rfl 0 (by decide) (hts (.fieldLink RX8 187 "Granary$Transports" "count" "I") (by decide +kernel)) (fun _ h9 => h9) rfl dX8_mixCounts_85 ?_
  refine lv_i2l (v := (P 0 5).toInt64) hx hb dX8_mixCounts_88 rfl ?_
  have hPc := hP.sub (ws' := []) [] rfl
  have hDc := hD.sub (ws' := []) [] (by decide) rfl
  refine vp_callSl (W.runS (As := [.long ((((((((((x * 31) + ((P 0 0).toInt64)) * 31) + ((P 0 1).toInt64)) * 31) + ((P 0 2).toInt64)) * 31) + ((P 0 3).toInt64)) * 31) + ((P 0 4).toInt64)), .long ((P 0 5).toInt64)]) (rest := []) ⟨hx, hb, hml, hown, hts⟩ (c_mix l D cI cZ cJ lo s.heap.size ((((((((((x * 31) + ((P 0 0).toInt64)) * 31) + ((P 0 1).toInt64)) * 31) + ((P 0 2).toInt64)) * 31) + ((P 0 3).toInt64)) * 31) + ((P 0 4).toInt64)) ((P 0 5).toInt64)) (va_cwS 2 hts gX8_mixCounts_X8_mix rfl rfl rfl (by decide +kernel) ⟨(Nat.le_of_ble_eq_true rfl), (Nat.le_of_ble_eq_true rfl)⟩) ⟨Pre.blind, Pre.mk hPc (hDc.weaken (fun _ _ _ h => hAlo _ h)) hC hS hAlo⟩ rfl rfl hl.1 rfl (lv_room (Nat.le_of_ble_eq_true rfl)) dX8_mixCounts_89 ⟨(Nat.le_of_ble_eq_true rfl), (Nat.le_of_ble_eq_true rfl)⟩) (fun r_11 e_12 => ?_)
  clear hPc hDc
  have e_12 : (((((((((((x * 31) + ((P 0 0).toInt64)) * 31) + ((P 0 1).toInt64)) * 31) + ((P 0 2).toInt64)) * 31) + ((P 0 3).toInt64)) * 31) + ((P 0 4).toInt64)) * 31) + ((P 0 5).toInt64) = r_11 := Eq.symm e_12
  subst e_12
  refine lv_lstore_n (lv' := [(3, .long ((((((((((((x * 31) + ((P 0 0).toInt64)) * 31) + ((P 0 1).toInt64)) * 31) + ((P 0 2).toInt64)) * 31) + ((P 0 3).toInt64)) * 31) + ((P 0 4).toInt64)) * 31) + ((P 0 5).toInt64))), (0, .ref g), (1, .long x)]) hx hb dX8_mixCounts_92 rfl hl (by decide) rfl (fun ls hl => ?_)
  refine lv_iconst (v := 0) hx hb dX8_mixCounts_93 (by decide) ?_
  refine lv_istore (lv' := [(5, .int 0), (3, .long ((((((((((((x * 31) + ((P 0 0).toInt64)) * 31) + ((P 0 1).toInt64)) * 31) + ((P 0 2).toInt64)) * 31) + ((P 0 3).toInt64)) * 31) + ((P 0 4).toInt64)) * 31) + ((P 0 5).toInt64))), (0, .ref g), (1, .long x)]) hx hb dX8_mixCounts_94 hl (by decide) rfl (fun ls hl => ?_)
  obtain ⟨j96, h0j96⟩ : ∃ j : Nat, j = 0 := ⟨_, rfl⟩
  obtain ⟨x96_3, hx96_3⟩ : ∃ z9 : Int64, z9 = sg_g_mixCounts_96 P x j96 := ⟨_, rfl⟩
  replace hl : lv_has ls 6 [(5, .int (nI j96)), (3, .long x96_3), (0, .ref g), (1, .long x)] := by rw [hx96_3, h0j96]; exact hl
  have hjj96 : j96 ≤ 5 := by omega
  clear h0j96
  obtain ⟨n96, hn96⟩ : ∃ n : Nat, 5 < j96 + n := ⟨5 + 1, by omega⟩
  revert hl
  revert hn96
  revert hjj96
  revert hx96_3
  revert ls
  revert x96_3
  revert j96
  induction n96 with
  | zero =>
    intro j96 x96_3 ls hx96_3 hjj96 hn96 hl
    exact absurd hn96 (by omega)
  | succ n96 ih96 =>
    intro j96 x96_3 ls hx96_3 hjj96 hn96 hl
    refine lv_iload hx hb dX8_mixCounts_96 (lv_at hl 0 rfl) ?_
    refine lv_iconst (v := 5) hx hb dX8_mixCounts_98 (by decide) ?_
    have hB96 : (5 : Int32) = nI (5) := rfl
    refine lv_icmp_ge (tgt := 124) hx hb dX8_mixCounts_99 (by decide) (fun c_13 => ?_) (fun c_13 => ?_)
    · have hE96 : 5 = j96 := (sg_eq hB96 c_13 hjj96 (by omega)).symm
      clear ih96 hn96
      subst hE96
      subst hx96_3
      refine lv_lload_n hx hb dX8_mixCounts_124 rfl (lv_at hl 1 rfl) ?_
      exact W.lret (v := (sg_g_mixCounts_96 P x 5)) hx hb hr (fun t ht hW => ⟨(sg_g_mixCounts_96 P x 5), rfl, rfl, ht⟩) hL dX8_mixCounts_125
    · have hL96 : j96 < 5 := sg_lt hB96 c_13 (by omega)
      refine lv_lload_n hx hb dX8_mixCounts_102 rfl (lv_at hl 1 rfl) ?_
      refine lv_aload_n hx hb dX8_mixCounts_103 rfl (lv_at hl 2 rfl) ?_
      refine va_get (D := D) (ci := 8) (v := .ref (a 0)) (C := RX8) (T := TX8) (N := 3) hx hb hts in8 hown hK hP 0 rfl rfl 0 (by decide) (hts (.fieldLink RX8 10 "Granary" "now" "LGranary$Stock;") (by decide +kernel)) (fun _ h9 => h9) rfl dX8_mixCounts_104 ?_
      refine va_get (D := D) (ci := 6) (v := .ref (a 70)) (C := RX6) (T := TX6) (N := 9) hx hb hts in6 hown hK hP 1 rfl rfl 7 (by decide) (hts (.fieldLink RX8 119 "Granary$Stock" "account" "[I") (by decide +kernel)) (fun _ h9 => h9) rfl dX8_mixCounts_107 ?_
      refine lv_iload hx hb dX8_mixCounts_110 (lv_at hl 0 rfl) ?_
      refine sg_iald hx hb hK hP 40 0 rfl rfl (j := j96) rfl (by omega) (Nat.le_of_ble_eq_true rfl) dX8_mixCounts_112 ?_
      refine lv_toi (y := P 70 j96) rfl ?_
      refine lv_i2l (v := (P 70 j96).toInt64) hx hb dX8_mixCounts_113 rfl ?_
      have hPc := hP.sub (ws' := []) [] rfl
      have hDc := hD.sub (ws' := []) [] (by decide) rfl
      refine vp_callSl (W.runS (As := [.long x96_3, .long ((P 70 j96).toInt64)]) (rest := []) ⟨hx, hb, hml, hown, hts⟩ (c_mix l D cI cZ cJ lo s.heap.size x96_3 ((P 70 j96).toInt64)) (va_cwS 2 hts gX8_mixCounts_X8_mix rfl rfl rfl (by decide +kernel) ⟨(Nat.le_of_ble_eq_true rfl), (Nat.le_of_ble_eq_true rfl)⟩) ⟨Pre.blind, Pre.mk hPc (hDc.weaken (fun _ _ _ h => hAlo _ h)) hC hS hAlo⟩ rfl rfl hl.1 rfl (lv_room (Nat.le_of_ble_eq_true rfl)) dX8_mixCounts_114 ⟨(Nat.le_of_ble_eq_true rfl), (Nat.le_of_ble_eq_true rfl)⟩) (fun r_14 e_15 => ?_)
      clear hPc hDc
      have e_15 : (x96_3 * 31) + ((P 70 j96).toInt64) = r_14 := Eq.symm e_15
      subst e_15
      refine lv_lstore_n (lv' := [(3, .long ((x96_3 * 31) + ((P 70 j96).toInt64))), (5, .int (nI j96)), (0, .ref g), (1, .long x)]) hx hb dX8_mixCounts_117 rfl hl (by decide) rfl (fun ls hl => ?_)
      refine lv_iinc (v := nI (j96 + 1)) (lv' := [(5, .int (nI (j96 + 1))), (3, .long ((x96_3 * 31) + ((P 70 j96).toInt64))), (0, .ref g), (1, .long x)]) hx hb dX8_mixCounts_118 hl (k := 1) rfl (nI_1 j96) (by decide) rfl (fun ls hl => ?_)
      refine lv_goto (tgt := 96) hx hb dX8_mixCounts_121 (by decide) ?_
      have hl8 := hl
      subst hx96_3
      exact ih96 (j96 + 1) (((sg_g_mixCounts_96 P x j96) * 31) + ((P 70 j96).toInt64)) _ (show (((sg_g_mixCounts_96 P x j96) * 31) + ((P 70 j96).toInt64) : Int64) = sg_g_mixCounts_96 P x (j96 + 1) from by rw [sg_g_mixCounts_96]) (by omega) (by omega) (lv_sub hl8 [0, 1, 2, 3] rfl)

def sg_g_mixLots_23 (P : sg_Pic) (x : Int64) (j5 : Nat) (x5_3 : Int64) : Nat → Int64
  | 0 => x5_3
  | j23 + 1 => (((sg_g_mixLots_23 P x j5 x5_3 j23) * 31) + ((sg_ltell P j5 j23).toInt64))

def sg_g_mixLots_5 (P : sg_Pic) (x : Int64) : Nat → Int64
  | 0 => x
  | j5 + 1 => (sg_g_mixLots_23 P x j5 (sg_g_mixLots_5 P x j5) 5)

def sg_g_mixLots (P : sg_Pic) (x : Int64) : Int64 := (sg_g_mixLots_5 P x (sg_cn P 3))

set_option maxHeartbeats 4000000 in
set_option maxRecDepth 100000 in
/-- X8_mixLots -/
theorem c_g_mixLots (l : Launch) (D : va_G) (cI cZ cJ : ClassId) (lo sz : Nat) (g : Nat) (pa : Nat → Nat) (b : Nat → Nat) (a : Nat → Nat) (P : sg_Pic) (q : Nat → Int32) (x : Int64) (hw : sg_W P) : Met l yX8_mixLots wsX8_mixLots ({ frames := 1, cells := 0, slots := 0, locals := 23 }) (Pre lo D cI cZ cJ [.ref g, .long x] sz ([(g, .inr (8, [.ref (a 0), .ref (b 0), .ref (pa 0)]))] ++ sg_St cI cZ a P q)) (vp_Sl (fun r => r = sg_g_mixLots P x)) 0 0 (fun _ => False) := by
  refine Met.ofW (cc := cX8_mixLots) (maxL := 7) (ret := (some .long)) (by decide) rfl ?_
  intro p e s m args below meth c s₁ B hml hv
  obtain ⟨rfl, hsz, hP, hD0, hC⟩ := hv
  have hx := B.exec
  have hb := B.bytes
  have hr := B.returns
  have hts := atoms_spec (ws := wsX8_mixLots) B.pre
  have hown : s.vm.findClass RX8 = some m.cls := findClass_of_methodNamed B.named
  have hlocks := B.notSynchronized
  subst hsz
  have hn1 : sg_cn P 1 ≤ 6 := hw.n1
  have hn2 : sg_cn P 2 ≤ 5 := hw.n2
  have hn3 : sg_cn P 3 ≤ 200 := hw.n3
  have hn4 : sg_cn P 4 ≤ 60 := hw.n4
  have hn5 : sg_cn P 5 ≤ 90 := hw.n5
  have hK := hC.K
  have hD := hD0
  have hS : va_S (fun q => lo ≤ q) s.heap s.heap [] := va_S.rf
  have hAlo : ∀ q, (fun q => lo ≤ q) q → lo ≤ q := fun _ h => h
  have hL : ∀ q ∈ ([] : List Loc), (fun _ : Addr => False) q.base := fun q h => by cases h
  have hP : va_P D vwCl ([(g, .inr (8, [.ref (a 0), .ref (b 0), .ref (pa 0)]))] ++ sg_St cI cZ a P q) s.heap := hP
  have hl := lv_entry ([.ref g, .long x]) (n := 7) (Nat.le_of_ble_eq_true rfl)
  rw [lg_entry_eq]
  generalize (lg_sl ([.ref g, .long x]) ++ List.replicate (7 - (lg_sl ([.ref g, .long x])).length) Slot.unset).toArray = ls at hl ⊢
  have hl : lv_has ls 7 [(0, .ref g), (1, .long x)] := hl
  have in1 : ∀ w ∈ u_ws RX1 TX1 6, w ∈ wsX8_mixLots := by decide +kernel
  have in6 : ∀ w ∈ u_ws RX6 TX6 9, w ∈ wsX8_mixLots := by decide +kernel
  have in8 : ∀ w ∈ u_ws RX8 TX8 3, w ∈ wsX8_mixLots := by decide +kernel
  refine lv_lload_n hx hb dX8_mixLots_0 rfl (lv_at hl 1 rfl) ?_
  refine lv_lstore_n (lv' := [(3, .long x), (0, .ref g), (1, .long x)]) hx hb dX8_mixLots_1 rfl hl (by decide) rfl (fun ls hl => ?_)
  refine lv_iconst (v := 0) hx hb dX8_mixLots_2 (by decide) ?_
  refine lv_istore (lv' := [(5, .int 0), (3, .long x), (0, .ref g), (1, .long x)]) hx hb dX8_mixLots_3 hl (by decide) rfl (fun ls hl => ?_)
  obtain ⟨j5, h0j5⟩ : ∃ j : Nat, j = 0 := ⟨_, rfl⟩
  obtain ⟨x5_3, hx5_3⟩ : ∃ z9 : Int64, z9 = sg_g_mixLots_5 P x j5 := ⟨_, rfl⟩
  replace hl : lv_has ls 7 [(5, .int (nI j5)), (3, .long x5_3), (0, .ref g), (1, .long x)] := by rw [hx5_3, h0j5]; exact hl
  have hjj5 : j5 ≤ sg_cn P 3 := by omega
  clear h0j5
  obtain ⟨n5, hn5⟩ : ∃ n : Nat, sg_cn P 3 < j5 + n := ⟨sg_cn P 3 + 1, by omega⟩
  revert hl
  revert hn5
  revert hjj5
  revert hx5_3
  revert ls
  revert x5_3
  revert j5
  induction n5 with
  | zero =>
    intro j5 x5_3 ls hx5_3 hjj5 hn5 hl
    exact absurd hn5 (by omega)
  | succ n5 ih5 =>
    intro j5 x5_3 ls hx5_3 hjj5 hn5 hl
    refine lv_iload hx hb dX8_mixLots_5 (lv_at hl 0 rfl) ?_
    refine lv_aload_n hx hb dX8_mixLots_7 rfl (lv_at hl 2 rfl) ?_
    refine va_get (D := D) (ci := 8) (v := .ref (a 0)) (C := RX8) (T := TX8) (N := 3) hx hb hts in8 hown hK hP 0 rfl rfl 0 (by decide) (hts (.fieldLink RX8 10 "Granary" "now" "LGranary$Stock;") (by decide +kernel)) (fun _ h9 => h9) rfl dX8_mixLots_8 ?_
    refine va_get (D := D) (ci := 6) (v := .ref (a 4)) (C := RX6) (T := TX6) (N := 9) hx hb hts in6 hown hK hP 1 rfl rfl 4 (by decide) (hts (.fieldLink RX8 109 "Granary$Stock" "lots" "LGranary$Lots;") (by decide +kernel)) (fun _ h9 => h9) rfl dX8_mixLots_11 ?_
    refine va_get (D := D) (ci := 1) (v := .int (P 0 3)) (C := RX1) (T := TX1) (N := 6) hx hb hts in1 hown hK hP 5 rfl rfl 0 (by decide) (hts (.fieldLink RX8 113 "Granary$Lots" "count" "I") (by decide +kernel)) (fun _ h9 => h9) rfl dX8_mixLots_14 ?_
    have hB5 : ((P 0 3) : Int32) = nI (sg_cn P 3) := (hw.e3)
    refine lv_icmp_ge (tgt := 61) hx hb dX8_mixLots_17 (by decide) (fun c_1 => ?_) (fun c_1 => ?_)
    · have hE5 : sg_cn P 3 = j5 := (sg_eq hB5 c_1 hjj5 (by omega)).symm
      clear ih5 hn5
      subst hE5
      subst hx5_3
      refine lv_lload_n hx hb dX8_mixLots_61 rfl (lv_at hl 1 rfl) ?_
      exact W.lret (v := (sg_g_mixLots_5 P x (sg_cn P 3))) hx hb hr (fun t ht hW => ⟨(sg_g_mixLots_5 P x (sg_cn P 3)), rfl, rfl, ht⟩) hL dX8_mixLots_62
    · have hL5 : j5 < sg_cn P 3 := sg_lt hB5 c_1 (by omega)
      refine lv_iconst (v := 0) hx hb dX8_mixLots_20 (by decide) ?_
      refine lv_istore (lv' := [(6, .int 0), (5, .int (nI j5)), (3, .long x5_3), (0, .ref g), (1, .long x)]) hx hb dX8_mixLots_21 hl (by decide) rfl (fun ls hl => ?_)
      obtain ⟨j23, h0j23⟩ : ∃ j : Nat, j = 0 := ⟨_, rfl⟩
      obtain ⟨x23_3, hx23_3⟩ : ∃ z9 : Int64, z9 = sg_g_mixLots_23 P x j5 x5_3 j23 := ⟨_, rfl⟩
      replace hl : lv_has ls 7 [(6, .int (nI j23)), (5, .int (nI j5)), (3, .long x23_3), (0, .ref g), (1, .long x)] := by rw [hx23_3, h0j23]; exact hl
      have hjj23 : j23 ≤ 5 := by omega
      clear h0j23
      obtain ⟨n23, hn23⟩ : ∃ n : Nat, 5 < j23 + n := ⟨5 + 1, by omega⟩
      revert hl
      revert hn23
      revert hjj23
      revert hx23_3
      revert ls
      revert x23_3
      revert j23
      induction n23 with
      | zero =>
        intro j23 x23_3 ls hx23_3 hjj23 hn23 hl
        exact absurd hn23 (by omega)
      | succ n23 ih23 =>
        intro j23 x23_3 ls hx23_3 hjj23 hn23 hl
        refine lv_iload hx hb dX8_mixLots_23 (lv_at hl 0 rfl) ?_
        refine lv_iconst (v := 4) hx hb dX8_mixLots_25 (by decide) ?_
        have hB23 : (4 : Int32) = nI (4) := rfl
        refine lv_icmp_gt (tgt := 55) hx hb dX8_mixLots_26 (by decide) (fun c_2 => ?_) (fun c_2 => ?_)
        · have hE23 : 5 = j23 := (sg_eqg hB23 c_2 hjj23 (by omega)).symm
          clear ih23 hn23
          subst hE23
          subst hx23_3
          refine lv_iinc (v := nI (j5 + 1)) (lv' := [(5, .int (nI (j5 + 1))), (6, .int (nI 5)), (3, .long (sg_g_mixLots_23 P x j5 x5_3 5)), (0, .ref g), (1, .long x)]) hx hb dX8_mixLots_55 hl (k := 1) rfl (nI_1 j5) (by decide) rfl (fun ls hl => ?_)
          refine lv_goto (tgt := 5) hx hb dX8_mixLots_58 (by decide) ?_
          have hl8 := hl
          subst hx5_3
          exact ih5 (j5 + 1) (sg_g_mixLots_23 P x j5 (sg_g_mixLots_5 P x j5) 5) _ (show (sg_g_mixLots_23 P x j5 (sg_g_mixLots_5 P x j5) 5 : Int64) = sg_g_mixLots_5 P x (j5 + 1) from by rw [sg_g_mixLots_5]) (by omega) (by omega) (lv_sub hl8 [0, 2, 3, 4] rfl)
        · have hL23 : j23 < 5 := sg_ltg hB23 c_2 (by omega)
          refine lv_lload_n hx hb dX8_mixLots_29 rfl (lv_at hl 2 rfl) ?_
          refine lv_aload_n hx hb dX8_mixLots_30 rfl (lv_at hl 3 rfl) ?_
          refine va_get (D := D) (ci := 8) (v := .ref (a 0)) (C := RX8) (T := TX8) (N := 3) hx hb hts in8 hown hK hP 0 rfl rfl 0 (by decide) (hts (.fieldLink RX8 10 "Granary" "now" "LGranary$Stock;") (by decide +kernel)) (fun _ h9 => h9) rfl dX8_mixLots_31 ?_
          refine va_get (D := D) (ci := 6) (v := .ref (a 4)) (C := RX6) (T := TX6) (N := 9) hx hb hts in6 hown hK hP 1 rfl rfl 4 (by decide) (hts (.fieldLink RX8 109 "Granary$Stock" "lots" "LGranary$Lots;") (by decide +kernel)) (fun _ h9 => h9) rfl dX8_mixLots_34 ?_
          refine lv_iload hx hb dX8_mixLots_37 (lv_at hl 1 rfl) ?_
          refine lv_iload hx hb dX8_mixLots_39 (lv_at hl 0 rfl) ?_
          have hPc := hP.sub (ws' := [(a 4, .inr (1, [.int (P 0 3), .ref (a 40), .ref (a 41), .ref (a 42), .ref (a 43), .ref (a 44)])), (a 40, .inl (cI, 200, .inl (P 40))), (a 41, .inl (cI, 200, .inl (P 41))), (a 42, .inl (cI, 200, .inl (P 42))), (a 43, .inl (cI, 200, .inl (P 43))), (a 44, .inl (cI, 200, .inl (P 44)))]) [5, 19, 20, 21, 22, 23] rfl
          have hDc := hD.sub (ws' := [(a 4, .inr (1, [.int (P 0 3), .ref (a 40), .ref (a 41), .ref (a 42), .ref (a 43), .ref (a 44)])), (a 40, .inl (cI, 200, .inl (P 40))), (a 41, .inl (cI, 200, .inl (P 41))), (a 42, .inl (cI, 200, .inl (P 42))), (a 43, .inl (cI, 200, .inl (P 43))), (a 44, .inl (cI, 200, .inl (P 44)))]) [5, 19, 20, 21, 22, 23] (by decide) rfl
          refine vp_callSi (W.runV (As := [.int (nI j5), .int (nI j23)]) (rest := [.long x23_3]) ⟨hx, hb, hml, hown, hts⟩ (c_ltell l D cI cZ cJ lo s.heap.size a P j5 j23 (by omega) (by omega)) (cwV 2 hts gX8_mixLots_X1_tell rfl rfl rfl (by decide +kernel) ⟨(Nat.le_of_ble_eq_true rfl), (Nat.le_of_ble_eq_true rfl)⟩) ⟨Pre.blind, va_recv hK hP (ci := 1) (q0 := 5) rfl rfl, Pre.mk hPc (hDc.weaken (fun _ _ _ h => hAlo _ h)) hC hS hAlo⟩ rfl rfl hl.1 rfl (lv_room (Nat.le_of_ble_eq_true rfl)) dX8_mixLots_41 ⟨(Nat.le_of_ble_eq_true rfl), (Nat.le_of_ble_eq_true rfl)⟩) (fun r_3 e_4 => ?_)
          clear hPc hDc
          have e_4 : sg_ltell P j5 j23 = r_3 := Eq.symm e_4
          subst e_4
          refine lv_i2l (v := (sg_ltell P j5 j23).toInt64) hx hb dX8_mixLots_44 rfl ?_
          have hPc := hP.sub (ws' := []) [] rfl
          have hDc := hD.sub (ws' := []) [] (by decide) rfl
          refine vp_callSl (W.runS (As := [.long x23_3, .long ((sg_ltell P j5 j23).toInt64)]) (rest := []) ⟨hx, hb, hml, hown, hts⟩ (c_mix l D cI cZ cJ lo s.heap.size x23_3 ((sg_ltell P j5 j23).toInt64)) (va_cwS 2 hts gX8_mixLots_X8_mix rfl rfl rfl (by decide +kernel) ⟨(Nat.le_of_ble_eq_true rfl), (Nat.le_of_ble_eq_true rfl)⟩) ⟨Pre.blind, Pre.mk hPc (hDc.weaken (fun _ _ _ h => hAlo _ h)) hC hS hAlo⟩ rfl rfl hl.1 rfl (lv_room (Nat.le_of_ble_eq_true rfl)) dX8_mixLots_45 ⟨(Nat.le_of_ble_eq_true rfl), (Nat.le_of_ble_eq_true rfl)⟩) (fun r_5 e_6 => ?_)
          clear hPc hDc
          have e_6 : (x23_3 * 31) + ((sg_ltell P j5 j23).toInt64) = r_5 := Eq.symm e_6
          subst e_6
          refine lv_lstore_n (lv' := [(3, .long ((x23_3 * 31) + ((sg_ltell P j5 j23).toInt64))), (6, .int (nI j23)), (5, .int (nI j5)), (0, .ref g), (1, .long x)]) hx hb dX8_mixLots_48 rfl hl (by decide) rfl (fun ls hl => ?_)
          refine lv_iinc (v := nI (j23 + 1)) (lv' := [(6, .int (nI (j23 + 1))), (3, .long ((x23_3 * 31) + ((sg_ltell P j5 j23).toInt64))), (5, .int (nI j5)), (0, .ref g), (1, .long x)]) hx hb dX8_mixLots_49 hl (k := 1) rfl (nI_1 j23) (by decide) rfl (fun ls hl => ?_)
          refine lv_goto (tgt := 23) hx hb dX8_mixLots_52 (by decide) ?_
          have hl8 := hl
          subst hx23_3
          exact ih23 (j23 + 1) (((sg_g_mixLots_23 P x j5 x5_3 j23) * 31) + ((sg_ltell P j5 j23).toInt64)) _ (show (((sg_g_mixLots_23 P x j5 x5_3 j23) * 31) + ((sg_ltell P j5 j23).toInt64) : Int64) = sg_g_mixLots_23 P x j5 x5_3 (j23 + 1) from by rw [sg_g_mixLots_23]) (by omega) (by omega) (lv_sub hl8 [0, 2, 1, 3, 4] rfl)

def sg_g_mixOrders_23 (P : sg_Pic) (x : Int64) (j5 : Nat) (x5_3 : Int64) : Nat → Int64
  | 0 => x5_3
  | j23 + 1 => (((sg_g_mixOrders_23 P x j5 x5_3 j23) * 31) + ((sg_otell P j5 j23).toInt64))

def sg_g_mixOrders_58 (P : sg_Pic) (x : Int64) (j5 : Nat) (x5_3 : Int64) : Nat → Int64
  | 0 => sg_g_mixOrders_23 P x j5 x5_3 5
  | j58 + 1 => (if (sg_heldOf P j5 j58) ≤ 0 then (sg_g_mixOrders_58 P x j5 x5_3 j58) else (((((sg_g_mixOrders_58 P x j5 x5_3 j58) * 31) + ((nI j58).toInt64)) * 31) + ((sg_heldOf P j5 j58).toInt64)))

def sg_g_mixOrders_5 (P : sg_Pic) (x : Int64) : Nat → Int64
  | 0 => x
  | j5 + 1 => (sg_g_mixOrders_58 P x j5 (sg_g_mixOrders_5 P x j5) (sg_cn P 3))

def sg_g_mixOrders (P : sg_Pic) (x : Int64) : Int64 := (sg_g_mixOrders_5 P x (sg_cn P 4))

set_option maxHeartbeats 4000000 in
set_option maxRecDepth 100000 in
/-- X8_mixOrders -/
theorem c_g_mixOrders (l : Launch) (D : va_G) (cI cZ cJ : ClassId) (lo sz : Nat) (g : Nat) (pa : Nat → Nat) (b : Nat → Nat) (a : Nat → Nat) (P : sg_Pic) (q : Nat → Int32) (x : Int64) (hw : sg_W P) : Met l yX8_mixOrders wsX8_mixOrders ({ frames := 1, cells := 0, slots := 0, locals := 23 }) (Pre lo D cI cZ cJ [.ref g, .long x] sz ([(g, .inr (8, [.ref (a 0), .ref (b 0), .ref (pa 0)]))] ++ sg_St cI cZ a P q)) (vp_Sl (fun r => r = sg_g_mixOrders P x)) 0 0 (fun _ => False) := by
  refine Met.ofW (cc := cX8_mixOrders) (maxL := 8) (ret := (some .long)) (by decide) rfl ?_
  intro p e s m args below meth c s₁ B hml hv
  obtain ⟨rfl, hsz, hP, hD0, hC⟩ := hv
  have hx := B.exec
  have hb := B.bytes
  have hr := B.returns
  have hts := atoms_spec (ws := wsX8_mixOrders) B.pre
  have hown : s.vm.findClass RX8 = some m.cls := findClass_of_methodNamed B.named
  have hlocks := B.notSynchronized
  subst hsz
  have hn1 : sg_cn P 1 ≤ 6 := hw.n1
  have hn2 : sg_cn P 2 ≤ 5 := hw.n2
  have hn3 : sg_cn P 3 ≤ 200 := hw.n3
  have hn4 : sg_cn P 4 ≤ 60 := hw.n4
  have hn5 : sg_cn P 5 ≤ 90 := hw.n5
  have hK := hC.K
  have hD := hD0
  have hS : va_S (fun q => lo ≤ q) s.heap s.heap [] := va_S.rf
  have hAlo : ∀ q, (fun q => lo ≤ q) q → lo ≤ q := fun _ h => h
  have hL : ∀ q ∈ ([] : List Loc), (fun _ : Addr => False) q.base := fun q h => by cases h
  have hP : va_P D vwCl ([(g, .inr (8, [.ref (a 0), .ref (b 0), .ref (pa 0)]))] ++ sg_St cI cZ a P q) s.heap := hP
  have hl := lv_entry ([.ref g, .long x]) (n := 8) (Nat.le_of_ble_eq_true rfl)
  rw [lg_entry_eq]
  generalize (lg_sl ([.ref g, .long x]) ++ List.replicate (8 - (lg_sl ([.ref g, .long x])).length) Slot.unset).toArray = ls at hl ⊢
  have hl : lv_has ls 8 [(0, .ref g), (1, .long x)] := hl
  have in1 : ∀ w ∈ u_ws RX1 TX1 6, w ∈ wsX8_mixOrders := by decide +kernel
  have in2 : ∀ w ∈ u_ws RX2 TX2 11, w ∈ wsX8_mixOrders := by decide +kernel
  have in6 : ∀ w ∈ u_ws RX6 TX6 9, w ∈ wsX8_mixOrders := by decide +kernel
  have in8 : ∀ w ∈ u_ws RX8 TX8 3, w ∈ wsX8_mixOrders := by decide +kernel
  refine lv_lload_n hx hb dX8_mixOrders_0 rfl (lv_at hl 1 rfl) ?_
  refine lv_lstore_n (lv' := [(3, .long x), (0, .ref g), (1, .long x)]) hx hb dX8_mixOrders_1 rfl hl (by decide) rfl (fun ls hl => ?_)
  refine lv_iconst (v := 0) hx hb dX8_mixOrders_2 (by decide) ?_
  refine lv_istore (lv' := [(5, .int 0), (3, .long x), (0, .ref g), (1, .long x)]) hx hb dX8_mixOrders_3 hl (by decide) rfl (fun ls hl => ?_)
  obtain ⟨j5, h0j5⟩ : ∃ j : Nat, j = 0 := ⟨_, rfl⟩
  obtain ⟨x5_3, hx5_3⟩ : ∃ z9 : Int64, z9 = sg_g_mixOrders_5 P x j5 := ⟨_, rfl⟩
  replace hl : lv_has ls 8 [(5, .int (nI j5)), (3, .long x5_3), (0, .ref g), (1, .long x)] := by rw [hx5_3, h0j5]; exact hl
  have hjj5 : j5 ≤ sg_cn P 4 := by omega
  clear h0j5
  obtain ⟨n5, hn5⟩ : ∃ n : Nat, sg_cn P 4 < j5 + n := ⟨sg_cn P 4 + 1, by omega⟩
  revert hl
  revert hn5
  revert hjj5
  revert hx5_3
  revert ls
  revert x5_3
  revert j5
  induction n5 with
  | zero =>
    intro j5 x5_3 ls hx5_3 hjj5 hn5 hl
    exact absurd hn5 (by omega)
  | succ n5 ih5 =>
    intro j5 x5_3 ls hx5_3 hjj5 hn5 hl
    refine lv_iload hx hb dX8_mixOrders_5 (lv_at hl 0 rfl) ?_
    refine lv_aload_n hx hb dX8_mixOrders_7 rfl (lv_at hl 2 rfl) ?_
    refine va_get (D := D) (ci := 8) (v := .ref (a 0)) (C := RX8) (T := TX8) (N := 3) hx hb hts in8 hown hK hP 0 rfl rfl 0 (by decide) (hts (.fieldLink RX8 10 "Granary" "now" "LGranary$Stock;") (by decide +kernel)) (fun _ h9 => h9) rfl dX8_mixOrders_8 ?_
    refine va_get (D := D) (ci := 6) (v := .ref (a 5)) (C := RX6) (T := TX6) (N := 9) hx hb hts in6 hown hK hP 1 rfl rfl 5 (by decide) (hts (.fieldLink RX8 131 "Granary$Stock" "orders" "LGranary$Orders;") (by decide +kernel)) (fun _ h9 => h9) rfl dX8_mixOrders_11 ?_
    refine va_get (D := D) (ci := 2) (v := .int (P 0 4)) (C := RX2) (T := TX2) (N := 11) hx hb hts in2 hown hK hP 6 rfl rfl 0 (by decide) (hts (.fieldLink RX8 135 "Granary$Orders" "count" "I") (by decide +kernel)) (fun _ h9 => h9) rfl dX8_mixOrders_14 ?_
    have hB5 : ((P 0 4) : Int32) = nI (sg_cn P 4) := (hw.e4)
    refine lv_icmp_ge (tgt := 120) hx hb dX8_mixOrders_17 (by decide) (fun c_1 => ?_) (fun c_1 => ?_)
    · have hE5 : sg_cn P 4 = j5 := (sg_eq hB5 c_1 hjj5 (by omega)).symm
      clear ih5 hn5
      subst hE5
      subst hx5_3
      refine lv_lload_n hx hb dX8_mixOrders_120 rfl (lv_at hl 1 rfl) ?_
      exact W.lret (v := (sg_g_mixOrders_5 P x (sg_cn P 4))) hx hb hr (fun t ht hW => ⟨(sg_g_mixOrders_5 P x (sg_cn P 4)), rfl, rfl, ht⟩) hL dX8_mixOrders_121
    · have hL5 : j5 < sg_cn P 4 := sg_lt hB5 c_1 (by omega)
      refine lv_iconst (v := 0) hx hb dX8_mixOrders_20 (by decide) ?_
      refine lv_istore (lv' := [(6, .int 0), (5, .int (nI j5)), (3, .long x5_3), (0, .ref g), (1, .long x)]) hx hb dX8_mixOrders_21 hl (by decide) rfl (fun ls hl => ?_)
      obtain ⟨j23, h0j23⟩ : ∃ j : Nat, j = 0 := ⟨_, rfl⟩
      obtain ⟨x23_3, hx23_3⟩ : ∃ z9 : Int64, z9 = sg_g_mixOrders_23 P x j5 x5_3 j23 := ⟨_, rfl⟩
      replace hl : lv_has ls 8 [(6, .int (nI j23)), (5, .int (nI j5)), (3, .long x23_3), (0, .ref g), (1, .long x)] := by rw [hx23_3, h0j23]; exact hl
      have hjj23 : j23 ≤ 5 := by omega
      clear h0j23
      obtain ⟨n23, hn23⟩ : ∃ n : Nat, 5 < j23 + n := ⟨5 + 1, by omega⟩
      revert hl
      revert hn23
      revert hjj23
      revert hx23_3
      revert ls
      revert x23_3
      revert j23
      induction n23 with
      | zero =>
        intro j23 x23_3 ls hx23_3 hjj23 hn23 hl
        exact absurd hn23 (by omega)
      | succ n23 ih23 =>
        intro j23 x23_3 ls hx23_3 hjj23 hn23 hl
        refine lv_iload hx hb dX8_mixOrders_23 (lv_at hl 0 rfl) ?_
        refine lv_iconst (v := 4) hx hb dX8_mixOrders_25 (by decide) ?_
        have hB23 : (4 : Int32) = nI (4) := rfl
        refine lv_icmp_gt (tgt := 55) hx hb dX8_mixOrders_26 (by decide) (fun c_2 => ?_) (fun c_2 => ?_)
        · have hE23 : 5 = j23 := (sg_eqg hB23 c_2 hjj23 (by omega)).symm
          clear ih23 hn23
          subst hE23
          subst hx23_3
          refine lv_iconst (v := 0) hx hb dX8_mixOrders_55 (by decide) ?_
          refine lv_istore (lv' := [(6, .int 0), (5, .int (nI j5)), (3, .long (sg_g_mixOrders_23 P x j5 x5_3 5)), (0, .ref g), (1, .long x)]) hx hb dX8_mixOrders_56 hl (by decide) rfl (fun ls hl => ?_)
          obtain ⟨j58, h0j58⟩ : ∃ j : Nat, j = 0 := ⟨_, rfl⟩
          obtain ⟨x58_3, hx58_3⟩ : ∃ z9 : Int64, z9 = sg_g_mixOrders_58 P x j5 x5_3 j58 := ⟨_, rfl⟩
          replace hl : lv_has ls 8 [(6, .int (nI j58)), (5, .int (nI j5)), (3, .long x58_3), (0, .ref g), (1, .long x)] := by rw [hx58_3, h0j58]; exact hl
          have hjj58 : j58 ≤ sg_cn P 3 := by omega
          clear h0j58
          obtain ⟨n58, hn58⟩ : ∃ n : Nat, sg_cn P 3 < j58 + n := ⟨sg_cn P 3 + 1, by omega⟩
          revert hl
          revert hn58
          revert hjj58
          revert hx58_3
          revert ls
          revert x58_3
          revert j58
          induction n58 with
          | zero =>
            intro j58 x58_3 ls hx58_3 hjj58 hn58 hl
            exact absurd hn58 (by omega)
          | succ n58 ih58 =>
            intro j58 x58_3 ls hx58_3 hjj58 hn58 hl
            refine lv_iload hx hb dX8_mixOrders_58 (lv_at hl 0 rfl) ?_
            refine lv_aload_n hx hb dX8_mixOrders_60 rfl (lv_at hl 3 rfl) ?_
            refine va_get (D := D) (ci := 8) (v := .ref (a 0)) (C := RX8) (T := TX8) (N := 3) hx hb hts in8 hown hK hP 0 rfl rfl 0 (by decide) (hts (.fieldLink RX8 10 "Granary" "now" "LGranary$Stock;") (by decide +kernel)) (fun _ h9 => h9) rfl dX8_mixOrders_61 ?_
            refine va_get (D := D) (ci := 6) (v := .ref (a 4)) (C := RX6) (T := TX6) (N := 9) hx hb hts in6 hown hK hP 1 rfl rfl 4 (by decide) (hts (.fieldLink RX8 109 "Granary$Stock" "lots" "LGranary$Lots;") (by decide +kernel)) (fun _ h9 => h9) rfl dX8_mixOrders_64 ?_
            refine va_get (D := D) (ci := 1) (v := .int (P 0 3)) (C := RX1) (T := TX1) (N := 6) hx hb hts in1 hown hK hP 5 rfl rfl 0 (by decide) (hts (.fieldLink RX8 113 "Granary$Lots" "count" "I") (by decide +kernel)) (fun _ h9 => h9) rfl dX8_mixOrders_67 ?_
            have hB58 : ((P 0 3) : Int32) = nI (sg_cn P 3) := (hw.e3)
            refine lv_icmp_ge (tgt := 114) hx hb dX8_mixOrders_70 (by decide) (fun c_3 => ?_) (fun c_3 => ?_)
            · have hE58 : sg_cn P 3 = j58 := (sg_eq hB58 c_3 hjj58 (by omega)).symm
              clear ih58 hn58
              subst hE58
              subst hx58_3
              refine lv_iinc (v := nI (j5 + 1)) (lv' := [(5, .int (nI (j5 + 1))), (6, .int (nI (sg_cn P 3))), (3, .long (sg_g_mixOrders_58 P x j5 x5_3 (sg_cn P 3))), (0, .ref g), (1, .long x)]) hx hb dX8_mixOrders_114 hl (k := 1) rfl (nI_1 j5) (by decide) rfl (fun ls hl => ?_)
              refine lv_goto (tgt := 5) hx hb dX8_mixOrders_117 (by decide) ?_
              have hl8 := hl
              subst hx5_3
              exact ih5 (j5 + 1) (sg_g_mixOrders_58 P x j5 (sg_g_mixOrders_5 P x j5) (sg_cn P 3)) _ (show (sg_g_mixOrders_58 P x j5 (sg_g_mixOrders_5 P x j5) (sg_cn P 3) : Int64) = sg_g_mixOrders_5 P x (j5 + 1) from by rw [sg_g_mixOrders_5]) (by omega) (by omega) (lv_sub hl8 [0, 2, 3, 4] rfl)
            · have hL58 : j58 < sg_cn P 3 := sg_lt hB58 c_3 (by omega)
              refine lv_aload_n hx hb dX8_mixOrders_73 rfl (lv_at hl 3 rfl) ?_
              refine va_get (D := D) (ci := 8) (v := .ref (a 0)) (C := RX8) (T := TX8) (N := 3) hx hb hts in8 hown hK hP 0 rfl rfl 0 (by decide) (hts (.fieldLink RX8 10 "Granary" "now" "LGranary$Stock;") (by decide +kernel)) (fun _ h9 => h9) rfl dX8_mixOrders_74 ?_
              refine va_get (D := D) (ci := 6) (v := .ref (a 5)) (C := RX6) (T := TX6) (N := 9) hx hb hts in6 hown hK hP 1 rfl rfl 5 (by decide) (hts (.fieldLink RX8 131 "Granary$Stock" "orders" "LGranary$Orders;") (by decide +kernel)) (fun _ h9 => h9) rfl dX8_mixOrders_77 ?_
              refine lv_iload hx hb dX8_mixOrders_80 (lv_at hl 1 rfl) ?_
              refine lv_iload hx hb dX8_mixOrders_82 (lv_at hl 0 rfl) ?_
              have hPc := hP.sub (ws' := [(a 5, .inr (2, [.int (P 0 4), .ref (a 50), .ref (a 51), .ref (a 52), .ref (a 53), .ref (a 54), .ref (a 55), .ref (a 56), .ref (a 57), .ref (a 58), .ref (a 59)])), (a 59, .inl (cI, 12000, .inl (P 59)))]) [6, 33] rfl
              have hDc := hD.sub (ws' := [(a 5, .inr (2, [.int (P 0 4), .ref (a 50), .ref (a 51), .ref (a 52), .ref (a 53), .ref (a 54), .ref (a 55), .ref (a 56), .ref (a 57), .ref (a 58), .ref (a 59)])), (a 59, .inl (cI, 12000, .inl (P 59)))]) [6, 33] (by decide) rfl
              refine vp_callSi (W.runV (As := [.int (nI j5), .int (nI j58)]) (rest := []) ⟨hx, hb, hml, hown, hts⟩ (c_heldOf l D cI cZ cJ lo s.heap.size a P j5 j58 (by omega) (by omega)) (cwV 2 hts gX8_mixOrders_X2_heldOf rfl rfl rfl (by decide +kernel) ⟨(Nat.le_of_ble_eq_true rfl), (Nat.le_of_ble_eq_true rfl)⟩) ⟨Pre.blind, va_recv hK hP (ci := 2) (q0 := 6) rfl rfl, Pre.mk hPc (hDc.weaken (fun _ _ _ h => hAlo _ h)) hC hS hAlo⟩ rfl rfl hl.1 rfl (lv_room (Nat.le_of_ble_eq_true rfl)) dX8_mixOrders_84 ⟨(Nat.le_of_ble_eq_true rfl), (Nat.le_of_ble_eq_true rfl)⟩) (fun r_4 e_5 => ?_)
              clear hPc hDc
              have e_5 : sg_heldOf P j5 j58 = r_4 := Eq.symm e_5
              subst e_5
              refine lv_istore (lv' := [(7, .int (sg_heldOf P j5 j58)), (6, .int (nI j58)), (5, .int (nI j5)), (3, .long x58_3), (0, .ref g), (1, .long x)]) hx hb dX8_mixOrders_87 hl (by decide) rfl (fun ls hl => ?_)
              refine lv_iload hx hb dX8_mixOrders_89 (lv_at hl 0 rfl) ?_
              refine lv_if_le (tgt := 108) hx hb dX8_mixOrders_91 (by decide) (fun c_6 => ?_) (fun c_6 => ?_)
              · refine lv_iinc (v := nI (j58 + 1)) (lv' := [(6, .int (nI (j58 + 1))), (7, .int (sg_heldOf P j5 j58)), (5, .int (nI j5)), (3, .long x58_3), (0, .ref g), (1, .long x)]) hx hb dX8_mixOrders_108 hl (k := 1) rfl (nI_1 j58) (by decide) rfl (fun ls hl => ?_)
                refine lv_goto (tgt := 58) hx hb dX8_mixOrders_111 (by decide) ?_
                have hl8 := hl
                subst hx58_3
                exact ih58 (j58 + 1) (sg_g_mixOrders_58 P x j5 x5_3 j58) _ (show ((sg_g_mixOrders_58 P x j5 x5_3 j58) : Int64) = sg_g_mixOrders_58 P x j5 x5_3 (j58 + 1) from by rw [sg_g_mixOrders_58, if_pos c_6]) (by omega) (by omega) (lv_sub hl8 [0, 2, 3, 4, 5] rfl)
              · refine lv_lload_n hx hb dX8_mixOrders_94 rfl (lv_at hl 3 rfl) ?_
                refine lv_iload hx hb dX8_mixOrders_95 (lv_at hl 1 rfl) ?_
                refine lv_i2l (v := (nI j58).toInt64) hx hb dX8_mixOrders_97 rfl ?_
                have hPc := hP.sub (ws' := []) [] rfl
                have hDc := hD.sub (ws' := []) [] (by decide) rfl
                refine vp_callSl (W.runS (As := [.long x58_3, .long ((nI j58).toInt64)]) (rest := []) ⟨hx, hb, hml, hown, hts⟩ (c_mix l D cI cZ cJ lo s.heap.size x58_3 ((nI j58).toInt64)) (va_cwS 2 hts gX8_mixOrders_X8_mix rfl rfl rfl (by decide +kernel) ⟨(Nat.le_of_ble_eq_true rfl), (Nat.le_of_ble_eq_true rfl)⟩) ⟨Pre.blind, Pre.mk hPc (hDc.weaken (fun _ _ _ h => hAlo _ h)) hC hS hAlo⟩ rfl rfl hl.1 rfl (lv_room (Nat.le_of_ble_eq_true rfl)) dX8_mixOrders_98 ⟨(Nat.le_of_ble_eq_true rfl), (Nat.le_of_ble_eq_true rfl)⟩) (fun r_7 e_8 => ?_)
                clear hPc hDc
                have e_8 : (x58_3 * 31) + ((nI j58).toInt64) = r_7 := Eq.symm e_8
                subst e_8
                refine lv_iload hx hb dX8_mixOrders_101 (lv_at hl 0 rfl) ?_
                refine lv_i2l (v := (sg_heldOf P j5 j58).toInt64) hx hb dX8_mixOrders_103 rfl ?_
                have hPc := hP.sub (ws' := []) [] rfl
                have hDc := hD.sub (ws' := []) [] (by decide) rfl
                refine vp_callSl (W.runS (As := [.long ((x58_3 * 31) + ((nI j58).toInt64)), .long ((sg_heldOf P j5 j58).toInt64)]) (rest := []) ⟨hx, hb, hml, hown, hts⟩ (c_mix l D cI cZ cJ lo s.heap.size ((x58_3 * 31) + ((nI j58).toInt64)) ((sg_heldOf P j5 j58).toInt64)) (va_cwS 2 hts gX8_mixOrders_X8_mix rfl rfl rfl (by decide +kernel) ⟨(Nat.le_of_ble_eq_true rfl), (Nat.le_of_ble_eq_true rfl)⟩) ⟨Pre.blind, Pre.mk hPc (hDc.weaken (fun _ _ _ h => hAlo _ h)) hC hS hAlo⟩ rfl rfl hl.1 rfl (lv_room (Nat.le_of_ble_eq_true rfl)) dX8_mixOrders_104 ⟨(Nat.le_of_ble_eq_true rfl), (Nat.le_of_ble_eq_true rfl)⟩) (fun r_9 e_10 => ?_)
                clear hPc hDc
                have e_10 : (((x58_3 * 31) + ((nI j58).toInt64)) * 31) + ((sg_heldOf P j5 j58).toInt64) = r_9 := Eq.symm e_10
                subst e_10
                refine lv_lstore_n (lv' := [(3, .long ((((x58_3 * 31) + ((nI j58).toInt64)) * 31) + ((sg_heldOf P j5 j58).toInt64))), (7, .int (sg_heldOf P j5 j58)), (6, .int (nI j58)), (5, .int (nI j5)), (0, .ref g), (1, .long x)]) hx hb dX8_mixOrders_107 rfl hl (by decide) rfl (fun ls hl => ?_)
                refine lv_iinc (v := nI (j58 + 1)) (lv' := [(6, .int (nI (j58 + 1))), (3, .long ((((x58_3 * 31) + ((nI j58).toInt64)) * 31) + ((sg_heldOf P j5 j58).toInt64))), (7, .int (sg_heldOf P j5 j58)), (5, .int (nI j5)), (0, .ref g), (1, .long x)]) hx hb dX8_mixOrders_108 hl (k := 2) rfl (nI_1 j58) (by decide) rfl (fun ls hl => ?_)
                refine lv_goto (tgt := 58) hx hb dX8_mixOrders_111 (by decide) ?_
                have hl8 := hl
                subst hx58_3
                exact ih58 (j58 + 1) (((((sg_g_mixOrders_58 P x j5 x5_3 j58) * 31) + ((nI j58).toInt64)) * 31) + ((sg_heldOf P j5 j58).toInt64)) _ (show (((((sg_g_mixOrders_58 P x j5 x5_3 j58) * 31) + ((nI j58).toInt64)) * 31) + ((sg_heldOf P j5 j58).toInt64) : Int64) = sg_g_mixOrders_58 P x j5 x5_3 (j58 + 1) from by rw [sg_g_mixOrders_58, if_neg c_6]) (by omega) (by omega) (lv_sub hl8 [0, 3, 1, 4, 5] rfl)
        · have hL23 : j23 < 5 := sg_ltg hB23 c_2 (by omega)
          refine lv_lload_n hx hb dX8_mixOrders_29 rfl (lv_at hl 2 rfl) ?_
          refine lv_aload_n hx hb dX8_mixOrders_30 rfl (lv_at hl 3 rfl) ?_
          refine va_get (D := D) (ci := 8) (v := .ref (a 0)) (C := RX8) (T := TX8) (N := 3) hx hb hts in8 hown hK hP 0 rfl rfl 0 (by decide) (hts (.fieldLink RX8 10 "Granary" "now" "LGranary$Stock;") (by decide +kernel)) (fun _ h9 => h9) rfl dX8_mixOrders_31 ?_
          refine va_get (D := D) (ci := 6) (v := .ref (a 5)) (C := RX6) (T := TX6) (N := 9) hx hb hts in6 hown hK hP 1 rfl rfl 5 (by decide) (hts (.fieldLink RX8 131 "Granary$Stock" "orders" "LGranary$Orders;") (by decide +kernel)) (fun _ h9 => h9) rfl dX8_mixOrders_34 ?_
          refine lv_iload hx hb dX8_mixOrders_37 (lv_at hl 1 rfl) ?_
          refine lv_iload hx hb dX8_mixOrders_39 (lv_at hl 0 rfl) ?_
          have hPc := hP.sub (ws' := [(a 5, .inr (2, [.int (P 0 4), .ref (a 50), .ref (a 51), .ref (a 52), .ref (a 53), .ref (a 54), .ref (a 55), .ref (a 56), .ref (a 57), .ref (a 58), .ref (a 59)])), (a 50, .inl (cI, 60, .inl (P 50))), (a 51, .inl (cI, 60, .inl (P 51))), (a 52, .inl (cI, 60, .inl (P 52))), (a 53, .inl (cI, 60, .inl (P 53))), (a 54, .inl (cI, 60, .inl (P 54))), (a 55, .inl (cI, 60, .inl (P 55))), (a 56, .inl (cI, 60, .inl (P 56))), (a 57, .inl (cI, 60, .inl (P 57))), (a 58, .inl (cI, 60, .inl (P 58))), (a 59, .inl (cI, 12000, .inl (P 59)))]) [6, 24, 25, 26, 27, 28, 29, 30, 31, 32, 33] rfl
          have hDc := hD.sub (ws' := [(a 5, .inr (2, [.int (P 0 4), .ref (a 50), .ref (a 51), .ref (a 52), .ref (a 53), .ref (a 54), .ref (a 55), .ref (a 56), .ref (a 57), .ref (a 58), .ref (a 59)])), (a 50, .inl (cI, 60, .inl (P 50))), (a 51, .inl (cI, 60, .inl (P 51))), (a 52, .inl (cI, 60, .inl (P 52))), (a 53, .inl (cI, 60, .inl (P 53))), (a 54, .inl (cI, 60, .inl (P 54))), (a 55, .inl (cI, 60, .inl (P 55))), (a 56, .inl (cI, 60, .inl (P 56))), (a 57, .inl (cI, 60, .inl (P 57))), (a 58, .inl (cI, 60, .inl (P 58))), (a 59, .inl (cI, 12000, .inl (P 59)))]) [6, 24, 25, 26, 27, 28, 29, 30, 31, 32, 33] (by decide) rfl
          refine vp_callSi (W.runV (As := [.int (nI j5), .int (nI j23)]) (rest := [.long x23_3]) ⟨hx, hb, hml, hown, hts⟩ (c_otell l D cI cZ cJ lo s.heap.size a P j5 j23 (by omega) (by omega)) (cwV 2 hts gX8_mixOrders_X2_tell rfl rfl rfl (by decide +kernel) ⟨(Nat.le_of_ble_eq_true rfl), (Nat.le_of_ble_eq_true rfl)⟩) ⟨Pre.blind, va_recv hK hP (ci := 2) (q0 := 6) rfl rfl, Pre.mk hPc (hDc.weaken (fun _ _ _ h => hAlo _ h)) hC hS hAlo⟩ rfl rfl hl.1 rfl (lv_room (Nat.le_of_ble_eq_true rfl)) dX8_mixOrders_41 ⟨(Nat.le_of_ble_eq_true rfl), (Nat.le_of_ble_eq_true rfl)⟩) (fun r_11 e_12 => ?_)
          clear hPc hDc
          have e_12 : sg_otell P j5 j23 = r_11 := Eq.symm e_12
          subst e_12
          refine lv_i2l (v := (sg_otell P j5 j23).toInt64) hx hb dX8_mixOrders_44 rfl ?_
          have hPc := hP.sub (ws' := []) [] rfl
          have hDc := hD.sub (ws' := []) [] (by decide) rfl
          refine vp_callSl (W.runS (As := [.long x23_3, .long ((sg_otell P j5 j23).toInt64)]) (rest := []) ⟨hx, hb, hml, hown, hts⟩ (c_mix l D cI cZ cJ lo s.heap.size x23_3 ((sg_otell P j5 j23).toInt64)) (va_cwS 2 hts gX8_mixOrders_X8_mix rfl rfl rfl (by decide +kernel) ⟨(Nat.le_of_ble_eq_true rfl), (Nat.le_of_ble_eq_true rfl)⟩) ⟨Pre.blind, Pre.mk hPc (hDc.weaken (fun _ _ _ h => hAlo _ h)) hC hS hAlo⟩ rfl rfl hl.1 rfl (lv_room (Nat.le_of_ble_eq_true rfl)) dX8_mixOrders_45 ⟨(Nat.le_of_ble_eq_true rfl), (Nat.le_of_ble_eq_true rfl)⟩) (fun r_13 e_14 => ?_)
          clear hPc hDc
          have e_14 : (x23_3 * 31) + ((sg_otell P j5 j23).toInt64) = r_13 := Eq.symm e_14
          subst e_14
          refine lv_lstore_n (lv' := [(3, .long ((x23_3 * 31) + ((sg_otell P j5 j23).toInt64))), (6, .int (nI j23)), (5, .int (nI j5)), (0, .ref g), (1, .long x)]) hx hb dX8_mixOrders_48 rfl hl (by decide) rfl (fun ls hl => ?_)
          refine lv_iinc (v := nI (j23 + 1)) (lv' := [(6, .int (nI (j23 + 1))), (3, .long ((x23_3 * 31) + ((sg_otell P j5 j23).toInt64))), (5, .int (nI j5)), (0, .ref g), (1, .long x)]) hx hb dX8_mixOrders_49 hl (k := 1) rfl (nI_1 j23) (by decide) rfl (fun ls hl => ?_)
          refine lv_goto (tgt := 23) hx hb dX8_mixOrders_52 (by decide) ?_
          have hl8 := hl
          subst hx23_3
          exact ih23 (j23 + 1) (((sg_g_mixOrders_23 P x j5 x5_3 j23) * 31) + ((sg_otell P j5 j23).toInt64)) _ (show (((sg_g_mixOrders_23 P x j5 x5_3 j23) * 31) + ((sg_otell P j5 j23).toInt64) : Int64) = sg_g_mixOrders_23 P x j5 x5_3 (j23 + 1) from by rw [sg_g_mixOrders_23]) (by omega) (by omega) (lv_sub hl8 [0, 2, 1, 3, 4] rfl)

def sg_g_mixTransports_23 (P : sg_Pic) (x : Int64) (j5 : Nat) (x5_3 : Int64) : Nat → Int64
  | 0 => x5_3
  | j23 + 1 => (((sg_g_mixTransports_23 P x j5 x5_3 j23) * 31) + ((sg_ttell P j5 j23).toInt64))

def sg_g_mixTransports_5 (P : sg_Pic) (x : Int64) : Nat → Int64
  | 0 => x
  | j5 + 1 => (sg_g_mixTransports_23 P x j5 (sg_g_mixTransports_5 P x j5) 6)

def sg_g_mixTransports (P : sg_Pic) (x : Int64) : Int64 := (sg_g_mixTransports_5 P x (sg_cn P 5))

set_option maxHeartbeats 4000000 in
set_option maxRecDepth 100000 in
/-- X8_mixTransports -/
theorem c_g_mixTransports (l : Launch) (D : va_G) (cI cZ cJ : ClassId) (lo sz : Nat) (g : Nat) (pa : Nat → Nat) (b : Nat → Nat) (a : Nat → Nat) (P : sg_Pic) (q : Nat → Int32) (x : Int64) (hw : sg_W P) : Met l yX8_mixTransports wsX8_mixTransports ({ frames := 1, cells := 0, slots := 0, locals := 23 }) (Pre lo D cI cZ cJ [.ref g, .long x] sz ([(g, .inr (8, [.ref (a 0), .ref (b 0), .ref (pa 0)]))] ++ sg_St cI cZ a P q)) (vp_Sl (fun r => r = sg_g_mixTransports P x)) 0 0 (fun _ => False) := by
  refine Met.ofW (cc := cX8_mixTransports) (maxL := 7) (ret := (some .long)) (by decide) rfl ?_
  intro p e s m args below meth c s₁ B hml hv
  obtain ⟨rfl, hsz, hP, hD0, hC⟩ := hv
  have hx := B.exec
  have hb := B.bytes
  have hr := B.returns
  have hts := atoms_spec (ws := wsX8_mixTransports) B.pre
  have hown : s.vm.findClass RX8 = some m.cls := findClass_of_methodNamed B.named
  have hlocks := B.notSynchronized
  subst hsz
  have hn1 : sg_cn P 1 ≤ 6 := hw.n1
  have hn2 : sg_cn P 2 ≤ 5 := hw.n2
  have hn3 : sg_cn P 3 ≤ 200 := hw.n3
  have hn4 : sg_cn P 4 ≤ 60 := hw.n4
  have hn5 : sg_cn P 5 ≤ 90 := hw.n5
  have hK := hC.K
  have hD := hD0
  have hS : va_S (fun q => lo ≤ q) s.heap s.heap [] := va_S.rf
  have hAlo : ∀ q, (fun q => lo ≤ q) q → lo ≤ q := fun _ h => h
  have hL : ∀ q ∈ ([] : List Loc), (fun _ : Addr => False) q.base := fun q h => by cases h
  have hP : va_P D vwCl ([(g, .inr (8, [.ref (a 0), .ref (b 0), .ref (pa 0)]))] ++ sg_St cI cZ a P q) s.heap := hP
  have hl := lv_entry ([.ref g, .long x]) (n := 7) (Nat.le_of_ble_eq_true rfl)
  rw [lg_entry_eq]
  generalize (lg_sl ([.ref g, .long x]) ++ List.replicate (7 - (lg_sl ([.ref g, .long x])).length) Slot.unset).toArray = ls at hl ⊢
  have hl : lv_has ls 7 [(0, .ref g), (1, .long x)] := hl
  have in6 : ∀ w ∈ u_ws RX6 TX6 9, w ∈ wsX8_mixTransports := by decide +kernel
  have in7 : ∀ w ∈ u_ws RX7 TX7 7, w ∈ wsX8_mixTransports := by decide +kernel
  have in8 : ∀ w ∈ u_ws RX8 TX8 3, w ∈ wsX8_mixTransports := by decide +kernel
  refine lv_lload_n hx hb dX8_mixTransports_0 rfl (lv_at hl 1 rfl) ?_
  refine lv_lstore_n (lv' := [(3, .long x), (0, .ref g), (1, .long x)]) hx hb dX8_mixTransports_1 rfl hl (by decide) rfl (fun ls hl => ?_)
  refine lv_iconst (v := 0) hx hb dX8_mixTransports_2 (by decide) ?_
  refine lv_istore (lv' := [(5, .int 0), (3, .long x), (0, .ref g), (1, .long x)]) hx hb dX8_mixTransports_3 hl (by decide) rfl (fun ls hl => ?_)
  obtain ⟨j5, h0j5⟩ : ∃ j : Nat, j = 0 := ⟨_, rfl⟩
  obtain ⟨x5_3, hx5_3⟩ : ∃ z9 : Int64, z9 = sg_g_mixTransports_5 P x j5 := ⟨_, rfl⟩
  replace hl : lv_has ls 7 [(5, .int (nI j5)), (3, .long x5_3), (0, .ref g), (1, .long x)] := by rw [hx5_3, h0j5]; exact hl
  have hjj5 : j5 ≤ sg_cn P 5 := by omega
  clear h0j5
  obtain ⟨n5, hn5⟩ : ∃ n : Nat, sg_cn P 5 < j5 + n := ⟨sg_cn P 5 + 1, by omega⟩
  revert hl
  revert hn5
  revert hjj5
  revert hx5_3
  revert ls
  revert x5_3
  revert j5
  induction n5 with
  | zero =>
    intro j5 x5_3 ls hx5_3 hjj5 hn5 hl
    exact absurd hn5 (by omega)
  | succ n5 ih5 =>
    intro j5 x5_3 ls hx5_3 hjj5 hn5 hl
    refine lv_iload hx hb dX8_mixTransports_5 (lv_at hl 0 rfl) ?_
    refine lv_aload_n hx hb dX8_mixTransports_7 rfl (lv_at hl 2 rfl) ?_
    refine va_get (D := D) (ci := 8) (v := .ref (a 0)) (C := RX8) (T := TX8) (N := 3) hx hb hts in8 hown hK hP 0 rfl rfl 0 (by decide) (hts (.fieldLink RX8 10 "Granary" "now" "LGranary$Stock;") (by decide +kernel)) (fun _ h9 => h9) rfl dX8_mixTransports_8 ?_
    refine va_get (D := D) (ci := 6) (v := .ref (a 6)) (C := RX6) (T := TX6) (N := 9) hx hb hts in6 hown hK hP 1 rfl rfl 6 (by decide) (hts (.fieldLink RX8 183 "Granary$Stock" "transports" "LGranary$Transports;") (by decide +kernel)) (fun _ h9 => h9) rfl dX8_mixTransports_11 ?_
    refine va_get (D := D) (ci := 7) (v := .int (P 0 5)) (C := RX7) (T := TX7) (N := 7) hx hb hts in7 hown hK hP 7 rfl rfl 0 (by decide) (hts (.fieldLink RX8 187 "Granary$Transports" "count" "I") (by decide +kernel)) (fun _ h9 => h9) rfl dX8_mixTransports_14 ?_
    have hB5 : ((P 0 5) : Int32) = nI (sg_cn P 5) := (hw.e5)
    refine lv_icmp_ge (tgt := 61) hx hb dX8_mixTransports_17 (by decide) (fun c_1 => ?_) (fun c_1 => ?_)
    · have hE5 : sg_cn P 5 = j5 := (sg_eq hB5 c_1 hjj5 (by omega)).symm
      clear ih5 hn5
      subst hE5
      subst hx5_3
      refine lv_lload_n hx hb dX8_mixTransports_61 rfl (lv_at hl 1 rfl) ?_
      exact W.lret (v := (sg_g_mixTransports_5 P x (sg_cn P 5))) hx hb hr (fun t ht hW => ⟨(sg_g_mixTransports_5 P x (sg_cn P 5)), rfl, rfl, ht⟩) hL dX8_mixTransports_62
    · have hL5 : j5 < sg_cn P 5 := sg_lt hB5 c_1 (by omega)
      refine lv_iconst (v := 0) hx hb dX8_mixTransports_20 (by decide) ?_
      refine lv_istore (lv' := [(6, .int 0), (5, .int (nI j5)), (3, .long x5_3), (0, .ref g), (1, .long x)]) hx hb dX8_mixTransports_21 hl (by decide) rfl (fun ls hl => ?_)
      obtain ⟨j23, h0j23⟩ : ∃ j : Nat, j = 0 := ⟨_, rfl⟩
      obtain ⟨x23_3, hx23_3⟩ : ∃ z9 : Int64, z9 = sg_g_mixTransports_23 P x j5 x5_3 j23 := ⟨_, rfl⟩
      replace hl : lv_has ls 7 [(6, .int (nI j23)), (5, .int (nI j5)), (3, .long x23_3), (0, .ref g), (1, .long x)] := by rw [hx23_3, h0j23]; exact hl
      have hjj23 : j23 ≤ 6 := by omega
      clear h0j23
      obtain ⟨n23, hn23⟩ : ∃ n : Nat, 6 < j23 + n := ⟨6 + 1, by omega⟩
      revert hl
      revert hn23
      revert hjj23
      revert hx23_3
      revert ls
      revert x23_3
      revert j23
      induction n23 with
      | zero =>
        intro j23 x23_3 ls hx23_3 hjj23 hn23 hl
        exact absurd hn23 (by omega)
      | succ n23 ih23 =>
        intro j23 x23_3 ls hx23_3 hjj23 hn23 hl
        refine lv_iload hx hb dX8_mixTransports_23 (lv_at hl 0 rfl) ?_
        refine lv_iconst (v := 5) hx hb dX8_mixTransports_25 (by decide) ?_
        have hB23 : (5 : Int32) = nI (5) := rfl
        refine lv_icmp_gt (tgt := 55) hx hb dX8_mixTransports_26 (by decide) (fun c_2 => ?_) (fun c_2 => ?_)
        · have hE23 : 6 = j23 := (sg_eqg hB23 c_2 hjj23 (by omega)).symm
          clear ih23 hn23
          subst hE23
          subst hx23_3
          refine lv_iinc (v := nI (j5 + 1)) (lv' := [(5, .int (nI (j5 + 1))), (6, .int (nI 6)), (3, .long (sg_g_mixTransports_23 P x j5 x5_3 6)), (0, .ref g), (1, .long x)]) hx hb dX8_mixTransports_55 hl (k := 1) rfl (nI_1 j5) (by decide) rfl (fun ls hl => ?_)
          refine lv_goto (tgt := 5) hx hb dX8_mixTransports_58 (by decide) ?_
          have hl8 := hl
          subst hx5_3
          exact ih5 (j5 + 1) (sg_g_mixTransports_23 P x j5 (sg_g_mixTransports_5 P x j5) 6) _ (show (sg_g_mixTransports_23 P x j5 (sg_g_mixTransports_5 P x j5) 6 : Int64) = sg_g_mixTransports_5 P x (j5 + 1) from by rw [sg_g_mixTransports_5]) (by omega) (by omega) (lv_sub hl8 [0, 2, 3, 4] rfl)
        · have hL23 : j23 < 6 := sg_ltg hB23 c_2 (by omega)
          refine lv_lload_n hx hb dX8_mixTransports_29 rfl (lv_at hl 2 rfl) ?_
          refine lv_aload_n hx hb dX8_mixTransports_30 rfl (lv_at hl 3 rfl) ?_
          refine va_get (D := D) (ci := 8) (v := .ref (a 0)) (C := RX8) (T := TX8) (N := 3) hx hb hts in8 hown hK hP 0 rfl rfl 0 (by decide) (hts (.fieldLink RX8 10 "Granary" "now" "LGranary$Stock;") (by decide +kernel)) (fun _ h9 => h9) rfl dX8_mixTransports_31 ?_
          refine va_get (D := D) (ci := 6) (v := .ref (a 6)) (C := RX6) (T := TX6) (N := 9) hx hb hts in6 hown hK hP 1 rfl rfl 6 (by decide) (hts (.fieldLink RX8 183 "Granary$Stock" "transports" "LGranary$Transports;") (by decide +kernel)) (fun _ h9 => h9) rfl dX8_mixTransports_34 ?_
          refine lv_iload hx hb dX8_mixTransports_37 (lv_at hl 1 rfl) ?_
          refine lv_iload hx hb dX8_mixTransports_39 (lv_at hl 0 rfl) ?_
          have hPc := hP.sub (ws' := [(a 6, .inr (7, [.int (P 0 5), .ref (a 60), .ref (a 61), .ref (a 62), .ref (a 63), .ref (a 64), .ref (a 65)])), (a 60, .inl (cI, 90, .inl (P 60))), (a 61, .inl (cI, 90, .inl (P 61))), (a 62, .inl (cI, 90, .inl (P 62))), (a 63, .inl (cI, 90, .inl (P 63))), (a 64, .inl (cI, 90, .inl (P 64))), (a 65, .inl (cI, 90, .inl (P 65)))]) [7, 34, 35, 36, 37, 38, 39] rfl
          have hDc := hD.sub (ws' := [(a 6, .inr (7, [.int (P 0 5), .ref (a 60), .ref (a 61), .ref (a 62), .ref (a 63), .ref (a 64), .ref (a 65)])), (a 60, .inl (cI, 90, .inl (P 60))), (a 61, .inl (cI, 90, .inl (P 61))), (a 62, .inl (cI, 90, .inl (P 62))), (a 63, .inl (cI, 90, .inl (P 63))), (a 64, .inl (cI, 90, .inl (P 64))), (a 65, .inl (cI, 90, .inl (P 65)))]) [7, 34, 35, 36, 37, 38, 39] (by decide) rfl
          refine vp_callSi (W.runV (As := [.int (nI j5), .int (nI j23)]) (rest := [.long x23_3]) ⟨hx, hb, hml, hown, hts⟩ (c_ttell l D cI cZ cJ lo s.heap.size a P j5 j23 (by omega) (by omega)) (cwV 2 hts gX8_mixTransports_X7_tell rfl rfl rfl (by decide +kernel) ⟨(Nat.le_of_ble_eq_true rfl), (Nat.le_of_ble_eq_true rfl)⟩) ⟨Pre.blind, va_recv hK hP (ci := 7) (q0 := 7) rfl rfl, Pre.mk hPc (hDc.weaken (fun _ _ _ h => hAlo _ h)) hC hS hAlo⟩ rfl rfl hl.1 rfl (lv_room (Nat.le_of_ble_eq_true rfl)) dX8_mixTransports_41 ⟨(Nat.le_of_ble_eq_true rfl), (Nat.le_of_ble_eq_true rfl)⟩) (fun r_3 e_4 => ?_)
          clear hPc hDc
          have e_4 : sg_ttell P j5 j23 = r_3 := Eq.symm e_4
          subst e_4
          refine lv_i2l (v := (sg_ttell P j5 j23).toInt64) hx hb dX8_mixTransports_44 rfl ?_
          have hPc := hP.sub (ws' := []) [] rfl
          have hDc := hD.sub (ws' := []) [] (by decide) rfl
          refine vp_callSl (W.runS (As := [.long x23_3, .long ((sg_ttell P j5 j23).toInt64)]) (rest := []) ⟨hx, hb, hml, hown, hts⟩ (c_mix l D cI cZ cJ lo s.heap.size x23_3 ((sg_ttell P j5 j23).toInt64)) (va_cwS 2 hts gX8_mixTransports_X8_mix rfl rfl rfl (by decide +kernel) ⟨(Nat.le_of_ble_eq_true rfl), (Nat.le_of_ble_eq_true rfl)⟩) ⟨Pre.blind, Pre.mk hPc (hDc.weaken (fun _ _ _ h => hAlo _ h)) hC hS hAlo⟩ rfl rfl hl.1 rfl (lv_room (Nat.le_of_ble_eq_true rfl)) dX8_mixTransports_45 ⟨(Nat.le_of_ble_eq_true rfl), (Nat.le_of_ble_eq_true rfl)⟩) (fun r_5 e_6 => ?_)
          clear hPc hDc
          have e_6 : (x23_3 * 31) + ((sg_ttell P j5 j23).toInt64) = r_5 := Eq.symm e_6
          subst e_6
          refine lv_lstore_n (lv' := [(3, .long ((x23_3 * 31) + ((sg_ttell P j5 j23).toInt64))), (6, .int (nI j23)), (5, .int (nI j5)), (0, .ref g), (1, .long x)]) hx hb dX8_mixTransports_48 rfl hl (by decide) rfl (fun ls hl => ?_)
          refine lv_iinc (v := nI (j23 + 1)) (lv' := [(6, .int (nI (j23 + 1))), (3, .long ((x23_3 * 31) + ((sg_ttell P j5 j23).toInt64))), (5, .int (nI j5)), (0, .ref g), (1, .long x)]) hx hb dX8_mixTransports_49 hl (k := 1) rfl (nI_1 j23) (by decide) rfl (fun ls hl => ?_)
          refine lv_goto (tgt := 23) hx hb dX8_mixTransports_52 (by decide) ?_
          have hl8 := hl
          subst hx23_3
          exact ih23 (j23 + 1) (((sg_g_mixTransports_23 P x j5 x5_3 j23) * 31) + ((sg_ttell P j5 j23).toInt64)) _ (show (((sg_g_mixTransports_23 P x j5 x5_3 j23) * 31) + ((sg_ttell P j5 j23).toInt64) : Int64) = sg_g_mixTransports_23 P x j5 x5_3 (j23 + 1) from by rw [sg_g_mixTransports_23]) (by omega) (by omega) (lv_sub hl8 [0, 2, 1, 3, 4] rfl)

def sg_g_mixRoutes_23 (P : sg_Pic) (x : Int64) (j5 : Nat) (x5_3 : Int64) : Nat → Int64
  | 0 => x5_3
  | j23 + 1 => (((sg_g_mixRoutes_23 P x j5 x5_3 j23) * 31) + ((sg_daysBetween P (nI j5) (nI j23)).toInt64))

def sg_g_mixRoutes_5 (P : sg_Pic) (x : Int64) : Nat → Int64
  | 0 => x
  | j5 + 1 => (sg_g_mixRoutes_23 P x j5 (sg_g_mixRoutes_5 P x j5) (sg_cn P 2))

def sg_g_mixRoutes (P : sg_Pic) (x : Int64) : Int64 := (sg_g_mixRoutes_5 P x (sg_cn P 2))

set_option maxHeartbeats 4000000 in
set_option maxRecDepth 100000 in
/-- X8_mixRoutes -/
theorem c_g_mixRoutes (l : Launch) (D : va_G) (cI cZ cJ : ClassId) (lo sz : Nat) (g : Nat) (pa : Nat → Nat) (b : Nat → Nat) (a : Nat → Nat) (P : sg_Pic) (q : Nat → Int32) (x : Int64) (hw : sg_W P) : Met l yX8_mixRoutes wsX8_mixRoutes ({ frames := 2, cells := 0, slots := 0, locals := 43 }) (Pre lo D cI cZ cJ [.ref g, .long x] sz ([(g, .inr (8, [.ref (a 0), .ref (b 0), .ref (pa 0)]))] ++ sg_St cI cZ a P q)) (vp_Sl (fun r => r = sg_g_mixRoutes P x)) 0 0 (fun _ => False) := by
  refine Met.ofW (cc := cX8_mixRoutes) (maxL := 7) (ret := (some .long)) (by decide) rfl ?_
  intro p e s m args below meth c s₁ B hml hv
  obtain ⟨rfl, hsz, hP, hD0, hC⟩ := hv
  have hx := B.exec
  have hb := B.bytes
  have hr := B.returns
  have hts := atoms_spec (ws := wsX8_mixRoutes) B.pre
  have hown : s.vm.findClass RX8 = some m.cls := findClass_of_methodNamed B.named
  have hlocks := B.notSynchronized
  subst hsz
  have hn1 : sg_cn P 1 ≤ 6 := hw.n1
  have hn2 : sg_cn P 2 ≤ 5 := hw.n2
  have hn3 : sg_cn P 3 ≤ 200 := hw.n3
  have hn4 : sg_cn P 4 ≤ 60 := hw.n4
  have hn5 : sg_cn P 5 ≤ 90 := hw.n5
  have hK := hC.K
  have hD := hD0
  have hS : va_S (fun q => lo ≤ q) s.heap s.heap [] := va_S.rf
  have hAlo : ∀ q, (fun q => lo ≤ q) q → lo ≤ q := fun _ h => h
  have hL : ∀ q ∈ ([] : List Loc), (fun _ : Addr => False) q.base := fun q h => by cases h
  have hP : va_P D vwCl ([(g, .inr (8, [.ref (a 0), .ref (b 0), .ref (pa 0)]))] ++ sg_St cI cZ a P q) s.heap := hP
  have hl := lv_entry ([.ref g, .long x]) (n := 7) (Nat.le_of_ble_eq_true rfl)
  rw [lg_entry_eq]
  generalize (lg_sl ([.ref g, .long x]) ++ List.replicate (7 - (lg_sl ([.ref g, .long x])).length) Slot.unset).toArray = ls at hl ⊢
  have hl : lv_has ls 7 [(0, .ref g), (1, .long x)] := hl
  have in5 : ∀ w ∈ u_ws RX5 TX5 3, w ∈ wsX8_mixRoutes := by decide +kernel
  have in6 : ∀ w ∈ u_ws RX6 TX6 9, w ∈ wsX8_mixRoutes := by decide +kernel
  have in8 : ∀ w ∈ u_ws RX8 TX8 3, w ∈ wsX8_mixRoutes := by decide +kernel
  refine lv_lload_n hx hb dX8_mixRoutes_0 rfl (lv_at hl 1 rfl) ?_
  refine lv_lstore_n (lv' := [(3, .long x), (0, .ref g), (1, .long x)]) hx hb dX8_mixRoutes_1 rfl hl (by decide) rfl (fun ls hl => ?_)
  refine lv_iconst (v := 0) hx hb dX8_mixRoutes_2 (by decide) ?_
  refine lv_istore (lv' := [(5, .int 0), (3, .long x), (0, .ref g), (1, .long x)]) hx hb dX8_mixRoutes_3 hl (by decide) rfl (fun ls hl => ?_)
  obtain ⟨j5, h0j5⟩ : ∃ j : Nat, j = 0 := ⟨_, rfl⟩
  obtain ⟨x5_3, hx5_3⟩ : ∃ z9 : Int64, z9 = sg_g_mixRoutes_5 P x j5 := ⟨_, rfl⟩
  replace hl : lv_has ls 7 [(5, .int (nI j5)), (3, .long x5_3), (0, .ref g), (1, .long x)] := by rw [hx5_3, h0j5]; exact hl
  have hjj5 : j5 ≤ sg_cn P 2 := by omega
  clear h0j5
  obtain ⟨n5, hn5⟩ : ∃ n : Nat, sg_cn P 2 < j5 + n := ⟨sg_cn P 2 + 1, by omega⟩
  revert hl
  revert hn5
  revert hjj5
  revert hx5_3
  revert ls
  revert x5_3
  revert j5
  induction n5 with
  | zero =>
    intro j5 x5_3 ls hx5_3 hjj5 hn5 hl
    exact absurd hn5 (by omega)
  | succ n5 ih5 =>
    intro j5 x5_3 ls hx5_3 hjj5 hn5 hl
    refine lv_iload hx hb dX8_mixRoutes_5 (lv_at hl 0 rfl) ?_
    refine lv_aload_n hx hb dX8_mixRoutes_7 rfl (lv_at hl 2 rfl) ?_
    refine va_get (D := D) (ci := 8) (v := .ref (a 0)) (C := RX8) (T := TX8) (N := 3) hx hb hts in8 hown hK hP 0 rfl rfl 0 (by decide) (hts (.fieldLink RX8 10 "Granary" "now" "LGranary$Stock;") (by decide +kernel)) (fun _ h9 => h9) rfl dX8_mixRoutes_8 ?_
    refine va_get (D := D) (ci := 6) (v := .ref (a 2)) (C := RX6) (T := TX6) (N := 9) hx hb hts in6 hown hK hP 1 rfl rfl 2 (by decide) (hts (.fieldLink RX8 48 "Granary$Stock" "sites" "LGranary$Sites;") (by decide +kernel)) (fun _ h9 => h9) rfl dX8_mixRoutes_11 ?_
    refine va_get (D := D) (ci := 5) (v := .int (P 0 2)) (C := RX5) (T := TX5) (N := 3) hx hb hts in5 hown hK hP 3 rfl rfl 0 (by decide) (hts (.fieldLink RX8 52 "Granary$Sites" "count" "I") (by decide +kernel)) (fun _ h9 => h9) rfl dX8_mixRoutes_14 ?_
    have hB5 : ((P 0 2) : Int32) = nI (sg_cn P 2) := (hw.e2)
    refine lv_icmp_ge (tgt := 70) hx hb dX8_mixRoutes_17 (by decide) (fun c_1 => ?_) (fun c_1 => ?_)
    · have hE5 : sg_cn P 2 = j5 := (sg_eq hB5 c_1 hjj5 (by omega)).symm
      clear ih5 hn5
      subst hE5
      subst hx5_3
      refine lv_lload_n hx hb dX8_mixRoutes_70 rfl (lv_at hl 1 rfl) ?_
      exact W.lret (v := (sg_g_mixRoutes_5 P x (sg_cn P 2))) hx hb hr (fun t ht hW => ⟨(sg_g_mixRoutes_5 P x (sg_cn P 2)), rfl, rfl, ht⟩) hL dX8_mixRoutes_71
    · have hL5 : j5 < sg_cn P 2 := sg_lt hB5 c_1 (by omega)
      refine lv_iconst (v := 0) hx hb dX8_mixRoutes_20 (by decide) ?_
      refine lv_istore (lv' := [(6, .int 0), (5, .int (nI j5)), (3, .long x5_3), (0, .ref g), (1, .long x)]) hx hb dX8_mixRoutes_21 hl (by decide) rfl (fun ls hl => ?_)
      obtain ⟨j23, h0j23⟩ : ∃ j : Nat, j = 0 := ⟨_, rfl⟩
      obtain ⟨x23_3, hx23_3⟩ : ∃ z9 : Int64, z9 = sg_g_mixRoutes_23 P x j5 x5_3 j23 := ⟨_, rfl⟩
      replace hl : lv_has ls 7 [(6, .int (nI j23)), (5, .int (nI j5)), (3, .long x23_3), (0, .ref g), (1, .long x)] := by rw [hx23_3, h0j23]; exact hl
      have hjj23 : j23 ≤ sg_cn P 2 := by omega
      clear h0j23
      obtain ⟨n23, hn23⟩ : ∃ n : Nat, sg_cn P 2 < j23 + n := ⟨sg_cn P 2 + 1, by omega⟩
      revert hl
      revert hn23
      revert hjj23
      revert hx23_3
      revert ls
      revert x23_3
      revert j23
      induction n23 with
      | zero =>
        intro j23 x23_3 ls hx23_3 hjj23 hn23 hl
        exact absurd hn23 (by omega)
      | succ n23 ih23 =>
        intro j23 x23_3 ls hx23_3 hjj23 hn23 hl
        refine lv_iload hx hb dX8_mixRoutes_23 (lv_at hl 0 rfl) ?_
        refine lv_aload_n hx hb dX8_mixRoutes_25 rfl (lv_at hl 3 rfl) ?_
        refine va_get (D := D) (ci := 8) (v := .ref (a 0)) (C := RX8) (T := TX8) (N := 3) hx hb hts in8 hown hK hP 0 rfl rfl 0 (by decide) (hts (.fieldLink RX8 10 "Granary" "now" "LGranary$Stock;") (by decide +kernel)) (fun _ h9 => h9) rfl dX8_mixRoutes_26 ?_
        refine va_get (D := D) (ci := 6) (v := .ref (a 2)) (C := RX6) (T := TX6) (N := 9) hx hb hts in6 hown hK hP 1 rfl rfl 2 (by decide) (hts (.fieldLink RX8 48 "Granary$Stock" "sites" "LGranary$Sites;") (by decide +kernel)) (fun _ h9 => h9) rfl dX8_mixRoutes_29 ?_
        refine va_get (D := D) (ci := 5) (v := .int (P 0 2)) (C := RX5) (T := TX5) (N := 3) hx hb hts in5 hown hK hP 3 rfl rfl 0 (by decide) (hts (.fieldLink RX8 52 "Granary$Sites" "count" "I") (by decide +kernel)) (fun _ h9 => h9) rfl dX8_mixRoutes_32 ?_
        have hB23 : ((P 0 2) : Int32) = nI (sg_cn P 2) := (hw.e2)
        refine lv_icmp_ge (tgt := 64) hx hb dX8_mixRoutes_35 (by decide) (fun c_2 => ?_) (fun c_2 => ?_)
        · have hE23 : sg_cn P 2 = j23 := (sg_eq hB23 c_2 hjj23 (by omega)).symm
          clear ih23 hn23
          subst hE23
          subst hx23_3
          refine lv_iinc (v := nI (j5 + 1)) (lv' := [(5, .int (nI (j5 + 1))), (6, .int (nI (sg_cn P 2))), (3, .long (sg_g_mixRoutes_23 P x j5 x5_3 (sg_cn P 2))), (0, .ref g), (1, .long x)]) hx hb dX8_mixRoutes_64 hl (k := 1) rfl (nI_1 j5) (by decide) rfl (fun ls hl => ?_)
          refine lv_goto (tgt := 5) hx hb dX8_mixRoutes_67 (by decide) ?_
          have hl8 := hl
          subst hx5_3
          exact ih5 (j5 + 1) (sg_g_mixRoutes_23 P x j5 (sg_g_mixRoutes_5 P x j5) (sg_cn P 2)) _ (show (sg_g_mixRoutes_23 P x j5 (sg_g_mixRoutes_5 P x j5) (sg_cn P 2) : Int64) = sg_g_mixRoutes_5 P x (j5 + 1) from by rw [sg_g_mixRoutes_5]) (by omega) (by omega) (lv_sub hl8 [0, 2, 3, 4] rfl)
        · have hL23 : j23 < sg_cn P 2 := sg_lt hB23 c_2 (by omega)
          refine lv_lload_n hx hb dX8_mixRoutes_38 rfl (lv_at hl 2 rfl) ?_
          refine lv_aload_n hx hb dX8_mixRoutes_39 rfl (lv_at hl 3 rfl) ?_
          refine va_get (D := D) (ci := 8) (v := .ref (a 0)) (C := RX8) (T := TX8) (N := 3) hx hb hts in8 hown hK hP 0 rfl rfl 0 (by decide) (hts (.fieldLink RX8 10 "Granary" "now" "LGranary$Stock;") (by decide +kernel)) (fun _ h9 => h9) rfl dX8_mixRoutes_40 ?_
          refine va_get (D := D) (ci := 6) (v := .ref (a 2)) (C := RX6) (T := TX6) (N := 9) hx hb hts in6 hown hK hP 1 rfl rfl 2 (by decide) (hts (.fieldLink RX8 48 "Granary$Stock" "sites" "LGranary$Sites;") (by decide +kernel)) (fun _ h9 => h9) rfl dX8_mixRoutes_43 ?_
          refine lv_iload hx hb dX8_mixRoutes_46 (lv_at hl 1 rfl) ?_
          refine lv_iload hx hb dX8_mixRoutes_48 (lv_at hl 0 rfl) ?_
          have hPc := hP.sub (ws' := [(a 2, .inr (5, [.int (P 0 2), .ref (a 20), .ref (a 21)])), (a 21, .inl (cI, 25, .inl (P 21)))]) [3, 13] rfl
          have hDc := hD.sub (ws' := [(a 2, .inr (5, [.int (P 0 2), .ref (a 20), .ref (a 21)])), (a 21, .inl (cI, 25, .inl (P 21)))]) [3, 13] (by decide) rfl
          refine vp_callSi (W.runV (As := [.int (nI j5), .int (nI j23)]) (rest := [.long x23_3]) ⟨hx, hb, hml, hown, hts⟩ (c_daysBetween l D cI cZ cJ lo s.heap.size a P (nI j5) (nI j23) hw) (cwV 2 hts gX8_mixRoutes_X5_daysBetween rfl rfl rfl (by decide +kernel) ⟨(Nat.le_of_ble_eq_true rfl), (Nat.le_of_ble_eq_true rfl)⟩) ⟨Pre.blind, va_recv hK hP (ci := 5) (q0 := 3) rfl rfl, Pre.mk hPc (hDc.weaken (fun _ _ _ h => hAlo _ h)) hC hS hAlo⟩ rfl rfl hl.1 rfl (lv_room (Nat.le_of_ble_eq_true rfl)) dX8_mixRoutes_50 ⟨(Nat.le_of_ble_eq_true rfl), (Nat.le_of_ble_eq_true rfl)⟩) (fun r_3 e_4 => ?_)
          clear hPc hDc
          have e_4 : sg_daysBetween P (nI j5) (nI j23) = r_3 := Eq.symm e_4
          subst e_4
          refine lv_i2l (v := (sg_daysBetween P (nI j5) (nI j23)).toInt64) hx hb dX8_mixRoutes_53 rfl ?_
          have hPc := hP.sub (ws' := []) [] rfl
          have hDc := hD.sub (ws' := []) [] (by decide) rfl
          refine vp_callSl (W.runS (As := [.long x23_3, .long ((sg_daysBetween P (nI j5) (nI j23)).toInt64)]) (rest := []) ⟨hx, hb, hml, hown, hts⟩ (c_mix l D cI cZ cJ lo s.heap.size x23_3 ((sg_daysBetween P (nI j5) (nI j23)).toInt64)) (va_cwS 2 hts gX8_mixRoutes_X8_mix rfl rfl rfl (by decide +kernel) ⟨(Nat.le_of_ble_eq_true rfl), (Nat.le_of_ble_eq_true rfl)⟩) ⟨Pre.blind, Pre.mk hPc (hDc.weaken (fun _ _ _ h => hAlo _ h)) hC hS hAlo⟩ rfl rfl hl.1 rfl (lv_room (Nat.le_of_ble_eq_true rfl)) dX8_mixRoutes_54 ⟨(Nat.le_of_ble_eq_true rfl), (Nat.le_of_ble_eq_true rfl)⟩) (fun r_5 e_6 => ?_)
          clear hPc hDc
          have e_6 : (x23_3 * 31) + ((sg_daysBetween P (nI j5) (nI j23)).toInt64) = r_5 := Eq.symm e_6
          subst e_6
          refine lv_lstore_n (lv' := [(3, .long ((x23_3 * 31) + ((sg_daysBetween P (nI j5) (nI j23)).toInt64))), (6, .int (nI j23)), (5, .int (nI j5)), (0, .ref g), (1, .long x)]) hx hb dX8_mixRoutes_57 rfl hl (by decide) rfl (fun ls hl => ?_)
          refine lv_iinc (v := nI (j23 + 1)) (lv' := [(6, .int (nI (j23 + 1))), (3, .long ((x23_3 * 31) + ((sg_daysBetween P (nI j5) (nI j23)).toInt64))), (5, .int (nI j5)), (0, .ref g), (1, .long x)]) hx hb dX8_mixRoutes_58 hl (k := 1) rfl (nI_1 j23) (by decide) rfl (fun ls hl => ?_)
          refine lv_goto (tgt := 23) hx hb dX8_mixRoutes_61 (by decide) ?_
          have hl8 := hl
          subst hx23_3
          exact ih23 (j23 + 1) (((sg_g_mixRoutes_23 P x j5 x5_3 j23) * 31) + ((sg_daysBetween P (nI j5) (nI j23)).toInt64)) _ (show (((sg_g_mixRoutes_23 P x j5 x5_3 j23) * 31) + ((sg_daysBetween P (nI j5) (nI j23)).toInt64) : Int64) = sg_g_mixRoutes_23 P x j5 x5_3 (j23 + 1) from by rw [sg_g_mixRoutes_23]) (by omega) (by omega) (lv_sub hl8 [0, 2, 1, 3, 4] rfl)

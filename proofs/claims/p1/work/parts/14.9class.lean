theorem in5 {x : Int32} (h : 0 ≤ x ∧ x ≤ 4) : vp_in x 5 := by
  obtain ⟨j, hj, e⟩ := nI_of2 (M := 4) (n := 4) (by decide) (Int32.not_lt.mpr h.1) h.2
  rw [e]
  exact vp_in_nI (by omega) (by decide)
theorem pos1 {x : Int32} (h : 1 ≤ x) : ¬ x < 0 := by
  have e : (1 : Int32).toInt = 1 := by decide
  have e0 : (0 : Int32).toInt = 0 := by decide
  have h1 := Int32.le_iff_toInt_le.mp h
  intro h2
  have h3 := Int32.lt_iff_toInt_lt.mp h2
  omega
theorem in30 {x : Int32} (h : 1 ≤ x ∧ x ≤ 30) : ∃ j : Nat, j ≤ 30 ∧ x = nI j := nI_of2 (M := 30) (n := 30) (by decide) (pos1 h.1) h.2

set_option maxHeartbeats 4000000 in
set_option maxRecDepth 100000 in
/-- X0_add -/
theorem c_X0_add (l : Launch) (D : va_G) (cI cZ cJ : ClassId) (lo sz : Nat) (aI : Nat) (aI1 : Nat) (aI2 : Nat) (aI3 : Nat) (aI4 : Nat) (p0 : Int32) (p1 : Int32) (p2 : Int32) : Met l yX0_add wsX0_add ({ frames := 0, cells := 0, slots := 0, locals := 0 }) (Pre lo D cI cZ cJ [.ref aI, .int p0, .int p1, .int p2] sz [(aI, .inr (0, [.int 0, .ref aI1, .ref aI2, .ref aI3, .ref aI4])), (aI1, .inl (cI, 6, .inl (fun _ => 0))), (aI2, .inl (cI, 6, .inl (fun _ => 0))), (aI3, .inl (cI, 6, .inl (fun _ => 0))), (aI4, .inl (cI, 6, .inl (fun _ => 0)))]) (va_Qi (fun (r : Int32) (_ : Unit) => r = 0) (fun _ t => True) (va_A [(aI, .inr (0, [.int 0, .ref aI1, .ref aI2, .ref aI3, .ref aI4])), (aI1, .inl (cI, 6, .inl (fun _ => 0))), (aI2, .inl (cI, 6, .inl (fun _ => 0))), (aI3, .inl (cI, 6, .inl (fun _ => 0))), (aI4, .inl (cI, 6, .inl (fun _ => 0)))] sz)) 0 0 (va_A [(aI, .inr (0, [.int 0, .ref aI1, .ref aI2, .ref aI3, .ref aI4])), (aI1, .inl (cI, 6, .inl (fun _ => 0))), (aI2, .inl (cI, 6, .inl (fun _ => 0))), (aI3, .inl (cI, 6, .inl (fun _ => 0))), (aI4, .inl (cI, 6, .inl (fun _ => 0)))] sz) := by
  refine Met.ofW (cc := cX0_add) (maxL := 4) (ret := (some .int)) (by decide) rfl ?_
  intro p e s m args below meth c s₁ B hml hv
  obtain ⟨rfl, hsz, hP, hD0, hC⟩ := hv
  have hx := B.exec
  have hb := B.bytes
  have hr := B.returns
  have hts := atoms_spec (ws := wsX0_add) B.pre
  have hown : s.vm.findClass RX0 = some m.cls := findClass_of_methodNamed B.named
  have hlocks := B.notSynchronized
  subst hsz
  have hK := hC.K
  have hD := hD0.self (sz := s.heap.size)
  have hAlo0 := va_A_lo hD0 hC.1
  generalize hAe : va_A [(aI, .inr (0, [.int 0, .ref aI1, .ref aI2, .ref aI3, .ref aI4])), (aI1, .inl (cI, 6, .inl (fun _ => 0))), (aI2, .inl (cI, 6, .inl (fun _ => 0))), (aI3, .inl (cI, 6, .inl (fun _ => 0))), (aI4, .inl (cI, 6, .inl (fun _ => 0)))] s.heap.size = A at hD hAlo0 ⊢
  have hA : ∀ q : Nat, s.heap.size ≤ q → A q := fun q h => by rw [← hAe]; exact Or.inr h
  have hAlo : ∀ q, A q → lo ≤ q := hAlo0
  have hS : va_S A s.heap s.heap [] := va_S.rf
  have hP : va_P D vwCl [(aI, .inr (0, [.int 0, .ref aI1, .ref aI2, .ref aI3, .ref aI4])), (aI1, .inl (cI, 6, .inl (fun _ => 0))), (aI2, .inl (cI, 6, .inl (fun _ => 0))), (aI3, .inl (cI, 6, .inl (fun _ => 0))), (aI4, .inl (cI, 6, .inl (fun _ => 0)))] s.heap := hP
  have hl := lv_entry ([.ref aI, .int p0, .int p1, .int p2]) (n := 4) (Nat.le_of_ble_eq_true rfl)
  rw [lg_entry_eq]
  generalize (lg_sl ([.ref aI, .int p0, .int p1, .int p2]) ++ List.replicate (4 - (lg_sl ([.ref aI, .int p0, .int p1, .int p2])).length) Slot.unset).toArray = ls at hl ⊢
  have hl : lv_has ls 4 [(0, .ref aI), (1, .int p0), (2, .int p1), (3, .int p2)] := hl
  have in0 : ∀ w ∈ u_ws RX0 TX0 5, w ∈ wsX0_add := by decide +kernel
  refine lv_aload_n hx hb dX0_add_0 rfl (lv_at hl 0 rfl) ?_
  refine va_get (D := D) (ci := 0) (v := .int 0) (C := RX0) (T := TX0) (N := 5) hx hb hts in0 hown hK hP 0 rfl rfl 0 (by decide) (hts (.fieldLink RX0 24 "Granary$Items" "count" "I") (by decide +kernel)) (fun _ h9 => h9) rfl dX0_add_1 ?_
  refine lv_bipush (v := 6) hx hb dX0_add_4 (by decide) ?_
  refine lv_icmp_lt (tgt := 11) hx hb dX0_add_6 (by decide) (fun _ => ?_) (fun c9 => absurd (show (0 : Int32) < (6 : Int32) from (by decide)) c9)
  refine lv_aload_n hx hb dX0_add_11 rfl (lv_at hl 0 rfl) ?_
  refine va_get (D := D) (ci := 0) (v := .ref aI1) (C := RX0) (T := TX0) (N := 5) hx hb hts in0 hown hK hP 0 rfl rfl 1 (by decide) (hts (.fieldLink RX0 9 "Granary$Items" "life" "[I") (by decide +kernel)) (fun _ h9 => h9) rfl dX0_add_12 ?_
  refine lv_aload_n hx hb dX0_add_15 rfl (lv_at hl 0 rfl) ?_
  refine va_get (D := D) (ci := 0) (v := .int 0) (C := RX0) (T := TX0) (N := 5) hx hb hts in0 hown hK hP 0 rfl rfl 0 (by decide) (hts (.fieldLink RX0 24 "Granary$Items" "count" "I") (by decide +kernel)) (fun _ h9 => h9) rfl dX0_add_16 ?_
  refine lv_iload_n hx hb dX0_add_19 rfl (lv_at hl 1 rfl) ?_
  refine va_iast hx hb hK hP hD hS 1 0 rfl rfl (by unfold vp_in; decide) dX0_add_20 (fun H locs hP hD hS => ?_)
  replace hP : va_P D vwCl [(aI, .inr (0, [.int 0, .ref aI1, .ref aI2, .ref aI3, .ref aI4])), (aI1, .inl (cI, 6, .inl (upd (fun _ => 0) (Int32.toNatClampNeg 0) p0))), (aI2, .inl (cI, 6, .inl (fun _ => 0))), (aI3, .inl (cI, 6, .inl (fun _ => 0))), (aI4, .inl (cI, 6, .inl (fun _ => 0)))] H := hP
  replace hD : va_D A [(aI, .inr (0, [.int 0, .ref aI1, .ref aI2, .ref aI3, .ref aI4])), (aI1, .inl (cI, 6, .inl (upd (fun _ => 0) (Int32.toNatClampNeg 0) p0))), (aI2, .inl (cI, 6, .inl (fun _ => 0))), (aI3, .inl (cI, 6, .inl (fun _ => 0))), (aI4, .inl (cI, 6, .inl (fun _ => 0)))] := hD
  refine lv_aload_n hx hb dX0_add_21 rfl (lv_at hl 0 rfl) ?_
  refine va_get (D := D) (ci := 0) (v := .ref aI2) (C := RX0) (T := TX0) (N := 5) hx hb hts in0 hown hK hP 0 rfl rfl 2 (by decide) (hts (.fieldLink RX0 15 "Granary$Items" "price" "[I") (by decide +kernel)) (fun _ h9 => h9) rfl dX0_add_22 ?_
  refine lv_aload_n hx hb dX0_add_25 rfl (lv_at hl 0 rfl) ?_
  refine va_get (D := D) (ci := 0) (v := .int 0) (C := RX0) (T := TX0) (N := 5) hx hb hts in0 hown hK hP 0 rfl rfl 0 (by decide) (hts (.fieldLink RX0 24 "Granary$Items" "count" "I") (by decide +kernel)) (fun _ h9 => h9) rfl dX0_add_26 ?_
  refine lv_iload_n hx hb dX0_add_29 rfl (lv_at hl 2 rfl) ?_
  refine va_iast hx hb hK hP hD hS 2 0 rfl rfl (by unfold vp_in; decide) dX0_add_30 (fun H locs hP hD hS => ?_)
  replace hP : va_P D vwCl [(aI, .inr (0, [.int 0, .ref aI1, .ref aI2, .ref aI3, .ref aI4])), (aI1, .inl (cI, 6, .inl (upd (fun _ => 0) (Int32.toNatClampNeg 0) p0))), (aI2, .inl (cI, 6, .inl (upd (fun _ => 0) (Int32.toNatClampNeg 0) p1))), (aI3, .inl (cI, 6, .inl (fun _ => 0))), (aI4, .inl (cI, 6, .inl (fun _ => 0)))] H := hP
  replace hD : va_D A [(aI, .inr (0, [.int 0, .ref aI1, .ref aI2, .ref aI3, .ref aI4])), (aI1, .inl (cI, 6, .inl (upd (fun _ => 0) (Int32.toNatClampNeg 0) p0))), (aI2, .inl (cI, 6, .inl (upd (fun _ => 0) (Int32.toNatClampNeg 0) p1))), (aI3, .inl (cI, 6, .inl (fun _ => 0))), (aI4, .inl (cI, 6, .inl (fun _ => 0)))] := hD
  refine lv_aload_n hx hb dX0_add_31 rfl (lv_at hl 0 rfl) ?_
  refine va_get (D := D) (ci := 0) (v := .ref aI3) (C := RX0) (T := TX0) (N := 5) hx hb hts in0 hown hK hP 0 rfl rfl 3 (by decide) (hts (.fieldLink RX0 18 "Granary$Items" "pack" "[I") (by decide +kernel)) (fun _ h9 => h9) rfl dX0_add_32 ?_
  refine lv_aload_n hx hb dX0_add_35 rfl (lv_at hl 0 rfl) ?_
  refine va_get (D := D) (ci := 0) (v := .int 0) (C := RX0) (T := TX0) (N := 5) hx hb hts in0 hown hK hP 0 rfl rfl 0 (by decide) (hts (.fieldLink RX0 24 "Granary$Items" "count" "I") (by decide +kernel)) (fun _ h9 => h9) rfl dX0_add_36 ?_
  refine lv_iload_n hx hb dX0_add_39 rfl (lv_at hl 3 rfl) ?_
  refine va_iast hx hb hK hP hD hS 3 0 rfl rfl (by unfold vp_in; decide) dX0_add_40 (fun H locs hP hD hS => ?_)
  replace hP : va_P D vwCl [(aI, .inr (0, [.int 0, .ref aI1, .ref aI2, .ref aI3, .ref aI4])), (aI1, .inl (cI, 6, .inl (upd (fun _ => 0) (Int32.toNatClampNeg 0) p0))), (aI2, .inl (cI, 6, .inl (upd (fun _ => 0) (Int32.toNatClampNeg 0) p1))), (aI3, .inl (cI, 6, .inl (upd (fun _ => 0) (Int32.toNatClampNeg 0) p2))), (aI4, .inl (cI, 6, .inl (fun _ => 0)))] H := hP
  replace hD : va_D A [(aI, .inr (0, [.int 0, .ref aI1, .ref aI2, .ref aI3, .ref aI4])), (aI1, .inl (cI, 6, .inl (upd (fun _ => 0) (Int32.toNatClampNeg 0) p0))), (aI2, .inl (cI, 6, .inl (upd (fun _ => 0) (Int32.toNatClampNeg 0) p1))), (aI3, .inl (cI, 6, .inl (upd (fun _ => 0) (Int32.toNatClampNeg 0) p2))), (aI4, .inl (cI, 6, .inl (fun _ => 0)))] := hD
  refine lv_aload_n hx hb dX0_add_41 rfl (lv_at hl 0 rfl) ?_
  refine va_get (D := D) (ci := 0) (v := .ref aI4) (C := RX0) (T := TX0) (N := 5) hx hb hts in0 hown hK hP 0 rfl rfl 4 (by decide) (hts (.fieldLink RX0 21 "Granary$Items" "earned" "[I") (by decide +kernel)) (fun _ h9 => h9) rfl dX0_add_42 ?_
  refine lv_aload_n hx hb dX0_add_45 rfl (lv_at hl 0 rfl) ?_
  refine va_get (D := D) (ci := 0) (v := .int 0) (C := RX0) (T := TX0) (N := 5) hx hb hts in0 hown hK hP 0 rfl rfl 0 (by decide) (hts (.fieldLink RX0 24 "Granary$Items" "count" "I") (by decide +kernel)) (fun _ h9 => h9) rfl dX0_add_46 ?_
  refine lv_iconst (v := 0) hx hb dX0_add_49 (by decide) ?_
  refine va_iast hx hb hK hP hD hS 4 0 rfl rfl (by unfold vp_in; decide) dX0_add_50 (fun H locs hP hD hS => ?_)
  replace hP : va_P D vwCl [(aI, .inr (0, [.int 0, .ref aI1, .ref aI2, .ref aI3, .ref aI4])), (aI1, .inl (cI, 6, .inl (upd (fun _ => 0) (Int32.toNatClampNeg 0) p0))), (aI2, .inl (cI, 6, .inl (upd (fun _ => 0) (Int32.toNatClampNeg 0) p1))), (aI3, .inl (cI, 6, .inl (upd (fun _ => 0) (Int32.toNatClampNeg 0) p2))), (aI4, .inl (cI, 6, .inl (upd (fun _ => 0) (Int32.toNatClampNeg 0) 0)))] H := hP
  replace hD : va_D A [(aI, .inr (0, [.int 0, .ref aI1, .ref aI2, .ref aI3, .ref aI4])), (aI1, .inl (cI, 6, .inl (upd (fun _ => 0) (Int32.toNatClampNeg 0) p0))), (aI2, .inl (cI, 6, .inl (upd (fun _ => 0) (Int32.toNatClampNeg 0) p1))), (aI3, .inl (cI, 6, .inl (upd (fun _ => 0) (Int32.toNatClampNeg 0) p2))), (aI4, .inl (cI, 6, .inl (upd (fun _ => 0) (Int32.toNatClampNeg 0) 0)))] := hD
  refine lv_aload_n hx hb dX0_add_51 rfl (lv_at hl 0 rfl) ?_
  refine lv_dup hx hb dX0_add_52 rfl ?_
  refine va_get (D := D) (ci := 0) (v := .int 0) (C := RX0) (T := TX0) (N := 5) hx hb hts in0 hown hK hP 0 rfl rfl 0 (by decide) (hts (.fieldLink RX0 24 "Granary$Items" "count" "I") (by decide +kernel)) (fun _ h9 => h9) rfl dX0_add_53 ?_
  refine lv_iconst (v := 1) hx hb dX0_add_56 (by decide) ?_
  refine lv_iadd hx hb dX0_add_57 ?_
  refine lv_toi (y := 1) (by decide) ?_
  refine va_put (D := D) (ci := 0) (v := .int 1) (ty := .int) (C := RX0) (T := TX0) (N := 5) hx hb hts in0 tyX0 tyX0_ok nmX0 hown hK hP hD hS 0 rfl rfl 0 (by decide) (hts (.fieldLink RX0 24 "Granary$Items" "count" "I") (by decide +kernel)) (fun _ h9 => h9) rfl (by decide +kernel) rfl rfl (Nat.le_of_ble_eq_true rfl) dX0_add_58 (fun H locs hP hD hS => ?_)
  replace hP : va_P D vwCl [(aI, .inr (0, [.int 1, .ref aI1, .ref aI2, .ref aI3, .ref aI4])), (aI1, .inl (cI, 6, .inl (upd (fun _ => 0) (Int32.toNatClampNeg 0) p0))), (aI2, .inl (cI, 6, .inl (upd (fun _ => 0) (Int32.toNatClampNeg 0) p1))), (aI3, .inl (cI, 6, .inl (upd (fun _ => 0) (Int32.toNatClampNeg 0) p2))), (aI4, .inl (cI, 6, .inl (upd (fun _ => 0) (Int32.toNatClampNeg 0) 0)))] H := hP
  replace hD : va_D A [(aI, .inr (0, [.int 1, .ref aI1, .ref aI2, .ref aI3, .ref aI4])), (aI1, .inl (cI, 6, .inl (upd (fun _ => 0) (Int32.toNatClampNeg 0) p0))), (aI2, .inl (cI, 6, .inl (upd (fun _ => 0) (Int32.toNatClampNeg 0) p1))), (aI3, .inl (cI, 6, .inl (upd (fun _ => 0) (Int32.toNatClampNeg 0) p2))), (aI4, .inl (cI, 6, .inl (upd (fun _ => 0) (Int32.toNatClampNeg 0) 0)))] := hD
  refine lv_aload_n hx hb dX0_add_61 rfl (lv_at hl 0 rfl) ?_
  refine va_get (D := D) (ci := 0) (v := .int 1) (C := RX0) (T := TX0) (N := 5) hx hb hts in0 hown hK hP 0 rfl rfl 0 (by decide) (hts (.fieldLink RX0 24 "Granary$Items" "count" "I") (by decide +kernel)) (fun _ h9 => h9) rfl dX0_add_62 ?_
  refine lv_iconst (v := 1) hx hb dX0_add_65 (by decide) ?_
  refine lv_isub hx hb dX0_add_66 ?_
  refine lv_toi (y := 0) (by decide) ?_
  refine W.widen (k := 0) (n := 0) (by omega) (by omega) ?_
  exact W.iret (v := 0) hx hb hr (fun t ht hW => ⟨⟨0, (), rfl, rfl, trivial⟩, hS.F ht⟩) hS.2.2 dX0_add_67

set_option maxHeartbeats 4000000 in
set_option maxRecDepth 100000 in
/-- X5_add -/
theorem c_X5_add (l : Launch) (D : va_G) (cI cZ cJ : ClassId) (lo sz : Nat) (aS : Nat) (aS1 : Nat) (aS2 : Nat) (p0 : Int32) : Met l yX5_add wsX5_add ({ frames := 0, cells := 0, slots := 0, locals := 0 }) (Pre lo D cI cZ cJ [.ref aS, .int p0] sz [(aS, .inr (5, [.int 0, .ref aS1, .ref aS2])), (aS1, .inl (cI, 5, .inl (fun _ => 0))), (aS2, .inl (cI, 25, .inl (fun _ => 0)))]) (va_Qi (fun (r : Int32) (_ : Unit) => r = 0) (fun _ t => True) (va_A [(aS, .inr (5, [.int 0, .ref aS1, .ref aS2])), (aS1, .inl (cI, 5, .inl (fun _ => 0))), (aS2, .inl (cI, 25, .inl (fun _ => 0)))] sz)) 0 0 (va_A [(aS, .inr (5, [.int 0, .ref aS1, .ref aS2])), (aS1, .inl (cI, 5, .inl (fun _ => 0))), (aS2, .inl (cI, 25, .inl (fun _ => 0)))] sz) := by
  refine Met.ofW (cc := cX5_add) (maxL := 2) (ret := (some .int)) (by decide) rfl ?_
  intro p e s m args below meth c s₁ B hml hv
  obtain ⟨rfl, hsz, hP, hD0, hC⟩ := hv
  have hx := B.exec
  have hb := B.bytes
  have hr := B.returns
  have hts := atoms_spec (ws := wsX5_add) B.pre
  have hown : s.vm.findClass RX5 = some m.cls := findClass_of_methodNamed B.named
  have hlocks := B.notSynchronized
  subst hsz
  have hK := hC.K
  have hD := hD0.self (sz := s.heap.size)
  have hAlo0 := va_A_lo hD0 hC.1
  generalize hAe : va_A [(aS, .inr (5, [.int 0, .ref aS1, .ref aS2])), (aS1, .inl (cI, 5, .inl (fun _ => 0))), (aS2, .inl (cI, 25, .inl (fun _ => 0)))] s.heap.size = A at hD hAlo0 ⊢
  have hA : ∀ q : Nat, s.heap.size ≤ q → A q := fun q h => by rw [← hAe]; exact Or.inr h
  have hAlo : ∀ q, A q → lo ≤ q := hAlo0
  have hS : va_S A s.heap s.heap [] := va_S.rf
  have hP : va_P D vwCl [(aS, .inr (5, [.int 0, .ref aS1, .ref aS2])), (aS1, .inl (cI, 5, .inl (fun _ => 0))), (aS2, .inl (cI, 25, .inl (fun _ => 0)))] s.heap := hP
  have hl := lv_entry ([.ref aS, .int p0]) (n := 2) (Nat.le_of_ble_eq_true rfl)
  rw [lg_entry_eq]
  generalize (lg_sl ([.ref aS, .int p0]) ++ List.replicate (2 - (lg_sl ([.ref aS, .int p0])).length) Slot.unset).toArray = ls at hl ⊢
  have hl : lv_has ls 2 [(0, .ref aS), (1, .int p0)] := hl
  have in5 : ∀ w ∈ u_ws RX5 TX5 3, w ∈ wsX5_add := by decide +kernel
  refine lv_aload_n hx hb dX5_add_0 rfl (lv_at hl 0 rfl) ?_
  refine va_get (D := D) (ci := 5) (v := .int 0) (C := RX5) (T := TX5) (N := 3) hx hb hts in5 hown hK hP 0 rfl rfl 0 (by decide) (hts (.fieldLink RX5 18 "Granary$Sites" "count" "I") (by decide +kernel)) (fun _ h9 => h9) rfl dX5_add_1 ?_
  refine lv_iconst (v := 5) hx hb dX5_add_4 (by decide) ?_
  refine lv_icmp_lt (tgt := 10) hx hb dX5_add_5 (by decide) (fun _ => ?_) (fun c9 => absurd (show (0 : Int32) < (5 : Int32) from (by decide)) c9)
  refine lv_aload_n hx hb dX5_add_10 rfl (lv_at hl 0 rfl) ?_
  refine va_get (D := D) (ci := 5) (v := .ref aS1) (C := RX5) (T := TX5) (N := 3) hx hb hts in5 hown hK hP 0 rfl rfl 1 (by decide) (hts (.fieldLink RX5 9 "Granary$Sites" "room" "[I") (by decide +kernel)) (fun _ h9 => h9) rfl dX5_add_11 ?_
  refine lv_aload_n hx hb dX5_add_14 rfl (lv_at hl 0 rfl) ?_
  refine va_get (D := D) (ci := 5) (v := .int 0) (C := RX5) (T := TX5) (N := 3) hx hb hts in5 hown hK hP 0 rfl rfl 0 (by decide) (hts (.fieldLink RX5 18 "Granary$Sites" "count" "I") (by decide +kernel)) (fun _ h9 => h9) rfl dX5_add_15 ?_
  refine lv_iload_n hx hb dX5_add_18 rfl (lv_at hl 1 rfl) ?_
  refine va_iast hx hb hK hP hD hS 1 0 rfl rfl (by unfold vp_in; decide) dX5_add_19 (fun H locs hP hD hS => ?_)
  replace hP : va_P D vwCl [(aS, .inr (5, [.int 0, .ref aS1, .ref aS2])), (aS1, .inl (cI, 5, .inl (upd (fun _ => 0) (Int32.toNatClampNeg 0) p0))), (aS2, .inl (cI, 25, .inl (fun _ => 0)))] H := hP
  replace hD : va_D A [(aS, .inr (5, [.int 0, .ref aS1, .ref aS2])), (aS1, .inl (cI, 5, .inl (upd (fun _ => 0) (Int32.toNatClampNeg 0) p0))), (aS2, .inl (cI, 25, .inl (fun _ => 0)))] := hD
  refine lv_aload_n hx hb dX5_add_20 rfl (lv_at hl 0 rfl) ?_
  refine lv_dup hx hb dX5_add_21 rfl ?_
  refine va_get (D := D) (ci := 5) (v := .int 0) (C := RX5) (T := TX5) (N := 3) hx hb hts in5 hown hK hP 0 rfl rfl 0 (by decide) (hts (.fieldLink RX5 18 "Granary$Sites" "count" "I") (by decide +kernel)) (fun _ h9 => h9) rfl dX5_add_22 ?_
  refine lv_iconst (v := 1) hx hb dX5_add_25 (by decide) ?_
  refine lv_iadd hx hb dX5_add_26 ?_
  refine lv_toi (y := 1) (by decide) ?_
  refine va_put (D := D) (ci := 5) (v := .int 1) (ty := .int) (C := RX5) (T := TX5) (N := 3) hx hb hts in5 tyX5 tyX5_ok nmX5 hown hK hP hD hS 0 rfl rfl 0 (by decide) (hts (.fieldLink RX5 18 "Granary$Sites" "count" "I") (by decide +kernel)) (fun _ h9 => h9) rfl (by decide +kernel) rfl rfl (Nat.le_of_ble_eq_true rfl) dX5_add_27 (fun H locs hP hD hS => ?_)
  replace hP : va_P D vwCl [(aS, .inr (5, [.int 1, .ref aS1, .ref aS2])), (aS1, .inl (cI, 5, .inl (upd (fun _ => 0) (Int32.toNatClampNeg 0) p0))), (aS2, .inl (cI, 25, .inl (fun _ => 0)))] H := hP
  replace hD : va_D A [(aS, .inr (5, [.int 1, .ref aS1, .ref aS2])), (aS1, .inl (cI, 5, .inl (upd (fun _ => 0) (Int32.toNatClampNeg 0) p0))), (aS2, .inl (cI, 25, .inl (fun _ => 0)))] := hD
  refine lv_aload_n hx hb dX5_add_30 rfl (lv_at hl 0 rfl) ?_
  refine va_get (D := D) (ci := 5) (v := .int 1) (C := RX5) (T := TX5) (N := 3) hx hb hts in5 hown hK hP 0 rfl rfl 0 (by decide) (hts (.fieldLink RX5 18 "Granary$Sites" "count" "I") (by decide +kernel)) (fun _ h9 => h9) rfl dX5_add_31 ?_
  refine lv_iconst (v := 1) hx hb dX5_add_34 (by decide) ?_
  refine lv_isub hx hb dX5_add_35 ?_
  refine lv_toi (y := 0) (by decide) ?_
  refine W.widen (k := 0) (n := 0) (by omega) (by omega) ?_
  exact W.iret (v := 0) hx hb hr (fun t ht hW => ⟨⟨0, (), rfl, rfl, trivial⟩, hS.F ht⟩) hS.2.2 dX5_add_36

set_option maxHeartbeats 4000000 in
set_option maxRecDepth 100000 in
/-- addItem on a fresh object -/
theorem c_addItem (l : Launch) (hl9 : l.stackTraces = false) (D : va_G) (cI cZ cJ : ClassId) (lo sz : Nat) (g : Nat) (nw : Nat) (la : Nat) (pn : Nat) (dy : Int32) (aI : Nat) (aS : Nat) (aP : Nat) (aL : Nat) (aO : Nat) (aT : Nat) (aA : Nat) (aQ : Nat) (aI1 : Nat) (aI2 : Nat) (aI3 : Nat) (aI4 : Nat) (p0 : Int32) (p1 : Int32) (p2 : Int32) : vx_Met l yX8_addItem wsX8_addItem ({ frames := 8, cells := 4, slots := 24, locals := 124 }) (Pre lo D cI cZ cJ [.ref g, .int p0, .int p1, .int p2] sz [(g, .inr (8, [.ref nw, .ref la, .ref pn])), (nw, .inr (6, [.int dy, .ref aI, .ref aS, .ref aP, .ref aL, .ref aO, .ref aT, .ref aA, .ref aQ])), (aI, .inr (0, [.int 0, .ref aI1, .ref aI2, .ref aI3, .ref aI4])), (aI1, .inl (cI, 6, .inl (fun _ => 0))), (aI2, .inl (cI, 6, .inl (fun _ => 0))), (aI3, .inl (cI, 6, .inl (fun _ => 0))), (aI4, .inl (cI, 6, .inl (fun _ => 0)))]) (va_Qi (fun (r : Int32) (_ : Unit) => r = 0 ∧ ((1 ≤ p0 ∧ p0 ≤ 99) ∧ (1 ≤ p1 ∧ p1 ≤ 99) ∧ (1 ≤ p2 ∧ p2 ≤ 20))) (fun _ t => True) (va_A [(g, .inr (8, [.ref nw, .ref la, .ref pn])), (nw, .inr (6, [.int dy, .ref aI, .ref aS, .ref aP, .ref aL, .ref aO, .ref aT, .ref aA, .ref aQ])), (aI, .inr (0, [.int 0, .ref aI1, .ref aI2, .ref aI3, .ref aI4])), (aI1, .inl (cI, 6, .inl (fun _ => 0))), (aI2, .inl (cI, 6, .inl (fun _ => 0))), (aI3, .inl (cI, 6, .inl (fun _ => 0))), (aI4, .inl (cI, 6, .inl (fun _ => 0)))] sz)) (vx_X (fun _ : Unit => ¬ ((1 ≤ p0 ∧ p0 ≤ 99) ∧ (1 ≤ p1 ∧ p1 ≤ 99) ∧ (1 ≤ p2 ∧ p2 ≤ 20))) (fun E _ _ => E = "java/lang/IllegalArgumentException") (va_A [(g, .inr (8, [.ref nw, .ref la, .ref pn])), (nw, .inr (6, [.int dy, .ref aI, .ref aS, .ref aP, .ref aL, .ref aO, .ref aT, .ref aA, .ref aQ])), (aI, .inr (0, [.int 0, .ref aI1, .ref aI2, .ref aI3, .ref aI4])), (aI1, .inl (cI, 6, .inl (fun _ => 0))), (aI2, .inl (cI, 6, .inl (fun _ => 0))), (aI3, .inl (cI, 6, .inl (fun _ => 0))), (aI4, .inl (cI, 6, .inl (fun _ => 0)))] sz)) 4 24 (va_A [(g, .inr (8, [.ref nw, .ref la, .ref pn])), (nw, .inr (6, [.int dy, .ref aI, .ref aS, .ref aP, .ref aL, .ref aO, .ref aT, .ref aA, .ref aQ])), (aI, .inr (0, [.int 0, .ref aI1, .ref aI2, .ref aI3, .ref aI4])), (aI1, .inl (cI, 6, .inl (fun _ => 0))), (aI2, .inl (cI, 6, .inl (fun _ => 0))), (aI3, .inl (cI, 6, .inl (fun _ => 0))), (aI4, .inl (cI, 6, .inl (fun _ => 0)))] sz) := by
  refine vx_ofW (cc := cX8_addItem) (maxL := 4) (ret := (some .int)) (by decide) rfl ?_
  intro p e s m args below meth c s₁ B hml ht9 hv
  obtain ⟨rfl, hsz, hP, hD0, hC⟩ := hv
  have hx := B.exec
  have hb := B.bytes
  have hr := B.returns
  have hts := atoms_spec (ws := wsX8_addItem) B.pre
  have hown : s.vm.findClass RX8 = some m.cls := findClass_of_methodNamed B.named
  have hlocks := B.notSynchronized
  subst hsz
  have hK := hC.K
  have hD := hD0.self (sz := s.heap.size)
  have hAlo0 := va_A_lo hD0 hC.1
  generalize hAe : va_A [(g, .inr (8, [.ref nw, .ref la, .ref pn])), (nw, .inr (6, [.int dy, .ref aI, .ref aS, .ref aP, .ref aL, .ref aO, .ref aT, .ref aA, .ref aQ])), (aI, .inr (0, [.int 0, .ref aI1, .ref aI2, .ref aI3, .ref aI4])), (aI1, .inl (cI, 6, .inl (fun _ => 0))), (aI2, .inl (cI, 6, .inl (fun _ => 0))), (aI3, .inl (cI, 6, .inl (fun _ => 0))), (aI4, .inl (cI, 6, .inl (fun _ => 0)))] s.heap.size = A at hD hAlo0 ⊢
  have hA : ∀ q : Nat, s.heap.size ≤ q → A q := fun q h => by rw [← hAe]; exact Or.inr h
  have hAlo : ∀ q, A q → lo ≤ q := hAlo0
  have hS : va_S A s.heap s.heap [] := va_S.rf
  have hP : va_P D vwCl [(g, .inr (8, [.ref nw, .ref la, .ref pn])), (nw, .inr (6, [.int dy, .ref aI, .ref aS, .ref aP, .ref aL, .ref aO, .ref aT, .ref aA, .ref aQ])), (aI, .inr (0, [.int 0, .ref aI1, .ref aI2, .ref aI3, .ref aI4])), (aI1, .inl (cI, 6, .inl (fun _ => 0))), (aI2, .inl (cI, 6, .inl (fun _ => 0))), (aI3, .inl (cI, 6, .inl (fun _ => 0))), (aI4, .inl (cI, 6, .inl (fun _ => 0)))] s.heap := hP
  have hl := lv_entry ([.ref g, .int p0, .int p1, .int p2]) (n := 4) (Nat.le_of_ble_eq_true rfl)
  rw [lg_entry_eq]
  generalize (lg_sl ([.ref g, .int p0, .int p1, .int p2]) ++ List.replicate (4 - (lg_sl ([.ref g, .int p0, .int p1, .int p2])).length) Slot.unset).toArray = ls at hl ⊢
  have hl : lv_has ls 4 [(0, .ref g), (1, .int p0), (2, .int p1), (3, .int p2)] := hl
  have in0 : ∀ w ∈ u_ws RX0 TX0 5, w ∈ wsX8_addItem := by decide +kernel
  have in6 : ∀ w ∈ u_ws RX6 TX6 9, w ∈ wsX8_addItem := by decide +kernel
  have in8 : ∀ w ∈ u_ws RX8 TX8 3, w ∈ wsX8_addItem := by decide +kernel
  refine lv_iload_n hx hb dX8_addItem_0 rfl (lv_at hl 1 rfl) ?_
  refine lv_iconst (v := 1) hx hb dX8_addItem_1 (by decide) ?_
  refine lv_bipush (v := 99) hx hb dX8_addItem_2 (by decide) ?_
  have hPc := hP.sub (ws' := []) [] rfl
  have hDc := hD.sub (ws' := []) [] (by decide) rfl
  have hFc := va_free (wc := []) hD hS hA [] rfl
  refine vx_callv (vx_runS (As := [.int p0, .int 1, .int 99]) (rest := []) ⟨hx, hb, hml, hown, hts⟩ (c_needWithin l hl9 D cI cZ cJ lo s.heap.size p0 1 99) (va_cwS 3 hts gX8_addItem_X8_needWithin rfl rfl rfl (by decide +kernel) ⟨(Nat.le_of_ble_eq_true rfl), (Nat.le_of_ble_eq_true rfl)⟩) ⟨Pre.blind, Pre.mk hPc (hDc.weaken (fun _ _ _ h => hAlo _ h)) hC hS hAlo⟩ rfl rfl hl.1 rfl (lv_room (Nat.le_of_ble_eq_true rfl)) dX8_addItem_4 ⟨(Nat.le_of_ble_eq_true rfl), (Nat.le_of_ble_eq_true rfl)⟩) hS (fun q _ h => hFc q h) hFc (fun q _ h => hFc q h) (fun E ce q9 u t H1 locs1 ht hvm hpx hbx hz1 hk1 hS1 hce hcv hcl => ?_) (fun u t H1 locs1 ht hvm e_1 hB hz1 hk1 hS1 => ?_)
  · have px_2 : ¬ ((1 : Int32) ≤ p0 ∧ p0 ≤ (99 : Int32)) := hpx
    have hE : E = "java/lang/IllegalArgumentException" := hbx
    subst hE
    exact vx_out (fun x9 h9 => (ht9 x9 h9).elim) hlocks hce hcv hcl (fun t9 ht9b _ => ⟨(), fun h9 => px_2 h9.1, rfl, hS1.F ht9b⟩) hS1.2.2 (by omega) (by omega)
  · skip
    have hS := hS1
    refine W.widen (k := 1) (n := 6) (by omega) (by omega) ?_
    obtain ⟨hP, hD⟩ := va_rest (wr := [(g, .inr (8, [.ref nw, .ref la, .ref pn])), (nw, .inr (6, [.int dy, .ref aI, .ref aS, .ref aP, .ref aL, .ref aO, .ref aT, .ref aA, .ref aQ])), (aI, .inr (0, [.int 0, .ref aI1, .ref aI2, .ref aI3, .ref aI4])), (aI1, .inl (cI, 6, .inl (fun _ => 0))), (aI2, .inl (cI, 6, .inl (fun _ => 0))), (aI3, .inl (cI, 6, .inl (fun _ => 0))), (aI4, .inl (cI, 6, .inl (fun _ => 0)))]) hP hD [] [0, 1, 2, 3, 4, 5, 6] rfl rfl (by decide) (by decide) hk1 hFc
    have e_1 : (1 : Int32) ≤ p0 ∧ p0 ≤ (99 : Int32) := e_1
    clear ht hvm hz1 hk1 hS1 hB
    generalize H1 = H at hP hS ⊢
    replace hP : va_P D vwCl [(g, .inr (8, [.ref nw, .ref la, .ref pn])), (nw, .inr (6, [.int dy, .ref aI, .ref aS, .ref aP, .ref aL, .ref aO, .ref aT, .ref aA, .ref aQ])), (aI, .inr (0, [.int 0, .ref aI1, .ref aI2, .ref aI3, .ref aI4])), (aI1, .inl (cI, 6, .inl (fun _ => 0))), (aI2, .inl (cI, 6, .inl (fun _ => 0))), (aI3, .inl (cI, 6, .inl (fun _ => 0))), (aI4, .inl (cI, 6, .inl (fun _ => 0)))] H := hP
    replace hD : va_D A [(g, .inr (8, [.ref nw, .ref la, .ref pn])), (nw, .inr (6, [.int dy, .ref aI, .ref aS, .ref aP, .ref aL, .ref aO, .ref aT, .ref aA, .ref aQ])), (aI, .inr (0, [.int 0, .ref aI1, .ref aI2, .ref aI3, .ref aI4])), (aI1, .inl (cI, 6, .inl (fun _ => 0))), (aI2, .inl (cI, 6, .inl (fun _ => 0))), (aI3, .inl (cI, 6, .inl (fun _ => 0))), (aI4, .inl (cI, 6, .inl (fun _ => 0)))] := hD
    refine lv_iload_n hx hb dX8_addItem_7 rfl (lv_at hl 2 rfl) ?_
    refine lv_iconst (v := 1) hx hb dX8_addItem_8 (by decide) ?_
    refine lv_bipush (v := 99) hx hb dX8_addItem_9 (by decide) ?_
    have hPc := hP.sub (ws' := []) [] rfl
    have hDc := hD.sub (ws' := []) [] (by decide) rfl
    have hFc := va_free (wc := []) hD hS hA [] rfl
    refine vx_callv (vx_runS (As := [.int p1, .int 1, .int 99]) (rest := []) ⟨hx, hb, hml, hown, hts⟩ (c_needWithin l hl9 D cI cZ cJ lo H.size p1 1 99) (va_cwS 3 hts gX8_addItem_X8_needWithin rfl rfl rfl (by decide +kernel) ⟨(Nat.le_of_ble_eq_true rfl), (Nat.le_of_ble_eq_true rfl)⟩) ⟨Pre.blind, Pre.mk hPc (hDc.weaken (fun _ _ _ h => hAlo _ h)) hC hS hAlo⟩ rfl rfl hl.1 rfl (lv_room (Nat.le_of_ble_eq_true rfl)) dX8_addItem_11 ⟨(Nat.le_of_ble_eq_true rfl), (Nat.le_of_ble_eq_true rfl)⟩) hS (fun q _ h => hFc q h) hFc (fun q _ h => hFc q h) (fun E ce q9 u t H1 locs1 ht hvm hpx hbx hz1 hk1 hS1 hce hcv hcl => ?_) (fun u t H1 locs1 ht hvm e_3 hB hz1 hk1 hS1 => ?_)
    · have px_4 : ¬ ((1 : Int32) ≤ p1 ∧ p1 ≤ (99 : Int32)) := hpx
      have hE : E = "java/lang/IllegalArgumentException" := hbx
      subst hE
      exact vx_out (fun x9 h9 => (ht9 x9 h9).elim) hlocks hce hcv hcl (fun t9 ht9b _ => ⟨(), fun h9 => px_4 h9.2.1, rfl, hS1.F ht9b⟩) hS1.2.2 (by omega) (by omega)
    · skip
      have hS := hS1
      refine W.widen (k := 2) (n := 12) (by omega) (by omega) ?_
      obtain ⟨hP, hD⟩ := va_rest (wr := [(g, .inr (8, [.ref nw, .ref la, .ref pn])), (nw, .inr (6, [.int dy, .ref aI, .ref aS, .ref aP, .ref aL, .ref aO, .ref aT, .ref aA, .ref aQ])), (aI, .inr (0, [.int 0, .ref aI1, .ref aI2, .ref aI3, .ref aI4])), (aI1, .inl (cI, 6, .inl (fun _ => 0))), (aI2, .inl (cI, 6, .inl (fun _ => 0))), (aI3, .inl (cI, 6, .inl (fun _ => 0))), (aI4, .inl (cI, 6, .inl (fun _ => 0)))]) hP hD [] [0, 1, 2, 3, 4, 5, 6] rfl rfl (by decide) (by decide) hk1 hFc
      have e_3 : (1 : Int32) ≤ p1 ∧ p1 ≤ (99 : Int32) := e_3
      clear ht hvm hz1 hk1 hS1 hB
      generalize H1 = H at hP hS ⊢
      replace hP : va_P D vwCl [(g, .inr (8, [.ref nw, .ref la, .ref pn])), (nw, .inr (6, [.int dy, .ref aI, .ref aS, .ref aP, .ref aL, .ref aO, .ref aT, .ref aA, .ref aQ])), (aI, .inr (0, [.int 0, .ref aI1, .ref aI2, .ref aI3, .ref aI4])), (aI1, .inl (cI, 6, .inl (fun _ => 0))), (aI2, .inl (cI, 6, .inl (fun _ => 0))), (aI3, .inl (cI, 6, .inl (fun _ => 0))), (aI4, .inl (cI, 6, .inl (fun _ => 0)))] H := hP
      replace hD : va_D A [(g, .inr (8, [.ref nw, .ref la, .ref pn])), (nw, .inr (6, [.int dy, .ref aI, .ref aS, .ref aP, .ref aL, .ref aO, .ref aT, .ref aA, .ref aQ])), (aI, .inr (0, [.int 0, .ref aI1, .ref aI2, .ref aI3, .ref aI4])), (aI1, .inl (cI, 6, .inl (fun _ => 0))), (aI2, .inl (cI, 6, .inl (fun _ => 0))), (aI3, .inl (cI, 6, .inl (fun _ => 0))), (aI4, .inl (cI, 6, .inl (fun _ => 0)))] := hD
      refine lv_iload_n hx hb dX8_addItem_14 rfl (lv_at hl 3 rfl) ?_
      refine lv_iconst (v := 1) hx hb dX8_addItem_15 (by decide) ?_
      refine lv_bipush (v := 20) hx hb dX8_addItem_16 (by decide) ?_
      have hPc := hP.sub (ws' := []) [] rfl
      have hDc := hD.sub (ws' := []) [] (by decide) rfl
      have hFc := va_free (wc := []) hD hS hA [] rfl
      refine vx_callv (vx_runS (As := [.int p2, .int 1, .int 20]) (rest := []) ⟨hx, hb, hml, hown, hts⟩ (c_needWithin l hl9 D cI cZ cJ lo H.size p2 1 20) (va_cwS 3 hts gX8_addItem_X8_needWithin rfl rfl rfl (by decide +kernel) ⟨(Nat.le_of_ble_eq_true rfl), (Nat.le_of_ble_eq_true rfl)⟩) ⟨Pre.blind, Pre.mk hPc (hDc.weaken (fun _ _ _ h => hAlo _ h)) hC hS hAlo⟩ rfl rfl hl.1 rfl (lv_room (Nat.le_of_ble_eq_true rfl)) dX8_addItem_18 ⟨(Nat.le_of_ble_eq_true rfl), (Nat.le_of_ble_eq_true rfl)⟩) hS (fun q _ h => hFc q h) hFc (fun q _ h => hFc q h) (fun E ce q9 u t H1 locs1 ht hvm hpx hbx hz1 hk1 hS1 hce hcv hcl => ?_) (fun u t H1 locs1 ht hvm e_5 hB hz1 hk1 hS1 => ?_)
      · have px_6 : ¬ ((1 : Int32) ≤ p2 ∧ p2 ≤ (20 : Int32)) := hpx
        have hE : E = "java/lang/IllegalArgumentException" := hbx
        subst hE
        exact vx_out (fun x9 h9 => (ht9 x9 h9).elim) hlocks hce hcv hcl (fun t9 ht9b _ => ⟨(), fun h9 => px_6 h9.2.2, rfl, hS1.F ht9b⟩) hS1.2.2 (by omega) (by omega)
      · skip
        have hS := hS1
        refine W.widen (k := 3) (n := 18) (by omega) (by omega) ?_
        obtain ⟨hP, hD⟩ := va_rest (wr := [(g, .inr (8, [.ref nw, .ref la, .ref pn])), (nw, .inr (6, [.int dy, .ref aI, .ref aS, .ref aP, .ref aL, .ref aO, .ref aT, .ref aA, .ref aQ])), (aI, .inr (0, [.int 0, .ref aI1, .ref aI2, .ref aI3, .ref aI4])), (aI1, .inl (cI, 6, .inl (fun _ => 0))), (aI2, .inl (cI, 6, .inl (fun _ => 0))), (aI3, .inl (cI, 6, .inl (fun _ => 0))), (aI4, .inl (cI, 6, .inl (fun _ => 0)))]) hP hD [] [0, 1, 2, 3, 4, 5, 6] rfl rfl (by decide) (by decide) hk1 hFc
        have e_5 : (1 : Int32) ≤ p2 ∧ p2 ≤ (20 : Int32) := e_5
        clear ht hvm hz1 hk1 hS1 hB
        generalize H1 = H at hP hS ⊢
        replace hP : va_P D vwCl [(g, .inr (8, [.ref nw, .ref la, .ref pn])), (nw, .inr (6, [.int dy, .ref aI, .ref aS, .ref aP, .ref aL, .ref aO, .ref aT, .ref aA, .ref aQ])), (aI, .inr (0, [.int 0, .ref aI1, .ref aI2, .ref aI3, .ref aI4])), (aI1, .inl (cI, 6, .inl (fun _ => 0))), (aI2, .inl (cI, 6, .inl (fun _ => 0))), (aI3, .inl (cI, 6, .inl (fun _ => 0))), (aI4, .inl (cI, 6, .inl (fun _ => 0)))] H := hP
        replace hD : va_D A [(g, .inr (8, [.ref nw, .ref la, .ref pn])), (nw, .inr (6, [.int dy, .ref aI, .ref aS, .ref aP, .ref aL, .ref aO, .ref aT, .ref aA, .ref aQ])), (aI, .inr (0, [.int 0, .ref aI1, .ref aI2, .ref aI3, .ref aI4])), (aI1, .inl (cI, 6, .inl (fun _ => 0))), (aI2, .inl (cI, 6, .inl (fun _ => 0))), (aI3, .inl (cI, 6, .inl (fun _ => 0))), (aI4, .inl (cI, 6, .inl (fun _ => 0)))] := hD
        refine lv_aload_n hx hb dX8_addItem_21 rfl (lv_at hl 0 rfl) ?_
        refine va_get (D := D) (ci := 8) (v := .ref nw) (C := RX8) (T := TX8) (N := 3) hx hb hts in8 hown hK hP 0 rfl rfl 0 (by decide) (hts (.fieldLink RX8 10 "Granary" "now" "LGranary$Stock;") (by decide +kernel)) (fun _ h9 => h9) rfl dX8_addItem_22 ?_
        refine va_get (D := D) (ci := 6) (v := .ref aI) (C := RX6) (T := TX6) (N := 9) hx hb hts in6 hown hK hP 1 rfl rfl 1 (by decide) (hts (.fieldLink RX8 30 "Granary$Stock" "items" "LGranary$Items;") (by decide +kernel)) (fun _ h9 => h9) rfl dX8_addItem_25 ?_
        refine va_get (D := D) (ci := 0) (v := .int 0) (C := RX0) (T := TX0) (N := 5) hx hb hts in0 hown hK hP 2 rfl rfl 0 (by decide) (hts (.fieldLink RX8 34 "Granary$Items" "count" "I") (by decide +kernel)) (fun _ h9 => h9) rfl dX8_addItem_28 ?_
        refine lv_bipush (v := 6) hx hb dX8_addItem_31 (by decide) ?_
        refine lv_icmp_ge (tgt := 40) hx hb dX8_addItem_33 (by decide) (fun c9 => absurd c9 (show ¬ ((6 : Int32) ≤ (0 : Int32)) from (by decide))) (fun _ => ?_)
        refine lv_iconst (v := 1) hx hb dX8_addItem_36 (by decide) ?_
        refine lv_goto (tgt := 41) hx hb dX8_addItem_37 (by decide) ?_
        have hPc := hP.sub (ws' := []) [] rfl
        have hDc := hD.sub (ws' := []) [] (by decide) rfl
        have hFc := va_free (wc := []) hD hS hA [] rfl
        refine vx_callv (vx_runS (As := [.int 1]) (rest := []) ⟨hx, hb, hml, hown, hts⟩ (c_needState l hl9 D cI cZ cJ lo H.size 1) (va_cwS 1 hts gX8_addItem_X8_needState rfl rfl rfl (by decide +kernel) ⟨(Nat.le_of_ble_eq_true rfl), (Nat.le_of_ble_eq_true rfl)⟩) ⟨Pre.blind, Pre.mk hPc (hDc.weaken (fun _ _ _ h => hAlo _ h)) hC hS hAlo⟩ rfl rfl hl.1 rfl (lv_room (Nat.le_of_ble_eq_true rfl)) dX8_addItem_41 ⟨(Nat.le_of_ble_eq_true rfl), (Nat.le_of_ble_eq_true rfl)⟩) hS (fun q _ h => hFc q h) hFc (fun q _ h => hFc q h) (fun E ce q9 u t H1 locs1 ht hvm hpx hbx hz1 hk1 hS1 hce hcv hcl => ?_) (fun u t H1 locs1 ht hvm e_7 hB hz1 hk1 hS1 => ?_)
        · have px_8 : (1 : Int32) = 0 := hpx
          have hE : E = "java/lang/IllegalStateException" := hbx
          subst hE
          exact absurd px_8 (by decide)
        · skip
          have hS := hS1
          refine W.widen (k := 4) (n := 24) (by omega) (by omega) ?_
          obtain ⟨hP, hD⟩ := va_rest (wr := [(g, .inr (8, [.ref nw, .ref la, .ref pn])), (nw, .inr (6, [.int dy, .ref aI, .ref aS, .ref aP, .ref aL, .ref aO, .ref aT, .ref aA, .ref aQ])), (aI, .inr (0, [.int 0, .ref aI1, .ref aI2, .ref aI3, .ref aI4])), (aI1, .inl (cI, 6, .inl (fun _ => 0))), (aI2, .inl (cI, 6, .inl (fun _ => 0))), (aI3, .inl (cI, 6, .inl (fun _ => 0))), (aI4, .inl (cI, 6, .inl (fun _ => 0)))]) hP hD [] [0, 1, 2, 3, 4, 5, 6] rfl rfl (by decide) (by decide) hk1 hFc
          have e_7 : ¬ (1 : Int32) = 0 := e_7
          clear ht hvm hz1 hk1 hS1 hB
          generalize H1 = H at hP hS ⊢
          replace hP : va_P D vwCl [(g, .inr (8, [.ref nw, .ref la, .ref pn])), (nw, .inr (6, [.int dy, .ref aI, .ref aS, .ref aP, .ref aL, .ref aO, .ref aT, .ref aA, .ref aQ])), (aI, .inr (0, [.int 0, .ref aI1, .ref aI2, .ref aI3, .ref aI4])), (aI1, .inl (cI, 6, .inl (fun _ => 0))), (aI2, .inl (cI, 6, .inl (fun _ => 0))), (aI3, .inl (cI, 6, .inl (fun _ => 0))), (aI4, .inl (cI, 6, .inl (fun _ => 0)))] H := hP
          replace hD : va_D A [(g, .inr (8, [.ref nw, .ref la, .ref pn])), (nw, .inr (6, [.int dy, .ref aI, .ref aS, .ref aP, .ref aL, .ref aO, .ref aT, .ref aA, .ref aQ])), (aI, .inr (0, [.int 0, .ref aI1, .ref aI2, .ref aI3, .ref aI4])), (aI1, .inl (cI, 6, .inl (fun _ => 0))), (aI2, .inl (cI, 6, .inl (fun _ => 0))), (aI3, .inl (cI, 6, .inl (fun _ => 0))), (aI4, .inl (cI, 6, .inl (fun _ => 0)))] := hD
          refine lv_aload_n hx hb dX8_addItem_44 rfl (lv_at hl 0 rfl) ?_
          refine va_get (D := D) (ci := 8) (v := .ref nw) (C := RX8) (T := TX8) (N := 3) hx hb hts in8 hown hK hP 0 rfl rfl 0 (by decide) (hts (.fieldLink RX8 10 "Granary" "now" "LGranary$Stock;") (by decide +kernel)) (fun _ h9 => h9) rfl dX8_addItem_45 ?_
          refine va_get (D := D) (ci := 6) (v := .ref aI) (C := RX6) (T := TX6) (N := 9) hx hb hts in6 hown hK hP 1 rfl rfl 1 (by decide) (hts (.fieldLink RX8 30 "Granary$Stock" "items" "LGranary$Items;") (by decide +kernel)) (fun _ h9 => h9) rfl dX8_addItem_48 ?_
          refine lv_iload_n hx hb dX8_addItem_51 rfl (lv_at hl 1 rfl) ?_
          refine lv_iload_n hx hb dX8_addItem_52 rfl (lv_at hl 2 rfl) ?_
          refine lv_iload_n hx hb dX8_addItem_53 rfl (lv_at hl 3 rfl) ?_
          have hPc := hP.sub (ws' := [(aI, .inr (0, [.int 0, .ref aI1, .ref aI2, .ref aI3, .ref aI4])), (aI1, .inl (cI, 6, .inl (fun _ => 0))), (aI2, .inl (cI, 6, .inl (fun _ => 0))), (aI3, .inl (cI, 6, .inl (fun _ => 0))), (aI4, .inl (cI, 6, .inl (fun _ => 0)))]) [2, 3, 4, 5, 6] rfl
          have hDc := hD.sub (ws' := [(aI, .inr (0, [.int 0, .ref aI1, .ref aI2, .ref aI3, .ref aI4])), (aI1, .inl (cI, 6, .inl (fun _ => 0))), (aI2, .inl (cI, 6, .inl (fun _ => 0))), (aI3, .inl (cI, 6, .inl (fun _ => 0))), (aI4, .inl (cI, 6, .inl (fun _ => 0)))]) [2, 3, 4, 5, 6] (by decide) rfl
          have hFc := va_free (wc := [(aI, .inr (0, [.int 0, .ref aI1, .ref aI2, .ref aI3, .ref aI4])), (aI1, .inl (cI, 6, .inl (fun _ => 0))), (aI2, .inl (cI, 6, .inl (fun _ => 0))), (aI3, .inl (cI, 6, .inl (fun _ => 0))), (aI4, .inl (cI, 6, .inl (fun _ => 0)))]) hD hS hA [2, 3, 4, 5, 6] rfl
          refine va_calli (va_runV (As := [.int p0, .int p1, .int p2]) (rest := []) ⟨hx, hb, hml, hown, hts⟩ (c_X0_add l D cI cZ cJ lo H.size aI aI1 aI2 aI3 aI4 p0 p1 p2) (cwV 3 hts gX8_addItem_X0_add rfl rfl rfl (by decide +kernel) ⟨(Nat.le_of_ble_eq_true rfl), (Nat.le_of_ble_eq_true rfl)⟩) ⟨Pre.blind, va_recv hK hP (ci := 0) (q0 := 2) rfl rfl, Pre.mk hPc (hDc.weaken (fun _ _ _ h => hAlo _ h)) hC hS hAlo⟩ rfl rfl hl.1 rfl (lv_room (Nat.le_of_ble_eq_true rfl)) dX8_addItem_54 ⟨(Nat.le_of_ble_eq_true rfl), (Nat.le_of_ble_eq_true rfl)⟩) hS (fun q _ h => hFc q h) hFc (fun r_9 u t H1 locs1 ht hvm e_10 hB hz1 hk1 hS1 => ?_)
          have hS := hS1
          refine W.widen (k := 4) (n := 24) (by omega) (by omega) ?_
          obtain ⟨hP, hD⟩ := va_rest (wr := [(g, .inr (8, [.ref nw, .ref la, .ref pn])), (nw, .inr (6, [.int dy, .ref aI, .ref aS, .ref aP, .ref aL, .ref aO, .ref aT, .ref aA, .ref aQ]))]) hP hD [2, 3, 4, 5, 6] [0, 1] rfl rfl (by decide) (by decide) hk1 hFc
          have e_10 : 0 = r_9 := Eq.symm e_10
          subst e_10
          clear ht hvm hz1 hk1 hS1 hB
          generalize H1 = H at hP hS ⊢
          replace hP : va_P D vwCl [(g, .inr (8, [.ref nw, .ref la, .ref pn])), (nw, .inr (6, [.int dy, .ref aI, .ref aS, .ref aP, .ref aL, .ref aO, .ref aT, .ref aA, .ref aQ]))] H := hP
          replace hD : va_D A [(g, .inr (8, [.ref nw, .ref la, .ref pn])), (nw, .inr (6, [.int dy, .ref aI, .ref aS, .ref aP, .ref aL, .ref aO, .ref aT, .ref aA, .ref aQ]))] := hD
          refine W.widen (k := 4) (n := 24) (by omega) (by omega) ?_
          refine vx_ret ?_
          exact W.iret (v := 0) hx hb hr (fun t ht hW => ⟨⟨0, (), rfl, ⟨rfl, e_1, e_3, e_5⟩, trivial⟩, hS.F ht⟩) hS.2.2 dX8_addItem_57

set_option maxHeartbeats 4000000 in
set_option maxRecDepth 100000 in
/-- addSite on a fresh object -/
theorem c_addSite (l : Launch) (hl9 : l.stackTraces = false) (D : va_G) (cI cZ cJ : ClassId) (lo sz : Nat) (g : Nat) (nw : Nat) (la : Nat) (pn : Nat) (dy : Int32) (aI : Nat) (aS : Nat) (aP : Nat) (aL : Nat) (aO : Nat) (aT : Nat) (aA : Nat) (aQ : Nat) (aS1 : Nat) (aS2 : Nat) (p0 : Int32) : vx_Met l yX8_addSite wsX8_addSite ({ frames := 8, cells := 2, slots := 12, locals := 124 }) (Pre lo D cI cZ cJ [.ref g, .int p0] sz [(g, .inr (8, [.ref nw, .ref la, .ref pn])), (nw, .inr (6, [.int dy, .ref aI, .ref aS, .ref aP, .ref aL, .ref aO, .ref aT, .ref aA, .ref aQ])), (aS, .inr (5, [.int 0, .ref aS1, .ref aS2])), (aS1, .inl (cI, 5, .inl (fun _ => 0))), (aS2, .inl (cI, 25, .inl (fun _ => 0)))]) (va_Qi (fun (r : Int32) (_ : Unit) => r = 0 ∧ (1 ≤ p0 ∧ p0 ≤ 9999)) (fun _ t => True) (va_A [(g, .inr (8, [.ref nw, .ref la, .ref pn])), (nw, .inr (6, [.int dy, .ref aI, .ref aS, .ref aP, .ref aL, .ref aO, .ref aT, .ref aA, .ref aQ])), (aS, .inr (5, [.int 0, .ref aS1, .ref aS2])), (aS1, .inl (cI, 5, .inl (fun _ => 0))), (aS2, .inl (cI, 25, .inl (fun _ => 0)))] sz)) (vx_X (fun _ : Unit => ¬ (1 ≤ p0 ∧ p0 ≤ 9999)) (fun E _ _ => E = "java/lang/IllegalArgumentException") (va_A [(g, .inr (8, [.ref nw, .ref la, .ref pn])), (nw, .inr (6, [.int dy, .ref aI, .ref aS, .ref aP, .ref aL, .ref aO, .ref aT, .ref aA, .ref aQ])), (aS, .inr (5, [.int 0, .ref aS1, .ref aS2])), (aS1, .inl (cI, 5, .inl (fun _ => 0))), (aS2, .inl (cI, 25, .inl (fun _ => 0)))] sz)) 2 12 (va_A [(g, .inr (8, [.ref nw, .ref la, .ref pn])), (nw, .inr (6, [.int dy, .ref aI, .ref aS, .ref aP, .ref aL, .ref aO, .ref aT, .ref aA, .ref aQ])), (aS, .inr (5, [.int 0, .ref aS1, .ref aS2])), (aS1, .inl (cI, 5, .inl (fun _ => 0))), (aS2, .inl (cI, 25, .inl (fun _ => 0)))] sz) := by
  refine vx_ofW (cc := cX8_addSite) (maxL := 2) (ret := (some .int)) (by decide) rfl ?_
  intro p e s m args below meth c s₁ B hml ht9 hv
  obtain ⟨rfl, hsz, hP, hD0, hC⟩ := hv
  have hx := B.exec
  have hb := B.bytes
  have hr := B.returns
  have hts := atoms_spec (ws := wsX8_addSite) B.pre
  have hown : s.vm.findClass RX8 = some m.cls := findClass_of_methodNamed B.named
  have hlocks := B.notSynchronized
  subst hsz
  have hK := hC.K
  have hD := hD0.self (sz := s.heap.size)
  have hAlo0 := va_A_lo hD0 hC.1
  generalize hAe : va_A [(g, .inr (8, [.ref nw, .ref la, .ref pn])), (nw, .inr (6, [.int dy, .ref aI, .ref aS, .ref aP, .ref aL, .ref aO, .ref aT, .ref aA, .ref aQ])), (aS, .inr (5, [.int 0, .ref aS1, .ref aS2])), (aS1, .inl (cI, 5, .inl (fun _ => 0))), (aS2, .inl (cI, 25, .inl (fun _ => 0)))] s.heap.size = A at hD hAlo0 ⊢
  have hA : ∀ q : Nat, s.heap.size ≤ q → A q := fun q h => by rw [← hAe]; exact Or.inr h
  have hAlo : ∀ q, A q → lo ≤ q := hAlo0
  have hS : va_S A s.heap s.heap [] := va_S.rf
  have hP : va_P D vwCl [(g, .inr (8, [.ref nw, .ref la, .ref pn])), (nw, .inr (6, [.int dy, .ref aI, .ref aS, .ref aP, .ref aL, .ref aO, .ref aT, .ref aA, .ref aQ])), (aS, .inr (5, [.int 0, .ref aS1, .ref aS2])), (aS1, .inl (cI, 5, .inl (fun _ => 0))), (aS2, .inl (cI, 25, .inl (fun _ => 0)))] s.heap := hP
  have hl := lv_entry ([.ref g, .int p0]) (n := 2) (Nat.le_of_ble_eq_true rfl)
  rw [lg_entry_eq]
  generalize (lg_sl ([.ref g, .int p0]) ++ List.replicate (2 - (lg_sl ([.ref g, .int p0])).length) Slot.unset).toArray = ls at hl ⊢
  have hl : lv_has ls 2 [(0, .ref g), (1, .int p0)] := hl
  have in5 : ∀ w ∈ u_ws RX5 TX5 3, w ∈ wsX8_addSite := by decide +kernel
  have in6 : ∀ w ∈ u_ws RX6 TX6 9, w ∈ wsX8_addSite := by decide +kernel
  have in8 : ∀ w ∈ u_ws RX8 TX8 3, w ∈ wsX8_addSite := by decide +kernel
  refine lv_iload_n hx hb dX8_addSite_0 rfl (lv_at hl 1 rfl) ?_
  refine lv_iconst (v := 1) hx hb dX8_addSite_1 (by decide) ?_
  refine lv_sipush (v := 9999) hx hb dX8_addSite_2 (by decide) ?_
  have hPc := hP.sub (ws' := []) [] rfl
  have hDc := hD.sub (ws' := []) [] (by decide) rfl
  have hFc := va_free (wc := []) hD hS hA [] rfl
  refine vx_callv (vx_runS (As := [.int p0, .int 1, .int 9999]) (rest := []) ⟨hx, hb, hml, hown, hts⟩ (c_needWithin l hl9 D cI cZ cJ lo s.heap.size p0 1 9999) (va_cwS 3 hts gX8_addSite_X8_needWithin rfl rfl rfl (by decide +kernel) ⟨(Nat.le_of_ble_eq_true rfl), (Nat.le_of_ble_eq_true rfl)⟩) ⟨Pre.blind, Pre.mk hPc (hDc.weaken (fun _ _ _ h => hAlo _ h)) hC hS hAlo⟩ rfl rfl hl.1 rfl (lv_room (Nat.le_of_ble_eq_true rfl)) dX8_addSite_5 ⟨(Nat.le_of_ble_eq_true rfl), (Nat.le_of_ble_eq_true rfl)⟩) hS (fun q _ h => hFc q h) hFc (fun q _ h => hFc q h) (fun E ce q9 u t H1 locs1 ht hvm hpx hbx hz1 hk1 hS1 hce hcv hcl => ?_) (fun u t H1 locs1 ht hvm e_1 hB hz1 hk1 hS1 => ?_)
  · have px_2 : ¬ ((1 : Int32) ≤ p0 ∧ p0 ≤ (9999 : Int32)) := hpx
    have hE : E = "java/lang/IllegalArgumentException" := hbx
    subst hE
    exact vx_out (fun x9 h9 => (ht9 x9 h9).elim) hlocks hce hcv hcl (fun t9 ht9b _ => ⟨(), fun h9 => px_2 h9, rfl, hS1.F ht9b⟩) hS1.2.2 (by omega) (by omega)
  · skip
    have hS := hS1
    refine W.widen (k := 1) (n := 6) (by omega) (by omega) ?_
    obtain ⟨hP, hD⟩ := va_rest (wr := [(g, .inr (8, [.ref nw, .ref la, .ref pn])), (nw, .inr (6, [.int dy, .ref aI, .ref aS, .ref aP, .ref aL, .ref aO, .ref aT, .ref aA, .ref aQ])), (aS, .inr (5, [.int 0, .ref aS1, .ref aS2])), (aS1, .inl (cI, 5, .inl (fun _ => 0))), (aS2, .inl (cI, 25, .inl (fun _ => 0)))]) hP hD [] [0, 1, 2, 3, 4] rfl rfl (by decide) (by decide) hk1 hFc
    have e_1 : (1 : Int32) ≤ p0 ∧ p0 ≤ (9999 : Int32) := e_1
    clear ht hvm hz1 hk1 hS1 hB
    generalize H1 = H at hP hS ⊢
    replace hP : va_P D vwCl [(g, .inr (8, [.ref nw, .ref la, .ref pn])), (nw, .inr (6, [.int dy, .ref aI, .ref aS, .ref aP, .ref aL, .ref aO, .ref aT, .ref aA, .ref aQ])), (aS, .inr (5, [.int 0, .ref aS1, .ref aS2])), (aS1, .inl (cI, 5, .inl (fun _ => 0))), (aS2, .inl (cI, 25, .inl (fun _ => 0)))] H := hP
    replace hD : va_D A [(g, .inr (8, [.ref nw, .ref la, .ref pn])), (nw, .inr (6, [.int dy, .ref aI, .ref aS, .ref aP, .ref aL, .ref aO, .ref aT, .ref aA, .ref aQ])), (aS, .inr (5, [.int 0, .ref aS1, .ref aS2])), (aS1, .inl (cI, 5, .inl (fun _ => 0))), (aS2, .inl (cI, 25, .inl (fun _ => 0)))] := hD
    refine lv_aload_n hx hb dX8_addSite_8 rfl (lv_at hl 0 rfl) ?_
    refine va_get (D := D) (ci := 8) (v := .ref nw) (C := RX8) (T := TX8) (N := 3) hx hb hts in8 hown hK hP 0 rfl rfl 0 (by decide) (hts (.fieldLink RX8 10 "Granary" "now" "LGranary$Stock;") (by decide +kernel)) (fun _ h9 => h9) rfl dX8_addSite_9 ?_
    refine va_get (D := D) (ci := 6) (v := .ref aS) (C := RX6) (T := TX6) (N := 9) hx hb hts in6 hown hK hP 1 rfl rfl 2 (by decide) (hts (.fieldLink RX8 48 "Granary$Stock" "sites" "LGranary$Sites;") (by decide +kernel)) (fun _ h9 => h9) rfl dX8_addSite_12 ?_
    refine va_get (D := D) (ci := 5) (v := .int 0) (C := RX5) (T := TX5) (N := 3) hx hb hts in5 hown hK hP 2 rfl rfl 0 (by decide) (hts (.fieldLink RX8 52 "Granary$Sites" "count" "I") (by decide +kernel)) (fun _ h9 => h9) rfl dX8_addSite_15 ?_
    refine lv_iconst (v := 5) hx hb dX8_addSite_18 (by decide) ?_
    refine lv_icmp_ge (tgt := 26) hx hb dX8_addSite_19 (by decide) (fun c9 => absurd c9 (show ¬ ((5 : Int32) ≤ (0 : Int32)) from (by decide))) (fun _ => ?_)
    refine lv_iconst (v := 1) hx hb dX8_addSite_22 (by decide) ?_
    refine lv_goto (tgt := 27) hx hb dX8_addSite_23 (by decide) ?_
    have hPc := hP.sub (ws' := []) [] rfl
    have hDc := hD.sub (ws' := []) [] (by decide) rfl
    have hFc := va_free (wc := []) hD hS hA [] rfl
    refine vx_callv (vx_runS (As := [.int 1]) (rest := []) ⟨hx, hb, hml, hown, hts⟩ (c_needState l hl9 D cI cZ cJ lo H.size 1) (va_cwS 1 hts gX8_addSite_X8_needState rfl rfl rfl (by decide +kernel) ⟨(Nat.le_of_ble_eq_true rfl), (Nat.le_of_ble_eq_true rfl)⟩) ⟨Pre.blind, Pre.mk hPc (hDc.weaken (fun _ _ _ h => hAlo _ h)) hC hS hAlo⟩ rfl rfl hl.1 rfl (lv_room (Nat.le_of_ble_eq_true rfl)) dX8_addSite_27 ⟨(Nat.le_of_ble_eq_true rfl), (Nat.le_of_ble_eq_true rfl)⟩) hS (fun q _ h => hFc q h) hFc (fun q _ h => hFc q h) (fun E ce q9 u t H1 locs1 ht hvm hpx hbx hz1 hk1 hS1 hce hcv hcl => ?_) (fun u t H1 locs1 ht hvm e_3 hB hz1 hk1 hS1 => ?_)
    · have px_4 : (1 : Int32) = 0 := hpx
      have hE : E = "java/lang/IllegalStateException" := hbx
      subst hE
      exact absurd px_4 (by decide)
    · skip
      have hS := hS1
      refine W.widen (k := 2) (n := 12) (by omega) (by omega) ?_
      obtain ⟨hP, hD⟩ := va_rest (wr := [(g, .inr (8, [.ref nw, .ref la, .ref pn])), (nw, .inr (6, [.int dy, .ref aI, .ref aS, .ref aP, .ref aL, .ref aO, .ref aT, .ref aA, .ref aQ])), (aS, .inr (5, [.int 0, .ref aS1, .ref aS2])), (aS1, .inl (cI, 5, .inl (fun _ => 0))), (aS2, .inl (cI, 25, .inl (fun _ => 0)))]) hP hD [] [0, 1, 2, 3, 4] rfl rfl (by decide) (by decide) hk1 hFc
      have e_3 : ¬ (1 : Int32) = 0 := e_3
      clear ht hvm hz1 hk1 hS1 hB
      generalize H1 = H at hP hS ⊢
      replace hP : va_P D vwCl [(g, .inr (8, [.ref nw, .ref la, .ref pn])), (nw, .inr (6, [.int dy, .ref aI, .ref aS, .ref aP, .ref aL, .ref aO, .ref aT, .ref aA, .ref aQ])), (aS, .inr (5, [.int 0, .ref aS1, .ref aS2])), (aS1, .inl (cI, 5, .inl (fun _ => 0))), (aS2, .inl (cI, 25, .inl (fun _ => 0)))] H := hP
      replace hD : va_D A [(g, .inr (8, [.ref nw, .ref la, .ref pn])), (nw, .inr (6, [.int dy, .ref aI, .ref aS, .ref aP, .ref aL, .ref aO, .ref aT, .ref aA, .ref aQ])), (aS, .inr (5, [.int 0, .ref aS1, .ref aS2])), (aS1, .inl (cI, 5, .inl (fun _ => 0))), (aS2, .inl (cI, 25, .inl (fun _ => 0)))] := hD
      refine lv_aload_n hx hb dX8_addSite_30 rfl (lv_at hl 0 rfl) ?_
      refine va_get (D := D) (ci := 8) (v := .ref nw) (C := RX8) (T := TX8) (N := 3) hx hb hts in8 hown hK hP 0 rfl rfl 0 (by decide) (hts (.fieldLink RX8 10 "Granary" "now" "LGranary$Stock;") (by decide +kernel)) (fun _ h9 => h9) rfl dX8_addSite_31 ?_
      refine va_get (D := D) (ci := 6) (v := .ref aS) (C := RX6) (T := TX6) (N := 9) hx hb hts in6 hown hK hP 1 rfl rfl 2 (by decide) (hts (.fieldLink RX8 48 "Granary$Stock" "sites" "LGranary$Sites;") (by decide +kernel)) (fun _ h9 => h9) rfl dX8_addSite_34 ?_
      refine lv_iload_n hx hb dX8_addSite_37 rfl (lv_at hl 1 rfl) ?_
      have hPc := hP.sub (ws' := [(aS, .inr (5, [.int 0, .ref aS1, .ref aS2])), (aS1, .inl (cI, 5, .inl (fun _ => 0))), (aS2, .inl (cI, 25, .inl (fun _ => 0)))]) [2, 3, 4] rfl
      have hDc := hD.sub (ws' := [(aS, .inr (5, [.int 0, .ref aS1, .ref aS2])), (aS1, .inl (cI, 5, .inl (fun _ => 0))), (aS2, .inl (cI, 25, .inl (fun _ => 0)))]) [2, 3, 4] (by decide) rfl
      have hFc := va_free (wc := [(aS, .inr (5, [.int 0, .ref aS1, .ref aS2])), (aS1, .inl (cI, 5, .inl (fun _ => 0))), (aS2, .inl (cI, 25, .inl (fun _ => 0)))]) hD hS hA [2, 3, 4] rfl
      refine va_calli (va_runV (As := [.int p0]) (rest := []) ⟨hx, hb, hml, hown, hts⟩ (c_X5_add l D cI cZ cJ lo H.size aS aS1 aS2 p0) (cwV 1 hts gX8_addSite_X5_add rfl rfl rfl (by decide +kernel) ⟨(Nat.le_of_ble_eq_true rfl), (Nat.le_of_ble_eq_true rfl)⟩) ⟨Pre.blind, va_recv hK hP (ci := 5) (q0 := 2) rfl rfl, Pre.mk hPc (hDc.weaken (fun _ _ _ h => hAlo _ h)) hC hS hAlo⟩ rfl rfl hl.1 rfl (lv_room (Nat.le_of_ble_eq_true rfl)) dX8_addSite_38 ⟨(Nat.le_of_ble_eq_true rfl), (Nat.le_of_ble_eq_true rfl)⟩) hS (fun q _ h => hFc q h) hFc (fun r_5 u t H1 locs1 ht hvm e_6 hB hz1 hk1 hS1 => ?_)
      have hS := hS1
      refine W.widen (k := 2) (n := 12) (by omega) (by omega) ?_
      obtain ⟨hP, hD⟩ := va_rest (wr := [(g, .inr (8, [.ref nw, .ref la, .ref pn])), (nw, .inr (6, [.int dy, .ref aI, .ref aS, .ref aP, .ref aL, .ref aO, .ref aT, .ref aA, .ref aQ]))]) hP hD [2, 3, 4] [0, 1] rfl rfl (by decide) (by decide) hk1 hFc
      have e_6 : 0 = r_5 := Eq.symm e_6
      subst e_6
      clear ht hvm hz1 hk1 hS1 hB
      generalize H1 = H at hP hS ⊢
      replace hP : va_P D vwCl [(g, .inr (8, [.ref nw, .ref la, .ref pn])), (nw, .inr (6, [.int dy, .ref aI, .ref aS, .ref aP, .ref aL, .ref aO, .ref aT, .ref aA, .ref aQ]))] H := hP
      replace hD : va_D A [(g, .inr (8, [.ref nw, .ref la, .ref pn])), (nw, .inr (6, [.int dy, .ref aI, .ref aS, .ref aP, .ref aL, .ref aO, .ref aT, .ref aA, .ref aQ]))] := hD
      refine W.widen (k := 2) (n := 12) (by omega) (by omega) ?_
      refine vx_ret ?_
      exact W.iret (v := 0) hx hb hr (fun t ht hW => ⟨⟨0, (), rfl, ⟨rfl, e_1⟩, trivial⟩, hS.F ht⟩) hS.2.2 dX8_addSite_41

set_option maxHeartbeats 4000000 in
set_option maxRecDepth 100000 in
/-- account on a fresh object -/
theorem c_account (l : Launch) (hl9 : l.stackTraces = false) (D : va_G) (cI cZ cJ : ClassId) (lo sz : Nat) (g : Nat) (nw : Nat) (la : Nat) (pn : Nat) (dy : Int32) (aI : Nat) (aS : Nat) (aP : Nat) (aL : Nat) (aO : Nat) (aT : Nat) (aA : Nat) (aQ : Nat) (p0 : Int32) : vx_Met l yX8_account wsX8_account ({ frames := 8, cells := 1, slots := 6, locals := 124 }) (Pre lo D cI cZ cJ [.ref g, .int p0] sz [(g, .inr (8, [.ref nw, .ref la, .ref pn])), (nw, .inr (6, [.int dy, .ref aI, .ref aS, .ref aP, .ref aL, .ref aO, .ref aT, .ref aA, .ref aQ])), (aA, .inl (cI, 5, .inl (fun _ => 0)))]) (va_Qi (fun (r : Int32) (_ : Unit) => r = 0 ∧ (0 ≤ p0 ∧ p0 ≤ 4)) (fun _ t => True) (va_A [(g, .inr (8, [.ref nw, .ref la, .ref pn])), (nw, .inr (6, [.int dy, .ref aI, .ref aS, .ref aP, .ref aL, .ref aO, .ref aT, .ref aA, .ref aQ])), (aA, .inl (cI, 5, .inl (fun _ => 0)))] sz)) (vx_X (fun _ : Unit => ¬ (0 ≤ p0 ∧ p0 ≤ 4)) (fun E _ _ => E = "java/lang/IllegalArgumentException") (va_A [(g, .inr (8, [.ref nw, .ref la, .ref pn])), (nw, .inr (6, [.int dy, .ref aI, .ref aS, .ref aP, .ref aL, .ref aO, .ref aT, .ref aA, .ref aQ])), (aA, .inl (cI, 5, .inl (fun _ => 0)))] sz)) 1 6 (va_A [(g, .inr (8, [.ref nw, .ref la, .ref pn])), (nw, .inr (6, [.int dy, .ref aI, .ref aS, .ref aP, .ref aL, .ref aO, .ref aT, .ref aA, .ref aQ])), (aA, .inl (cI, 5, .inl (fun _ => 0)))] sz) := by
  refine vx_ofW (cc := cX8_account) (maxL := 2) (ret := (some .int)) (by decide) rfl ?_
  intro p e s m args below meth c s₁ B hml ht9 hv
  obtain ⟨rfl, hsz, hP, hD0, hC⟩ := hv
  have hx := B.exec
  have hb := B.bytes
  have hr := B.returns
  have hts := atoms_spec (ws := wsX8_account) B.pre
  have hown : s.vm.findClass RX8 = some m.cls := findClass_of_methodNamed B.named
  have hlocks := B.notSynchronized
  subst hsz
  have hK := hC.K
  have hD := hD0.self (sz := s.heap.size)
  have hAlo0 := va_A_lo hD0 hC.1
  generalize hAe : va_A [(g, .inr (8, [.ref nw, .ref la, .ref pn])), (nw, .inr (6, [.int dy, .ref aI, .ref aS, .ref aP, .ref aL, .ref aO, .ref aT, .ref aA, .ref aQ])), (aA, .inl (cI, 5, .inl (fun _ => 0)))] s.heap.size = A at hD hAlo0 ⊢
  have hA : ∀ q : Nat, s.heap.size ≤ q → A q := fun q h => by rw [← hAe]; exact Or.inr h
  have hAlo : ∀ q, A q → lo ≤ q := hAlo0
  have hS : va_S A s.heap s.heap [] := va_S.rf
  have hP : va_P D vwCl [(g, .inr (8, [.ref nw, .ref la, .ref pn])), (nw, .inr (6, [.int dy, .ref aI, .ref aS, .ref aP, .ref aL, .ref aO, .ref aT, .ref aA, .ref aQ])), (aA, .inl (cI, 5, .inl (fun _ => 0)))] s.heap := hP
  have hl := lv_entry ([.ref g, .int p0]) (n := 2) (Nat.le_of_ble_eq_true rfl)
  rw [lg_entry_eq]
  generalize (lg_sl ([.ref g, .int p0]) ++ List.replicate (2 - (lg_sl ([.ref g, .int p0])).length) Slot.unset).toArray = ls at hl ⊢
  have hl : lv_has ls 2 [(0, .ref g), (1, .int p0)] := hl
  have in6 : ∀ w ∈ u_ws RX6 TX6 9, w ∈ wsX8_account := by decide +kernel
  have in8 : ∀ w ∈ u_ws RX8 TX8 3, w ∈ wsX8_account := by decide +kernel
  refine lv_iload_n hx hb dX8_account_0 rfl (lv_at hl 1 rfl) ?_
  refine lv_iconst (v := 0) hx hb dX8_account_1 (by decide) ?_
  refine lv_iconst (v := 4) hx hb dX8_account_2 (by decide) ?_
  have hPc := hP.sub (ws' := []) [] rfl
  have hDc := hD.sub (ws' := []) [] (by decide) rfl
  have hFc := va_free (wc := []) hD hS hA [] rfl
  refine vx_callv (vx_runS (As := [.int p0, .int 0, .int 4]) (rest := []) ⟨hx, hb, hml, hown, hts⟩ (c_needWithin l hl9 D cI cZ cJ lo s.heap.size p0 0 4) (va_cwS 3 hts gX8_account_X8_needWithin rfl rfl rfl (by decide +kernel) ⟨(Nat.le_of_ble_eq_true rfl), (Nat.le_of_ble_eq_true rfl)⟩) ⟨Pre.blind, Pre.mk hPc (hDc.weaken (fun _ _ _ h => hAlo _ h)) hC hS hAlo⟩ rfl rfl hl.1 rfl (lv_room (Nat.le_of_ble_eq_true rfl)) dX8_account_3 ⟨(Nat.le_of_ble_eq_true rfl), (Nat.le_of_ble_eq_true rfl)⟩) hS (fun q _ h => hFc q h) hFc (fun q _ h => hFc q h) (fun E ce q9 u t H1 locs1 ht hvm hpx hbx hz1 hk1 hS1 hce hcv hcl => ?_) (fun u t H1 locs1 ht hvm e_1 hB hz1 hk1 hS1 => ?_)
  · have px_2 : ¬ ((0 : Int32) ≤ p0 ∧ p0 ≤ (4 : Int32)) := hpx
    have hE : E = "java/lang/IllegalArgumentException" := hbx
    subst hE
    exact vx_out (fun x9 h9 => (ht9 x9 h9).elim) hlocks hce hcv hcl (fun t9 ht9b _ => ⟨(), px_2, rfl, hS1.F ht9b⟩) hS1.2.2 (by omega) (by omega)
  · skip
    have hS := hS1
    refine W.widen (k := 1) (n := 6) (by omega) (by omega) ?_
    obtain ⟨hP, hD⟩ := va_rest (wr := [(g, .inr (8, [.ref nw, .ref la, .ref pn])), (nw, .inr (6, [.int dy, .ref aI, .ref aS, .ref aP, .ref aL, .ref aO, .ref aT, .ref aA, .ref aQ])), (aA, .inl (cI, 5, .inl (fun _ => 0)))]) hP hD [] [0, 1, 2] rfl rfl (by decide) (by decide) hk1 hFc
    have e_1 : (0 : Int32) ≤ p0 ∧ p0 ≤ (4 : Int32) := e_1
    clear ht hvm hz1 hk1 hS1 hB
    generalize H1 = H at hP hS ⊢
    replace hP : va_P D vwCl [(g, .inr (8, [.ref nw, .ref la, .ref pn])), (nw, .inr (6, [.int dy, .ref aI, .ref aS, .ref aP, .ref aL, .ref aO, .ref aT, .ref aA, .ref aQ])), (aA, .inl (cI, 5, .inl (fun _ => 0)))] H := hP
    replace hD : va_D A [(g, .inr (8, [.ref nw, .ref la, .ref pn])), (nw, .inr (6, [.int dy, .ref aI, .ref aS, .ref aP, .ref aL, .ref aO, .ref aT, .ref aA, .ref aQ])), (aA, .inl (cI, 5, .inl (fun _ => 0)))] := hD
    refine lv_aload_n hx hb dX8_account_6 rfl (lv_at hl 0 rfl) ?_
    refine va_get (D := D) (ci := 8) (v := .ref nw) (C := RX8) (T := TX8) (N := 3) hx hb hts in8 hown hK hP 0 rfl rfl 0 (by decide) (hts (.fieldLink RX8 10 "Granary" "now" "LGranary$Stock;") (by decide +kernel)) (fun _ h9 => h9) rfl dX8_account_7 ?_
    refine va_get (D := D) (ci := 6) (v := .ref aA) (C := RX6) (T := TX6) (N := 9) hx hb hts in6 hown hK hP 1 rfl rfl 7 (by decide) (hts (.fieldLink RX8 119 "Granary$Stock" "account" "[I") (by decide +kernel)) (fun _ h9 => h9) rfl dX8_account_10 ?_
    refine lv_iload_n hx hb dX8_account_13 rfl (lv_at hl 1 rfl) ?_
    refine va_iald hx hb hK hP 2 0 rfl rfl (in5 e_1) dX8_account_14 ?_
    refine lv_toi (y := 0) rfl ?_
    refine W.widen (k := 1) (n := 6) (by omega) (by omega) ?_
    refine vx_ret ?_
    exact W.iret (v := 0) hx hb hr (fun t ht hW => ⟨⟨0, (), rfl, ⟨rfl, e_1⟩, trivial⟩, hS.F ht⟩) hS.2.2 dX8_account_15

set_option maxHeartbeats 4000000 in
set_option maxRecDepth 100000 in
/-- pass on a fresh object -/
theorem c_pass (l : Launch) (hl9 : l.stackTraces = false) (D : va_G) (cI cZ cJ : ClassId) (lo sz : Nat) (g : Nat) (nw : Nat) (la : Nat) (pn : Nat) (aI : Nat) (aS : Nat) (aP : Nat) (aL : Nat) (aO : Nat) (aT : Nat) (aA : Nat) (aQ : Nat) (aI1 : Nat) (aI2 : Nat) (aI3 : Nat) (aI4 : Nat) (aS1 : Nat) (aS2 : Nat) (aL1 : Nat) (aL2 : Nat) (aL3 : Nat) (aL4 : Nat) (aL5 : Nat) (aO1 : Nat) (aO2 : Nat) (aO3 : Nat) (aO4 : Nat) (aO5 : Nat) (aO6 : Nat) (aO7 : Nat) (aO8 : Nat) (aO9 : Nat) (aO10 : Nat) (aT1 : Nat) (aT2 : Nat) (aT3 : Nat) (aT4 : Nat) (aT5 : Nat) (aT6 : Nat) (p0 : Int32) : vx_Met l yX8_pass wsX8_pass ({ frames := 8, cells := 1, slots := 6, locals := 124 }) (Pre lo D cI cZ cJ [.ref g, .int p0] sz [(g, .inr (8, [.ref nw, .ref la, .ref pn])), (nw, .inr (6, [.int 0, .ref aI, .ref aS, .ref aP, .ref aL, .ref aO, .ref aT, .ref aA, .ref aQ])), (aI, .inr (0, [.int 0, .ref aI1, .ref aI2, .ref aI3, .ref aI4])), (aS, .inr (5, [.int 0, .ref aS1, .ref aS2])), (aL, .inr (1, [.int 0, .ref aL1, .ref aL2, .ref aL3, .ref aL4, .ref aL5])), (aO, .inr (2, [.int 0, .ref aO1, .ref aO2, .ref aO3, .ref aO4, .ref aO5, .ref aO6, .ref aO7, .ref aO8, .ref aO9, .ref aO10])), (aT, .inr (7, [.int 0, .ref aT1, .ref aT2, .ref aT3, .ref aT4, .ref aT5, .ref aT6]))]) (va_Qi (fun (r : Int32) (_ : Unit) => r = p0 ∧ (1 ≤ p0 ∧ p0 ≤ 30)) (fun _ t => True) (va_A [(g, .inr (8, [.ref nw, .ref la, .ref pn])), (nw, .inr (6, [.int 0, .ref aI, .ref aS, .ref aP, .ref aL, .ref aO, .ref aT, .ref aA, .ref aQ])), (aI, .inr (0, [.int 0, .ref aI1, .ref aI2, .ref aI3, .ref aI4])), (aS, .inr (5, [.int 0, .ref aS1, .ref aS2])), (aL, .inr (1, [.int 0, .ref aL1, .ref aL2, .ref aL3, .ref aL4, .ref aL5])), (aO, .inr (2, [.int 0, .ref aO1, .ref aO2, .ref aO3, .ref aO4, .ref aO5, .ref aO6, .ref aO7, .ref aO8, .ref aO9, .ref aO10])), (aT, .inr (7, [.int 0, .ref aT1, .ref aT2, .ref aT3, .ref aT4, .ref aT5, .ref aT6]))] sz)) (vx_X (fun _ : Unit => ¬ (1 ≤ p0 ∧ p0 ≤ 30)) (fun E _ _ => E = "java/lang/IllegalArgumentException") (va_A [(g, .inr (8, [.ref nw, .ref la, .ref pn])), (nw, .inr (6, [.int 0, .ref aI, .ref aS, .ref aP, .ref aL, .ref aO, .ref aT, .ref aA, .ref aQ])), (aI, .inr (0, [.int 0, .ref aI1, .ref aI2, .ref aI3, .ref aI4])), (aS, .inr (5, [.int 0, .ref aS1, .ref aS2])), (aL, .inr (1, [.int 0, .ref aL1, .ref aL2, .ref aL3, .ref aL4, .ref aL5])), (aO, .inr (2, [.int 0, .ref aO1, .ref aO2, .ref aO3, .ref aO4, .ref aO5, .ref aO6, .ref aO7, .ref aO8, .ref aO9, .ref aO10])), (aT, .inr (7, [.int 0, .ref aT1, .ref aT2, .ref aT3, .ref aT4, .ref aT5, .ref aT6]))] sz)) 1 6 (va_A [(g, .inr (8, [.ref nw, .ref la, .ref pn])), (nw, .inr (6, [.int 0, .ref aI, .ref aS, .ref aP, .ref aL, .ref aO, .ref aT, .ref aA, .ref aQ])), (aI, .inr (0, [.int 0, .ref aI1, .ref aI2, .ref aI3, .ref aI4])), (aS, .inr (5, [.int 0, .ref aS1, .ref aS2])), (aL, .inr (1, [.int 0, .ref aL1, .ref aL2, .ref aL3, .ref aL4, .ref aL5])), (aO, .inr (2, [.int 0, .ref aO1, .ref aO2, .ref aO3, .ref aO4, .ref aO5, .ref aO6, .ref aO7, .ref aO8, .ref aO9, .ref aO10])), (aT, .inr (7, [.int 0, .ref aT1, .ref aT2, .ref aT3, .ref aT4, .ref aT5, .ref aT6]))] sz) := by
  refine vx_ofW (cc := cX8_pass) (maxL := 2) (ret := (some .int)) (by decide) rfl ?_
  intro p e s m args below meth c s₁ B hml ht9 hv
  obtain ⟨rfl, hsz, hP, hD0, hC⟩ := hv
  have hx := B.exec
  have hb := B.bytes
  have hr := B.returns
  have hts := atoms_spec (ws := wsX8_pass) B.pre
  have hown : s.vm.findClass RX8 = some m.cls := findClass_of_methodNamed B.named
  have hlocks := B.notSynchronized
  subst hsz
  have hK := hC.K
  have hD := hD0.self (sz := s.heap.size)
  have hAlo0 := va_A_lo hD0 hC.1
  generalize hAe : va_A [(g, .inr (8, [.ref nw, .ref la, .ref pn])), (nw, .inr (6, [.int 0, .ref aI, .ref aS, .ref aP, .ref aL, .ref aO, .ref aT, .ref aA, .ref aQ])), (aI, .inr (0, [.int 0, .ref aI1, .ref aI2, .ref aI3, .ref aI4])), (aS, .inr (5, [.int 0, .ref aS1, .ref aS2])), (aL, .inr (1, [.int 0, .ref aL1, .ref aL2, .ref aL3, .ref aL4, .ref aL5])), (aO, .inr (2, [.int 0, .ref aO1, .ref aO2, .ref aO3, .ref aO4, .ref aO5, .ref aO6, .ref aO7, .ref aO8, .ref aO9, .ref aO10])), (aT, .inr (7, [.int 0, .ref aT1, .ref aT2, .ref aT3, .ref aT4, .ref aT5, .ref aT6]))] s.heap.size = A at hD hAlo0 ⊢
  have hA : ∀ q : Nat, s.heap.size ≤ q → A q := fun q h => by rw [← hAe]; exact Or.inr h
  have hAlo : ∀ q, A q → lo ≤ q := hAlo0
  have hS : va_S A s.heap s.heap [] := va_S.rf
  have hP : va_P D vwCl [(g, .inr (8, [.ref nw, .ref la, .ref pn])), (nw, .inr (6, [.int 0, .ref aI, .ref aS, .ref aP, .ref aL, .ref aO, .ref aT, .ref aA, .ref aQ])), (aI, .inr (0, [.int 0, .ref aI1, .ref aI2, .ref aI3, .ref aI4])), (aS, .inr (5, [.int 0, .ref aS1, .ref aS2])), (aL, .inr (1, [.int 0, .ref aL1, .ref aL2, .ref aL3, .ref aL4, .ref aL5])), (aO, .inr (2, [.int 0, .ref aO1, .ref aO2, .ref aO3, .ref aO4, .ref aO5, .ref aO6, .ref aO7, .ref aO8, .ref aO9, .ref aO10])), (aT, .inr (7, [.int 0, .ref aT1, .ref aT2, .ref aT3, .ref aT4, .ref aT5, .ref aT6]))] s.heap := hP
  have hl := lv_entry ([.ref g, .int p0]) (n := 2) (Nat.le_of_ble_eq_true rfl)
  rw [lg_entry_eq]
  generalize (lg_sl ([.ref g, .int p0]) ++ List.replicate (2 - (lg_sl ([.ref g, .int p0])).length) Slot.unset).toArray = ls at hl ⊢
  have hl : lv_has ls 2 [(0, .ref g), (1, .int p0)] := hl
  have in6 : ∀ w ∈ u_ws RX6 TX6 9, w ∈ wsX8_pass := by decide +kernel
  have in8 : ∀ w ∈ u_ws RX8 TX8 3, w ∈ wsX8_pass := by decide +kernel
  refine lv_iload_n hx hb dX8_pass_0 rfl (lv_at hl 1 rfl) ?_
  refine lv_iconst (v := 1) hx hb dX8_pass_1 (by decide) ?_
  refine lv_bipush (v := 30) hx hb dX8_pass_2 (by decide) ?_
  have hPc := hP.sub (ws' := []) [] rfl
  have hDc := hD.sub (ws' := []) [] (by decide) rfl
  have hFc := va_free (wc := []) hD hS hA [] rfl
  refine vx_callv (vx_runS (As := [.int p0, .int 1, .int 30]) (rest := []) ⟨hx, hb, hml, hown, hts⟩ (c_needWithin l hl9 D cI cZ cJ lo s.heap.size p0 1 30) (va_cwS 3 hts gX8_pass_X8_needWithin rfl rfl rfl (by decide +kernel) ⟨(Nat.le_of_ble_eq_true rfl), (Nat.le_of_ble_eq_true rfl)⟩) ⟨Pre.blind, Pre.mk hPc (hDc.weaken (fun _ _ _ h => hAlo _ h)) hC hS hAlo⟩ rfl rfl hl.1 rfl (lv_room (Nat.le_of_ble_eq_true rfl)) dX8_pass_4 ⟨(Nat.le_of_ble_eq_true rfl), (Nat.le_of_ble_eq_true rfl)⟩) hS (fun q _ h => hFc q h) hFc (fun q _ h => hFc q h) (fun E ce q9 u t H1 locs1 ht hvm hpx hbx hz1 hk1 hS1 hce hcv hcl => ?_) (fun u t H1 locs1 ht hvm e_1 hB hz1 hk1 hS1 => ?_)
  · have px_2 : ¬ ((1 : Int32) ≤ p0 ∧ p0 ≤ (30 : Int32)) := hpx
    have hE : E = "java/lang/IllegalArgumentException" := hbx
    subst hE
    exact vx_out (fun x9 h9 => (ht9 x9 h9).elim) hlocks hce hcv hcl (fun t9 ht9b _ => ⟨(), px_2, rfl, hS1.F ht9b⟩) hS1.2.2 (by omega) (by omega)
  · skip
    have hS := hS1
    refine W.widen (k := 1) (n := 6) (by omega) (by omega) ?_
    obtain ⟨hP, hD⟩ := va_rest (wr := [(g, .inr (8, [.ref nw, .ref la, .ref pn])), (nw, .inr (6, [.int 0, .ref aI, .ref aS, .ref aP, .ref aL, .ref aO, .ref aT, .ref aA, .ref aQ])), (aI, .inr (0, [.int 0, .ref aI1, .ref aI2, .ref aI3, .ref aI4])), (aS, .inr (5, [.int 0, .ref aS1, .ref aS2])), (aL, .inr (1, [.int 0, .ref aL1, .ref aL2, .ref aL3, .ref aL4, .ref aL5])), (aO, .inr (2, [.int 0, .ref aO1, .ref aO2, .ref aO3, .ref aO4, .ref aO5, .ref aO6, .ref aO7, .ref aO8, .ref aO9, .ref aO10])), (aT, .inr (7, [.int 0, .ref aT1, .ref aT2, .ref aT3, .ref aT4, .ref aT5, .ref aT6]))]) hP hD [] [0, 1, 2, 3, 4, 5, 6] rfl rfl (by decide) (by decide) hk1 hFc
    have e_1 : (1 : Int32) ≤ p0 ∧ p0 ≤ (30 : Int32) := e_1
    clear ht hvm hz1 hk1 hS1 hB
    generalize H1 = H at hP hS ⊢
    replace hP : va_P D vwCl [(g, .inr (8, [.ref nw, .ref la, .ref pn])), (nw, .inr (6, [.int 0, .ref aI, .ref aS, .ref aP, .ref aL, .ref aO, .ref aT, .ref aA, .ref aQ])), (aI, .inr (0, [.int 0, .ref aI1, .ref aI2, .ref aI3, .ref aI4])), (aS, .inr (5, [.int 0, .ref aS1, .ref aS2])), (aL, .inr (1, [.int 0, .ref aL1, .ref aL2, .ref aL3, .ref aL4, .ref aL5])), (aO, .inr (2, [.int 0, .ref aO1, .ref aO2, .ref aO3, .ref aO4, .ref aO5, .ref aO6, .ref aO7, .ref aO8, .ref aO9, .ref aO10])), (aT, .inr (7, [.int 0, .ref aT1, .ref aT2, .ref aT3, .ref aT4, .ref aT5, .ref aT6]))] H := hP
    replace hD : va_D A [(g, .inr (8, [.ref nw, .ref la, .ref pn])), (nw, .inr (6, [.int 0, .ref aI, .ref aS, .ref aP, .ref aL, .ref aO, .ref aT, .ref aA, .ref aQ])), (aI, .inr (0, [.int 0, .ref aI1, .ref aI2, .ref aI3, .ref aI4])), (aS, .inr (5, [.int 0, .ref aS1, .ref aS2])), (aL, .inr (1, [.int 0, .ref aL1, .ref aL2, .ref aL3, .ref aL4, .ref aL5])), (aO, .inr (2, [.int 0, .ref aO1, .ref aO2, .ref aO3, .ref aO4, .ref aO5, .ref aO6, .ref aO7, .ref aO8, .ref aO9, .ref aO10])), (aT, .inr (7, [.int 0, .ref aT1, .ref aT2, .ref aT3, .ref aT4, .ref aT5, .ref aT6]))] := hD
    obtain ⟨dn, hdn, hdx⟩ := in30 e_1
    subst hdx
    refine lv_aload_n hx hb dX8_pass_7 rfl (lv_at hl 0 rfl) ?_
    refine va_get (D := D) (ci := 8) (v := .ref nw) (C := RX8) (T := TX8) (N := 3) hx hb hts in8 hown hK hP 0 rfl rfl 0 (by decide) (hts (.fieldLink RX8 10 "Granary" "now" "LGranary$Stock;") (by decide +kernel)) (fun _ h9 => h9) rfl dX8_pass_8 ?_
    refine lv_iload_n hx hb dX8_pass_11 rfl (lv_at hl 1 rfl) ?_
    have hPc := hP.sub (ws' := [(nw, .inr (6, [.int 0, .ref aI, .ref aS, .ref aP, .ref aL, .ref aO, .ref aT, .ref aA, .ref aQ])), (aI, .inr (0, [.int 0, .ref aI1, .ref aI2, .ref aI3, .ref aI4])), (aS, .inr (5, [.int 0, .ref aS1, .ref aS2])), (aL, .inr (1, [.int 0, .ref aL1, .ref aL2, .ref aL3, .ref aL4, .ref aL5])), (aO, .inr (2, [.int 0, .ref aO1, .ref aO2, .ref aO3, .ref aO4, .ref aO5, .ref aO6, .ref aO7, .ref aO8, .ref aO9, .ref aO10])), (aT, .inr (7, [.int 0, .ref aT1, .ref aT2, .ref aT3, .ref aT4, .ref aT5, .ref aT6]))]) [1, 2, 3, 4, 5, 6] rfl
    have hDc := hD.sub (ws' := [(nw, .inr (6, [.int 0, .ref aI, .ref aS, .ref aP, .ref aL, .ref aO, .ref aT, .ref aA, .ref aQ])), (aI, .inr (0, [.int 0, .ref aI1, .ref aI2, .ref aI3, .ref aI4])), (aS, .inr (5, [.int 0, .ref aS1, .ref aS2])), (aL, .inr (1, [.int 0, .ref aL1, .ref aL2, .ref aL3, .ref aL4, .ref aL5])), (aO, .inr (2, [.int 0, .ref aO1, .ref aO2, .ref aO3, .ref aO4, .ref aO5, .ref aO6, .ref aO7, .ref aO8, .ref aO9, .ref aO10])), (aT, .inr (7, [.int 0, .ref aT1, .ref aT2, .ref aT3, .ref aT4, .ref aT5, .ref aT6]))]) [1, 2, 3, 4, 5, 6] (by decide) rfl
    have hFc := va_free (wc := [(nw, .inr (6, [.int 0, .ref aI, .ref aS, .ref aP, .ref aL, .ref aO, .ref aT, .ref aA, .ref aQ])), (aI, .inr (0, [.int 0, .ref aI1, .ref aI2, .ref aI3, .ref aI4])), (aS, .inr (5, [.int 0, .ref aS1, .ref aS2])), (aL, .inr (1, [.int 0, .ref aL1, .ref aL2, .ref aL3, .ref aL4, .ref aL5])), (aO, .inr (2, [.int 0, .ref aO1, .ref aO2, .ref aO3, .ref aO4, .ref aO5, .ref aO6, .ref aO7, .ref aO8, .ref aO9, .ref aO10])), (aT, .inr (7, [.int 0, .ref aT1, .ref aT2, .ref aT3, .ref aT4, .ref aT5, .ref aT6]))]) hD hS hA [1, 2, 3, 4, 5, 6] rfl
    refine va_callv (va_runV (As := [.int (nI dn)]) (rest := []) ⟨hx, hb, hml, hown, hts⟩ (c_liveDays l D cI cZ cJ lo H.size nw 0 aI aS aP aL aO aT aA aQ aI1 aI2 aI3 aI4 aS1 aS2 aL1 aL2 aL3 aL4 aL5 aO1 aO2 aO3 aO4 aO5 aO6 aO7 aO8 aO9 aO10 aT1 aT2 aT3 aT4 aT5 aT6 dn hdn) (cwV 1 hts gX8_pass_X6_liveDays rfl rfl rfl (by decide +kernel) ⟨(Nat.le_of_ble_eq_true rfl), (Nat.le_of_ble_eq_true rfl)⟩) ⟨Pre.blind, va_recv hK hP (ci := 6) (q0 := 1) rfl rfl, Pre.mk hPc (hDc.weaken (fun _ _ _ h => hAlo _ h)) hC hS hAlo⟩ rfl rfl hl.1 rfl (lv_room (Nat.le_of_ble_eq_true rfl)) dX8_pass_12 ⟨(Nat.le_of_ble_eq_true rfl), (Nat.le_of_ble_eq_true rfl)⟩) hS (fun q _ h => hFc q h) hFc (fun u t H1 locs1 ht hvm e_3 hB hz1 hk1 hS1 => ?_)
    have hS := hS1
    refine W.widen (k := 1) (n := 6) (by omega) (by omega) ?_
    obtain ⟨hP1, hD1⟩ := hB
    rw [ht] at hP1
    obtain ⟨hP, hD⟩ := va_join (wr := [(g, .inr (8, [.ref nw, .ref la, .ref pn]))]) (w1 := [(nw, .inr (6, [.int (0 + nI dn), .ref aI, .ref aS, .ref aP, .ref aL, .ref aO, .ref aT, .ref aA, .ref aQ])), (aI, .inr (0, [.int 0, .ref aI1, .ref aI2, .ref aI3, .ref aI4])), (aS, .inr (5, [.int 0, .ref aS1, .ref aS2])), (aL, .inr (1, [.int 0, .ref aL1, .ref aL2, .ref aL3, .ref aL4, .ref aL5])), (aO, .inr (2, [.int 0, .ref aO1, .ref aO2, .ref aO3, .ref aO4, .ref aO5, .ref aO6, .ref aO7, .ref aO8, .ref aO9, .ref aO10])), (aT, .inr (7, [.int 0, .ref aT1, .ref aT2, .ref aT3, .ref aT4, .ref aT5, .ref aT6]))]) hP hD [1, 2, 3, 4, 5, 6] [0] rfl rfl (by decide) (by decide) hk1 hFc hP1 hD1
    have e_3 : True := e_3
    clear ht hvm hz1 hk1 hS1 hP1 hD1
    generalize H1 = H at hP hS ⊢
    replace hP : va_P D vwCl [(g, .inr (8, [.ref nw, .ref la, .ref pn])), (nw, .inr (6, [.int (0 + nI dn), .ref aI, .ref aS, .ref aP, .ref aL, .ref aO, .ref aT, .ref aA, .ref aQ])), (aI, .inr (0, [.int 0, .ref aI1, .ref aI2, .ref aI3, .ref aI4])), (aS, .inr (5, [.int 0, .ref aS1, .ref aS2])), (aL, .inr (1, [.int 0, .ref aL1, .ref aL2, .ref aL3, .ref aL4, .ref aL5])), (aO, .inr (2, [.int 0, .ref aO1, .ref aO2, .ref aO3, .ref aO4, .ref aO5, .ref aO6, .ref aO7, .ref aO8, .ref aO9, .ref aO10])), (aT, .inr (7, [.int 0, .ref aT1, .ref aT2, .ref aT3, .ref aT4, .ref aT5, .ref aT6]))] H := hP
    replace hD : va_D A [(g, .inr (8, [.ref nw, .ref la, .ref pn])), (nw, .inr (6, [.int (0 + nI dn), .ref aI, .ref aS, .ref aP, .ref aL, .ref aO, .ref aT, .ref aA, .ref aQ])), (aI, .inr (0, [.int 0, .ref aI1, .ref aI2, .ref aI3, .ref aI4])), (aS, .inr (5, [.int 0, .ref aS1, .ref aS2])), (aL, .inr (1, [.int 0, .ref aL1, .ref aL2, .ref aL3, .ref aL4, .ref aL5])), (aO, .inr (2, [.int 0, .ref aO1, .ref aO2, .ref aO3, .ref aO4, .ref aO5, .ref aO6, .ref aO7, .ref aO8, .ref aO9, .ref aO10])), (aT, .inr (7, [.int 0, .ref aT1, .ref aT2, .ref aT3, .ref aT4, .ref aT5, .ref aT6]))] := hD
    refine lv_aload_n hx hb dX8_pass_15 rfl (lv_at hl 0 rfl) ?_
    refine va_get (D := D) (ci := 8) (v := .ref nw) (C := RX8) (T := TX8) (N := 3) hx hb hts in8 hown hK hP 0 rfl rfl 0 (by decide) (hts (.fieldLink RX8 10 "Granary" "now" "LGranary$Stock;") (by decide +kernel)) (fun _ h9 => h9) rfl dX8_pass_16 ?_
    refine va_get (D := D) (ci := 6) (v := .int (0 + nI dn)) (C := RX6) (T := TX6) (N := 9) hx hb hts in6 hown hK hP 1 rfl rfl 0 (by decide) (hts (.fieldLink RX8 125 "Granary$Stock" "day" "I") (by decide +kernel)) (fun _ h9 => h9) rfl dX8_pass_19 ?_
    refine W.widen (k := 1) (n := 6) (by omega) (by omega) ?_
    refine vx_ret ?_
    exact W.iret (v := (0 + nI dn)) hx hb hr (fun t ht hW => ⟨⟨(0 + nI dn), (), rfl, ⟨Int32.zero_add _, e_1⟩, trivial⟩, hS.F ht⟩) hS.2.2 dX8_pass_22

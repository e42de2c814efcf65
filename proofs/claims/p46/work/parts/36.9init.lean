/-- a picture of nothing -/
def sg_0 : sg_Pic := fun _ _ => 0
def sg_L0 : sg_PiL := fun _ _ => 0
def sg_z : Nat → Int32 := fun _ => 0

set_option maxHeartbeats 4000000 in
set_option maxRecDepth 100000 in
/-- a constructor -/
theorem c_X0_init (l : Launch) (D : va_G) (cI cZ cJ : ClassId) (lo sz : Nat) (h : Nat) : Met l yX0_init wsX0_init ({ frames := 1, cells := 4, slots := 24, locals := 12 }) (Pre lo D cI cZ cJ [.ref h] sz [(h, .inr (0, [.int 0, .null, .null, .null, .null]))]) (va_Qv (fun _ : Unit => True) (fun _ t => ∃ (q1 : Nat) (q2 : Nat) (q3 : Nat) (q4 : Nat), va_P D vwCl [(h, .inr (0, [.int 0, .ref q1, .ref q2, .ref q3, .ref q4])), (q1, .inl (cI, 6, .inl (fun _ => 0))), (q2, .inl (cI, 6, .inl (fun _ => 0))), (q3, .inl (cI, 6, .inl (fun _ => 0))), (q4, .inl (cI, 6, .inl (fun _ => 0)))] t.heap ∧ va_D (va_A [(h, .inr (0, [.int 0, .null, .null, .null, .null]))] sz) [(h, .inr (0, [.int 0, .ref q1, .ref q2, .ref q3, .ref q4])), (q1, .inl (cI, 6, .inl (fun _ => 0))), (q2, .inl (cI, 6, .inl (fun _ => 0))), (q3, .inl (cI, 6, .inl (fun _ => 0))), (q4, .inl (cI, 6, .inl (fun _ => 0)))]) (va_A [(h, .inr (0, [.int 0, .null, .null, .null, .null]))] sz)) 4 24 (va_A [(h, .inr (0, [.int 0, .null, .null, .null, .null]))] sz) := by
  refine Met.ofW (cc := cX0_init) (maxL := 1) (ret := none) (by decide) rfl ?_
  intro p e s m args below meth c s₁ B hml hv
  obtain ⟨rfl, hsz, hP, hD0, hC⟩ := hv
  have hx := B.exec
  have hb := B.bytes
  have hr := B.returns
  have hts := atoms_spec (ws := wsX0_init) B.pre
  have hown : s.vm.findClass RX0 = some m.cls := findClass_of_methodNamed B.named
  have hlocks := B.notSynchronized
  have hin : meth.name = "<init>" := (name_of_methodNamed B.named B.method).1
  subst hsz
  have hK := hC.K
  have hD := hD0.self (sz := s.heap.size)
  have hAlo0 := va_A_lo hD0 hC.1
  generalize hAe : va_A [(h, .inr (0, [.int 0, .null, .null, .null, .null]))] s.heap.size = A at hD hAlo0 ⊢
  have hA : ∀ q : Nat, s.heap.size ≤ q → A q := fun q h => by rw [← hAe]; exact Or.inr h
  have hAlo : ∀ q, A q → lo ≤ q := hAlo0
  have hS : va_S A s.heap s.heap [] := va_S.rf
  have hP : va_P D vwCl [(h, .inr (0, [.int 0, .null, .null, .null, .null]))] s.heap := hP
  have hl := lv_entry ([.ref h]) (n := 1) (Nat.le_of_ble_eq_true rfl)
  rw [lg_entry_eq]
  generalize (lg_sl ([.ref h]) ++ List.replicate (1 - (lg_sl ([.ref h])).length) Slot.unset).toArray = ls at hl ⊢
  have hl : lv_has ls 1 [(0, .ref h)] := hl
  have in0 : ∀ w ∈ u_ws RX0 TX0 5, w ∈ wsX0_init := by decide +kernel
  refine lv_aload_n hx hb dX0_init_0 rfl (lv_at hl 0 rfl) ?_
  refine W.objInit hx hb hown (hts (.methodLink RX0 3 objectInit) (by decide +kernel)) (hts (.instanceMethod objectInit) (by decide +kernel)) (hts _ (by decide +kernel)) rfl (by rw [hml]; exact hl.1) rfl dX0_init_1 (Nat.le_of_ble_eq_true rfl) (Nat.le_of_ble_eq_true rfl) ?_
  refine W.eq (g2 := F0 m 4 ls []) rfl ?_
  refine lv_aload_n hx hb dX0_init_4 rfl (lv_at hl 0 rfl) ?_
  refine lv_bipush (v := 6) hx hb dX0_init_5 (by decide) ?_
  refine na_i (N' := 6) hx hb (hts (.arrayClass .int) (by decide +kernel)) hK hP hD hS hA (by decide) (by decide) (Nat.le_of_ble_eq_true rfl) (Nat.le_of_ble_eq_true rfl) (Nat.le_of_ble_eq_true rfl) dX0_init_7 (fun q_1 H hP hD hS => ?_)
  replace hP : va_P D vwCl [(h, .inr (0, [.int 0, .null, .null, .null, .null])), (q_1, .inl (cI, 6, .inl (fun _ => 0)))] H := hP
  replace hD : va_D A [(h, .inr (0, [.int 0, .null, .null, .null, .null])), (q_1, .inl (cI, 6, .inl (fun _ => 0)))] := hD
  refine W.widen (k := 1) (n := 6) (by omega) (by omega) ?_
  refine va_putF (D := D) (ci := 0) (v := .ref q_1) (ty := .array .int) (C := RX0) (T := TX0) (N := 5) hx hb hts in0 tyX0 tyX0_ok nmX0 hown hK hP hD hS 0 rfl rfl 1 (by decide) (hts (.fieldLink RX0 9 "Granary$Items" "life" "[I") (by decide +kernel)) (fun _ h9 => h9) rfl hin rfl (by decide +kernel) rfl rfl (Nat.le_of_ble_eq_true rfl) dX0_init_9 (fun H locs hP hD hS => ?_)
  replace hP : va_P D vwCl [(h, .inr (0, [.int 0, .ref q_1, .null, .null, .null])), (q_1, .inl (cI, 6, .inl (fun _ => 0)))] H := hP
  replace hD : va_D A [(h, .inr (0, [.int 0, .ref q_1, .null, .null, .null])), (q_1, .inl (cI, 6, .inl (fun _ => 0)))] := hD
  refine lv_aload_n hx hb dX0_init_12 rfl (lv_at hl 0 rfl) ?_
  refine lv_bipush (v := 6) hx hb dX0_init_13 (by decide) ?_
  refine na_i (N' := 6) hx hb (hts (.arrayClass .int) (by decide +kernel)) hK hP hD hS hA (by decide) (by decide) (Nat.le_of_ble_eq_true rfl) (Nat.le_of_ble_eq_true rfl) (Nat.le_of_ble_eq_true rfl) dX0_init_15 (fun q_2 H hP hD hS => ?_)
  replace hP : va_P D vwCl [(h, .inr (0, [.int 0, .ref q_1, .null, .null, .null])), (q_1, .inl (cI, 6, .inl (fun _ => 0))), (q_2, .inl (cI, 6, .inl (fun _ => 0)))] H := hP
  replace hD : va_D A [(h, .inr (0, [.int 0, .ref q_1, .null, .null, .null])), (q_1, .inl (cI, 6, .inl (fun _ => 0))), (q_2, .inl (cI, 6, .inl (fun _ => 0)))] := hD
  refine W.widen (k := 2) (n := 12) (by omega) (by omega) ?_
  refine va_putF (D := D) (ci := 0) (v := .ref q_2) (ty := .array .int) (C := RX0) (T := TX0) (N := 5) hx hb hts in0 tyX0 tyX0_ok nmX0 hown hK hP hD hS 0 rfl rfl 2 (by decide) (hts (.fieldLink RX0 15 "Granary$Items" "price" "[I") (by decide +kernel)) (fun _ h9 => h9) rfl hin rfl (by decide +kernel) rfl rfl (Nat.le_of_ble_eq_true rfl) dX0_init_17 (fun H locs hP hD hS => ?_)
  replace hP : va_P D vwCl [(h, .inr (0, [.int 0, .ref q_1, .ref q_2, .null, .null])), (q_1, .inl (cI, 6, .inl (fun _ => 0))), (q_2, .inl (cI, 6, .inl (fun _ => 0)))] H := hP
  replace hD : va_D A [(h, .inr (0, [.int 0, .ref q_1, .ref q_2, .null, .null])), (q_1, .inl (cI, 6, .inl (fun _ => 0))), (q_2, .inl (cI, 6, .inl (fun _ => 0)))] := hD
  refine lv_aload_n hx hb dX0_init_20 rfl (lv_at hl 0 rfl) ?_
  refine lv_bipush (v := 6) hx hb dX0_init_21 (by decide) ?_
  refine na_i (N' := 6) hx hb (hts (.arrayClass .int) (by decide +kernel)) hK hP hD hS hA (by decide) (by decide) (Nat.le_of_ble_eq_true rfl) (Nat.le_of_ble_eq_true rfl) (Nat.le_of_ble_eq_true rfl) dX0_init_23 (fun q_3 H hP hD hS => ?_)
  replace hP : va_P D vwCl [(h, .inr (0, [.int 0, .ref q_1, .ref q_2, .null, .null])), (q_1, .inl (cI, 6, .inl (fun _ => 0))), (q_2, .inl (cI, 6, .inl (fun _ => 0))), (q_3, .inl (cI, 6, .inl (fun _ => 0)))] H := hP
  replace hD : va_D A [(h, .inr (0, [.int 0, .ref q_1, .ref q_2, .null, .null])), (q_1, .inl (cI, 6, .inl (fun _ => 0))), (q_2, .inl (cI, 6, .inl (fun _ => 0))), (q_3, .inl (cI, 6, .inl (fun _ => 0)))] := hD
  refine W.widen (k := 3) (n := 18) (by omega) (by omega) ?_
  refine va_putF (D := D) (ci := 0) (v := .ref q_3) (ty := .array .int) (C := RX0) (T := TX0) (N := 5) hx hb hts in0 tyX0 tyX0_ok nmX0 hown hK hP hD hS 0 rfl rfl 3 (by decide) (hts (.fieldLink RX0 18 "Granary$Items" "pack" "[I") (by decide +kernel)) (fun _ h9 => h9) rfl hin rfl (by decide +kernel) rfl rfl (Nat.le_of_ble_eq_true rfl) dX0_init_25 (fun H locs hP hD hS => ?_)
  replace hP : va_P D vwCl [(h, .inr (0, [.int 0, .ref q_1, .ref q_2, .ref q_3, .null])), (q_1, .inl (cI, 6, .inl (fun _ => 0))), (q_2, .inl (cI, 6, .inl (fun _ => 0))), (q_3, .inl (cI, 6, .inl (fun _ => 0)))] H := hP
  replace hD : va_D A [(h, .inr (0, [.int 0, .ref q_1, .ref q_2, .ref q_3, .null])), (q_1, .inl (cI, 6, .inl (fun _ => 0))), (q_2, .inl (cI, 6, .inl (fun _ => 0))), (q_3, .inl (cI, 6, .inl (fun _ => 0)))] := hD
  refine lv_aload_n hx hb dX0_init_28 rfl (lv_at hl 0 rfl) ?_
  refine lv_bipush (v := 6) hx hb dX0_init_29 (by decide) ?_
  refine na_i (N' := 6) hx hb (hts (.arrayClass .int) (by decide +kernel)) hK hP hD hS hA (by decide) (by decide) (Nat.le_of_ble_eq_true rfl) (Nat.le_of_ble_eq_true rfl) (Nat.le_of_ble_eq_true rfl) dX0_init_31 (fun q_4 H hP hD hS => ?_)
  replace hP : va_P D vwCl [(h, .inr (0, [.int 0, .ref q_1, .ref q_2, .ref q_3, .null])), (q_1, .inl (cI, 6, .inl (fun _ => 0))), (q_2, .inl (cI, 6, .inl (fun _ => 0))), (q_3, .inl (cI, 6, .inl (fun _ => 0))), (q_4, .inl (cI, 6, .inl (fun _ => 0)))] H := hP
  replace hD : va_D A [(h, .inr (0, [.int 0, .ref q_1, .ref q_2, .ref q_3, .null])), (q_1, .inl (cI, 6, .inl (fun _ => 0))), (q_2, .inl (cI, 6, .inl (fun _ => 0))), (q_3, .inl (cI, 6, .inl (fun _ => 0))), (q_4, .inl (cI, 6, .inl (fun _ => 0)))] := hD
  refine W.widen (k := 4) (n := 24) (by omega) (by omega) ?_
  refine va_putF (D := D) (ci := 0) (v := .ref q_4) (ty := .array .int) (C := RX0) (T := TX0) (N := 5) hx hb hts in0 tyX0 tyX0_ok nmX0 hown hK hP hD hS 0 rfl rfl 4 (by decide) (hts (.fieldLink RX0 21 "Granary$Items" "earned" "[I") (by decide +kernel)) (fun _ h9 => h9) rfl hin rfl (by decide +kernel) rfl rfl (Nat.le_of_ble_eq_true rfl) dX0_init_33 (fun H locs hP hD hS => ?_)
  replace hP : va_P D vwCl [(h, .inr (0, [.int 0, .ref q_1, .ref q_2, .ref q_3, .ref q_4])), (q_1, .inl (cI, 6, .inl (fun _ => 0))), (q_2, .inl (cI, 6, .inl (fun _ => 0))), (q_3, .inl (cI, 6, .inl (fun _ => 0))), (q_4, .inl (cI, 6, .inl (fun _ => 0)))] H := hP
  replace hD : va_D A [(h, .inr (0, [.int 0, .ref q_1, .ref q_2, .ref q_3, .ref q_4])), (q_1, .inl (cI, 6, .inl (fun _ => 0))), (q_2, .inl (cI, 6, .inl (fun _ => 0))), (q_3, .inl (cI, 6, .inl (fun _ => 0))), (q_4, .inl (cI, 6, .inl (fun _ => 0)))] := hD
  refine W.widen (k := 4) (n := 24) (by omega) (by omega) ?_
  have hP9 := hP.sub (ws' := [(h, .inr (0, [.int 0, .ref q_1, .ref q_2, .ref q_3, .ref q_4])), (q_1, .inl (cI, 6, .inl (fun _ => 0))), (q_2, .inl (cI, 6, .inl (fun _ => 0))), (q_3, .inl (cI, 6, .inl (fun _ => 0))), (q_4, .inl (cI, 6, .inl (fun _ => 0)))]) [0, 1, 2, 3, 4] rfl
  have hD9 := hD.sub (ws' := [(h, .inr (0, [.int 0, .ref q_1, .ref q_2, .ref q_3, .ref q_4])), (q_1, .inl (cI, 6, .inl (fun _ => 0))), (q_2, .inl (cI, 6, .inl (fun _ => 0))), (q_3, .inl (cI, 6, .inl (fun _ => 0))), (q_4, .inl (cI, 6, .inl (fun _ => 0)))]) [0, 1, 2, 3, 4] (by decide) rfl
  exact W.vret hx hb hr (fun t ht hW => ⟨⟨(), rfl, trivial, q_1, q_2, q_3, q_4, by rw [ht]; exact hP9, hD9⟩, hS.F ht⟩) hS.2.2 dX0_init_36

set_option maxHeartbeats 4000000 in
set_option maxRecDepth 100000 in
/-- a constructor -/
theorem c_X5_init (l : Launch) (D : va_G) (cI cZ cJ : ClassId) (lo sz : Nat) (h : Nat) : Met l yX5_init wsX5_init ({ frames := 1, cells := 2, slots := 30, locals := 12 }) (Pre lo D cI cZ cJ [.ref h] sz [(h, .inr (5, [.int 0, .null, .null]))]) (va_Qv (fun _ : Unit => True) (fun _ t => ∃ (q1 : Nat) (q2 : Nat), va_P D vwCl [(h, .inr (5, [.int 0, .ref q1, .ref q2])), (q1, .inl (cI, 5, .inl (fun _ => 0))), (q2, .inl (cI, 25, .inl (fun _ => 0)))] t.heap ∧ va_D (va_A [(h, .inr (5, [.int 0, .null, .null]))] sz) [(h, .inr (5, [.int 0, .ref q1, .ref q2])), (q1, .inl (cI, 5, .inl (fun _ => 0))), (q2, .inl (cI, 25, .inl (fun _ => 0)))]) (va_A [(h, .inr (5, [.int 0, .null, .null]))] sz)) 2 30 (va_A [(h, .inr (5, [.int 0, .null, .null]))] sz) := by
  refine Met.ofW (cc := cX5_init) (maxL := 1) (ret := none) (by decide) rfl ?_
  intro p e s m args below meth c s₁ B hml hv
  obtain ⟨rfl, hsz, hP, hD0, hC⟩ := hv
  have hx := B.exec
  have hb := B.bytes
  have hr := B.returns
  have hts := atoms_spec (ws := wsX5_init) B.pre
  have hown : s.vm.findClass RX5 = some m.cls := findClass_of_methodNamed B.named
  have hlocks := B.notSynchronized
  have hin : meth.name = "<init>" := (name_of_methodNamed B.named B.method).1
  subst hsz
  have hK := hC.K
  have hD := hD0.self (sz := s.heap.size)
  have hAlo0 := va_A_lo hD0 hC.1
  generalize hAe : va_A [(h, .inr (5, [.int 0, .null, .null]))] s.heap.size = A at hD hAlo0 ⊢
  have hA : ∀ q : Nat, s.heap.size ≤ q → A q := fun q h => by rw [← hAe]; exact Or.inr h
  have hAlo : ∀ q, A q → lo ≤ q := hAlo0
  have hS : va_S A s.heap s.heap [] := va_S.rf
  have hP : va_P D vwCl [(h, .inr (5, [.int 0, .null, .null]))] s.heap := hP
  have hl := lv_entry ([.ref h]) (n := 1) (Nat.le_of_ble_eq_true rfl)
  rw [lg_entry_eq]
  generalize (lg_sl ([.ref h]) ++ List.replicate (1 - (lg_sl ([.ref h])).length) Slot.unset).toArray = ls at hl ⊢
  have hl : lv_has ls 1 [(0, .ref h)] := hl
  have in5 : ∀ w ∈ u_ws RX5 TX5 3, w ∈ wsX5_init := by decide +kernel
  refine lv_aload_n hx hb dX5_init_0 rfl (lv_at hl 0 rfl) ?_
  refine W.objInit hx hb hown (hts (.methodLink RX5 3 objectInit) (by decide +kernel)) (hts (.instanceMethod objectInit) (by decide +kernel)) (hts _ (by decide +kernel)) rfl (by rw [hml]; exact hl.1) rfl dX5_init_1 (Nat.le_of_ble_eq_true rfl) (Nat.le_of_ble_eq_true rfl) ?_
  refine W.eq (g2 := F0 m 4 ls []) rfl ?_
  refine lv_aload_n hx hb dX5_init_4 rfl (lv_at hl 0 rfl) ?_
  refine lv_iconst (v := 5) hx hb dX5_init_5 (by decide) ?_
  refine na_i (N' := 5) hx hb (hts (.arrayClass .int) (by decide +kernel)) hK hP hD hS hA (by decide) (by decide) (Nat.le_of_ble_eq_true rfl) (Nat.le_of_ble_eq_true rfl) (Nat.le_of_ble_eq_true rfl) dX5_init_6 (fun q_1 H hP hD hS => ?_)
  replace hP : va_P D vwCl [(h, .inr (5, [.int 0, .null, .null])), (q_1, .inl (cI, 5, .inl (fun _ => 0)))] H := hP
  replace hD : va_D A [(h, .inr (5, [.int 0, .null, .null])), (q_1, .inl (cI, 5, .inl (fun _ => 0)))] := hD
  refine W.widen (k := 1) (n := 5) (by omega) (by omega) ?_
  refine va_putF (D := D) (ci := 5) (v := .ref q_1) (ty := .array .int) (C := RX5) (T := TX5) (N := 3) hx hb hts in5 tyX5 tyX5_ok nmX5 hown hK hP hD hS 0 rfl rfl 1 (by decide) (hts (.fieldLink RX5 9 "Granary$Sites" "room" "[I") (by decide +kernel)) (fun _ h9 => h9) rfl hin rfl (by decide +kernel) rfl rfl (Nat.le_of_ble_eq_true rfl) dX5_init_8 (fun H locs hP hD hS => ?_)
  replace hP : va_P D vwCl [(h, .inr (5, [.int 0, .ref q_1, .null])), (q_1, .inl (cI, 5, .inl (fun _ => 0)))] H := hP
  replace hD : va_D A [(h, .inr (5, [.int 0, .ref q_1, .null])), (q_1, .inl (cI, 5, .inl (fun _ => 0)))] := hD
  refine lv_aload_n hx hb dX5_init_11 rfl (lv_at hl 0 rfl) ?_
  refine lv_bipush (v := 25) hx hb dX5_init_12 (by decide) ?_
  refine na_i (N' := 25) hx hb (hts (.arrayClass .int) (by decide +kernel)) hK hP hD hS hA (by decide) (by decide) (Nat.le_of_ble_eq_true rfl) (Nat.le_of_ble_eq_true rfl) (Nat.le_of_ble_eq_true rfl) dX5_init_14 (fun q_2 H hP hD hS => ?_)
  replace hP : va_P D vwCl [(h, .inr (5, [.int 0, .ref q_1, .null])), (q_1, .inl (cI, 5, .inl (fun _ => 0))), (q_2, .inl (cI, 25, .inl (fun _ => 0)))] H := hP
  replace hD : va_D A [(h, .inr (5, [.int 0, .ref q_1, .null])), (q_1, .inl (cI, 5, .inl (fun _ => 0))), (q_2, .inl (cI, 25, .inl (fun _ => 0)))] := hD
  refine W.widen (k := 2) (n := 30) (by omega) (by omega) ?_
  refine va_putF (D := D) (ci := 5) (v := .ref q_2) (ty := .array .int) (C := RX5) (T := TX5) (N := 3) hx hb hts in5 tyX5 tyX5_ok nmX5 hown hK hP hD hS 0 rfl rfl 2 (by decide) (hts (.fieldLink RX5 15 "Granary$Sites" "days" "[I") (by decide +kernel)) (fun _ h9 => h9) rfl hin rfl (by decide +kernel) rfl rfl (Nat.le_of_ble_eq_true rfl) dX5_init_16 (fun H locs hP hD hS => ?_)
  replace hP : va_P D vwCl [(h, .inr (5, [.int 0, .ref q_1, .ref q_2])), (q_1, .inl (cI, 5, .inl (fun _ => 0))), (q_2, .inl (cI, 25, .inl (fun _ => 0)))] H := hP
  replace hD : va_D A [(h, .inr (5, [.int 0, .ref q_1, .ref q_2])), (q_1, .inl (cI, 5, .inl (fun _ => 0))), (q_2, .inl (cI, 25, .inl (fun _ => 0)))] := hD
  refine W.widen (k := 2) (n := 30) (by omega) (by omega) ?_
  have hP9 := hP.sub (ws' := [(h, .inr (5, [.int 0, .ref q_1, .ref q_2])), (q_1, .inl (cI, 5, .inl (fun _ => 0))), (q_2, .inl (cI, 25, .inl (fun _ => 0)))]) [0, 1, 2] rfl
  have hD9 := hD.sub (ws' := [(h, .inr (5, [.int 0, .ref q_1, .ref q_2])), (q_1, .inl (cI, 5, .inl (fun _ => 0))), (q_2, .inl (cI, 25, .inl (fun _ => 0)))]) [0, 1, 2] (by decide) rfl
  exact W.vret hx hb hr (fun t ht hW => ⟨⟨(), rfl, trivial, q_1, q_2, by rw [ht]; exact hP9, hD9⟩, hS.F ht⟩) hS.2.2 dX5_init_19

set_option maxHeartbeats 4000000 in
set_option maxRecDepth 100000 in
/-- a constructor -/
theorem c_X4_init (l : Launch) (D : va_G) (cI cZ cJ : ClassId) (lo sz : Nat) (h : Nat) : Met l yX4_init wsX4_init ({ frames := 1, cells := 5, slots := 150, locals := 12 }) (Pre lo D cI cZ cJ [.ref h] sz [(h, .inr (4, [.null, .null, .null, .null, .null]))]) (va_Qv (fun _ : Unit => True) (fun _ t => ∃ (q1 : Nat) (q2 : Nat) (q3 : Nat) (q4 : Nat) (q5 : Nat), va_P D vwCl [(h, .inr (4, [.ref q1, .ref q2, .ref q3, .ref q4, .ref q5])), (q1, .inl (cZ, 30, .inl (fun _ => 0))), (q2, .inl (cI, 30, .inl (fun _ => 0))), (q3, .inl (cI, 30, .inl (fun _ => 0))), (q4, .inl (cI, 30, .inl (fun _ => 0))), (q5, .inl (cI, 30, .inl (fun _ => 0)))] t.heap ∧ va_D (va_A [(h, .inr (4, [.null, .null, .null, .null, .null]))] sz) [(h, .inr (4, [.ref q1, .ref q2, .ref q3, .ref q4, .ref q5])), (q1, .inl (cZ, 30, .inl (fun _ => 0))), (q2, .inl (cI, 30, .inl (fun _ => 0))), (q3, .inl (cI, 30, .inl (fun _ => 0))), (q4, .inl (cI, 30, .inl (fun _ => 0))), (q5, .inl (cI, 30, .inl (fun _ => 0)))]) (va_A [(h, .inr (4, [.null, .null, .null, .null, .null]))] sz)) 5 150 (va_A [(h, .inr (4, [.null, .null, .null, .null, .null]))] sz) := by
  refine Met.ofW (cc := cX4_init) (maxL := 1) (ret := none) (by decide) rfl ?_
  intro p e s m args below meth c s₁ B hml hv
  obtain ⟨rfl, hsz, hP, hD0, hC⟩ := hv
  have hx := B.exec
  have hb := B.bytes
  have hr := B.returns
  have hts := atoms_spec (ws := wsX4_init) B.pre
  have hown : s.vm.findClass RX4 = some m.cls := findClass_of_methodNamed B.named
  have hlocks := B.notSynchronized
  have hin : meth.name = "<init>" := (name_of_methodNamed B.named B.method).1
  subst hsz
  have hK := hC.K
  have hD := hD0.self (sz := s.heap.size)
  have hAlo0 := va_A_lo hD0 hC.1
  generalize hAe : va_A [(h, .inr (4, [.null, .null, .null, .null, .null]))] s.heap.size = A at hD hAlo0 ⊢
  have hA : ∀ q : Nat, s.heap.size ≤ q → A q := fun q h => by rw [← hAe]; exact Or.inr h
  have hAlo : ∀ q, A q → lo ≤ q := hAlo0
  have hS : va_S A s.heap s.heap [] := va_S.rf
  have hP : va_P D vwCl [(h, .inr (4, [.null, .null, .null, .null, .null]))] s.heap := hP
  have hl := lv_entry ([.ref h]) (n := 1) (Nat.le_of_ble_eq_true rfl)
  rw [lg_entry_eq]
  generalize (lg_sl ([.ref h]) ++ List.replicate (1 - (lg_sl ([.ref h])).length) Slot.unset).toArray = ls at hl ⊢
  have hl : lv_has ls 1 [(0, .ref h)] := hl
  have in4 : ∀ w ∈ u_ws RX4 TX4 5, w ∈ wsX4_init := by decide +kernel
  refine lv_aload_n hx hb dX4_init_0 rfl (lv_at hl 0 rfl) ?_
  refine W.objInit hx hb hown (hts (.methodLink RX4 3 objectInit) (by decide +kernel)) (hts (.instanceMethod objectInit) (by decide +kernel)) (hts _ (by decide +kernel)) rfl (by rw [hml]; exact hl.1) rfl dX4_init_1 (Nat.le_of_ble_eq_true rfl) (Nat.le_of_ble_eq_true rfl) ?_
  refine W.eq (g2 := F0 m 4 ls []) rfl ?_
  refine lv_aload_n hx hb dX4_init_4 rfl (lv_at hl 0 rfl) ?_
  refine lv_bipush (v := 30) hx hb dX4_init_5 (by decide) ?_
  refine na_z (N' := 30) hx hb (hts (.arrayClass .boolean) (by decide +kernel)) hK hP hD hS hA (by decide) (by decide) (Nat.le_of_ble_eq_true rfl) (Nat.le_of_ble_eq_true rfl) (Nat.le_of_ble_eq_true rfl) dX4_init_7 (fun q_1 H hP hD hS => ?_)
  replace hP : va_P D vwCl [(h, .inr (4, [.null, .null, .null, .null, .null])), (q_1, .inl (cZ, 30, .inl (fun _ => 0)))] H := hP
  replace hD : va_D A [(h, .inr (4, [.null, .null, .null, .null, .null])), (q_1, .inl (cZ, 30, .inl (fun _ => 0)))] := hD
  refine W.widen (k := 1) (n := 30) (by omega) (by omega) ?_
  refine va_putF (D := D) (ci := 4) (v := .ref q_1) (ty := .array .boolean) (C := RX4) (T := TX4) (N := 5) hx hb hts in4 tyX4 tyX4_ok nmX4 hown hK hP hD hS 0 rfl rfl 0 (by decide) (hts (.fieldLink RX4 11 "Granary$Policies" "set" "[Z") (by decide +kernel)) (fun _ h9 => h9) rfl hin rfl (by decide +kernel) rfl rfl (Nat.le_of_ble_eq_true rfl) dX4_init_9 (fun H locs hP hD hS => ?_)
  replace hP : va_P D vwCl [(h, .inr (4, [.ref q_1, .null, .null, .null, .null])), (q_1, .inl (cZ, 30, .inl (fun _ => 0)))] H := hP
  replace hD : va_D A [(h, .inr (4, [.ref q_1, .null, .null, .null, .null])), (q_1, .inl (cZ, 30, .inl (fun _ => 0)))] := hD
  refine lv_aload_n hx hb dX4_init_12 rfl (lv_at hl 0 rfl) ?_
  refine lv_bipush (v := 30) hx hb dX4_init_13 (by decide) ?_
  refine na_i (N' := 30) hx hb (hts (.arrayClass .int) (by decide +kernel)) hK hP hD hS hA (by decide) (by decide) (Nat.le_of_ble_eq_true rfl) (Nat.le_of_ble_eq_true rfl) (Nat.le_of_ble_eq_true rfl) dX4_init_15 (fun q_2 H hP hD hS => ?_)
  replace hP : va_P D vwCl [(h, .inr (4, [.ref q_1, .null, .null, .null, .null])), (q_1, .inl (cZ, 30, .inl (fun _ => 0))), (q_2, .inl (cI, 30, .inl (fun _ => 0)))] H := hP
  replace hD : va_D A [(h, .inr (4, [.ref q_1, .null, .null, .null, .null])), (q_1, .inl (cZ, 30, .inl (fun _ => 0))), (q_2, .inl (cI, 30, .inl (fun _ => 0)))] := hD
  refine W.widen (k := 2) (n := 60) (by omega) (by omega) ?_
  refine va_putF (D := D) (ci := 4) (v := .ref q_2) (ty := .array .int) (C := RX4) (T := TX4) (N := 5) hx hb hts in4 tyX4 tyX4_ok nmX4 hown hK hP hD hS 0 rfl rfl 1 (by decide) (hts (.fieldLink RX4 15 "Granary$Policies" "point" "[I") (by decide +kernel)) (fun _ h9 => h9) rfl hin rfl (by decide +kernel) rfl rfl (Nat.le_of_ble_eq_true rfl) dX4_init_17 (fun H locs hP hD hS => ?_)
  replace hP : va_P D vwCl [(h, .inr (4, [.ref q_1, .ref q_2, .null, .null, .null])), (q_1, .inl (cZ, 30, .inl (fun _ => 0))), (q_2, .inl (cI, 30, .inl (fun _ => 0)))] H := hP
  replace hD : va_D A [(h, .inr (4, [.ref q_1, .ref q_2, .null, .null, .null])), (q_1, .inl (cZ, 30, .inl (fun _ => 0))), (q_2, .inl (cI, 30, .inl (fun _ => 0)))] := hD
  refine lv_aload_n hx hb dX4_init_20 rfl (lv_at hl 0 rfl) ?_
  refine lv_bipush (v := 30) hx hb dX4_init_21 (by decide) ?_
  refine na_i (N' := 30) hx hb (hts (.arrayClass .int) (by decide +kernel)) hK hP hD hS hA (by decide) (by decide) (Nat.le_of_ble_eq_true rfl) (Nat.le_of_ble_eq_true rfl) (Nat.le_of_ble_eq_true rfl) dX4_init_23 (fun q_3 H hP hD hS => ?_)
  replace hP : va_P D vwCl [(h, .inr (4, [.ref q_1, .ref q_2, .null, .null, .null])), (q_1, .inl (cZ, 30, .inl (fun _ => 0))), (q_2, .inl (cI, 30, .inl (fun _ => 0))), (q_3, .inl (cI, 30, .inl (fun _ => 0)))] H := hP
  replace hD : va_D A [(h, .inr (4, [.ref q_1, .ref q_2, .null, .null, .null])), (q_1, .inl (cZ, 30, .inl (fun _ => 0))), (q_2, .inl (cI, 30, .inl (fun _ => 0))), (q_3, .inl (cI, 30, .inl (fun _ => 0)))] := hD
  refine W.widen (k := 3) (n := 90) (by omega) (by omega) ?_
  refine va_putF (D := D) (ci := 4) (v := .ref q_3) (ty := .array .int) (C := RX4) (T := TX4) (N := 5) hx hb hts in4 tyX4 tyX4_ok nmX4 hown hK hP hD hS 0 rfl rfl 2 (by decide) (hts (.fieldLink RX4 19 "Granary$Policies" "top" "[I") (by decide +kernel)) (fun _ h9 => h9) rfl hin rfl (by decide +kernel) rfl rfl (Nat.le_of_ble_eq_true rfl) dX4_init_25 (fun H locs hP hD hS => ?_)
  replace hP : va_P D vwCl [(h, .inr (4, [.ref q_1, .ref q_2, .ref q_3, .null, .null])), (q_1, .inl (cZ, 30, .inl (fun _ => 0))), (q_2, .inl (cI, 30, .inl (fun _ => 0))), (q_3, .inl (cI, 30, .inl (fun _ => 0)))] H := hP
  replace hD : va_D A [(h, .inr (4, [.ref q_1, .ref q_2, .ref q_3, .null, .null])), (q_1, .inl (cZ, 30, .inl (fun _ => 0))), (q_2, .inl (cI, 30, .inl (fun _ => 0))), (q_3, .inl (cI, 30, .inl (fun _ => 0)))] := hD
  refine lv_aload_n hx hb dX4_init_28 rfl (lv_at hl 0 rfl) ?_
  refine lv_bipush (v := 30) hx hb dX4_init_29 (by decide) ?_
  refine na_i (N' := 30) hx hb (hts (.arrayClass .int) (by decide +kernel)) hK hP hD hS hA (by decide) (by decide) (Nat.le_of_ble_eq_true rfl) (Nat.le_of_ble_eq_true rfl) (Nat.le_of_ble_eq_true rfl) dX4_init_31 (fun q_4 H hP hD hS => ?_)
  replace hP : va_P D vwCl [(h, .inr (4, [.ref q_1, .ref q_2, .ref q_3, .null, .null])), (q_1, .inl (cZ, 30, .inl (fun _ => 0))), (q_2, .inl (cI, 30, .inl (fun _ => 0))), (q_3, .inl (cI, 30, .inl (fun _ => 0))), (q_4, .inl (cI, 30, .inl (fun _ => 0)))] H := hP
  replace hD : va_D A [(h, .inr (4, [.ref q_1, .ref q_2, .ref q_3, .null, .null])), (q_1, .inl (cZ, 30, .inl (fun _ => 0))), (q_2, .inl (cI, 30, .inl (fun _ => 0))), (q_3, .inl (cI, 30, .inl (fun _ => 0))), (q_4, .inl (cI, 30, .inl (fun _ => 0)))] := hD
  refine W.widen (k := 4) (n := 120) (by omega) (by omega) ?_
  refine va_putF (D := D) (ci := 4) (v := .ref q_4) (ty := .array .int) (C := RX4) (T := TX4) (N := 5) hx hb hts in4 tyX4 tyX4_ok nmX4 hown hK hP hD hS 0 rfl rfl 3 (by decide) (hts (.fieldLink RX4 22 "Granary$Policies" "source" "[I") (by decide +kernel)) (fun _ h9 => h9) rfl hin rfl (by decide +kernel) rfl rfl (Nat.le_of_ble_eq_true rfl) dX4_init_33 (fun H locs hP hD hS => ?_)
  replace hP : va_P D vwCl [(h, .inr (4, [.ref q_1, .ref q_2, .ref q_3, .ref q_4, .null])), (q_1, .inl (cZ, 30, .inl (fun _ => 0))), (q_2, .inl (cI, 30, .inl (fun _ => 0))), (q_3, .inl (cI, 30, .inl (fun _ => 0))), (q_4, .inl (cI, 30, .inl (fun _ => 0)))] H := hP
  replace hD : va_D A [(h, .inr (4, [.ref q_1, .ref q_2, .ref q_3, .ref q_4, .null])), (q_1, .inl (cZ, 30, .inl (fun _ => 0))), (q_2, .inl (cI, 30, .inl (fun _ => 0))), (q_3, .inl (cI, 30, .inl (fun _ => 0))), (q_4, .inl (cI, 30, .inl (fun _ => 0)))] := hD
  refine lv_aload_n hx hb dX4_init_36 rfl (lv_at hl 0 rfl) ?_
  refine lv_bipush (v := 30) hx hb dX4_init_37 (by decide) ?_
  refine na_i (N' := 30) hx hb (hts (.arrayClass .int) (by decide +kernel)) hK hP hD hS hA (by decide) (by decide) (Nat.le_of_ble_eq_true rfl) (Nat.le_of_ble_eq_true rfl) (Nat.le_of_ble_eq_true rfl) dX4_init_39 (fun q_5 H hP hD hS => ?_)
  replace hP : va_P D vwCl [(h, .inr (4, [.ref q_1, .ref q_2, .ref q_3, .ref q_4, .null])), (q_1, .inl (cZ, 30, .inl (fun _ => 0))), (q_2, .inl (cI, 30, .inl (fun _ => 0))), (q_3, .inl (cI, 30, .inl (fun _ => 0))), (q_4, .inl (cI, 30, .inl (fun _ => 0))), (q_5, .inl (cI, 30, .inl (fun _ => 0)))] H := hP
  replace hD : va_D A [(h, .inr (4, [.ref q_1, .ref q_2, .ref q_3, .ref q_4, .null])), (q_1, .inl (cZ, 30, .inl (fun _ => 0))), (q_2, .inl (cI, 30, .inl (fun _ => 0))), (q_3, .inl (cI, 30, .inl (fun _ => 0))), (q_4, .inl (cI, 30, .inl (fun _ => 0))), (q_5, .inl (cI, 30, .inl (fun _ => 0)))] := hD
  refine W.widen (k := 5) (n := 150) (by omega) (by omega) ?_
  refine va_putF (D := D) (ci := 4) (v := .ref q_5) (ty := .array .int) (C := RX4) (T := TX4) (N := 5) hx hb hts in4 tyX4 tyX4_ok nmX4 hown hK hP hD hS 0 rfl rfl 4 (by decide) (hts (.fieldLink RX4 25 "Granary$Policies" "lead" "[I") (by decide +kernel)) (fun _ h9 => h9) rfl hin rfl (by decide +kernel) rfl rfl (Nat.le_of_ble_eq_true rfl) dX4_init_41 (fun H locs hP hD hS => ?_)
  replace hP : va_P D vwCl [(h, .inr (4, [.ref q_1, .ref q_2, .ref q_3, .ref q_4, .ref q_5])), (q_1, .inl (cZ, 30, .inl (fun _ => 0))), (q_2, .inl (cI, 30, .inl (fun _ => 0))), (q_3, .inl (cI, 30, .inl (fun _ => 0))), (q_4, .inl (cI, 30, .inl (fun _ => 0))), (q_5, .inl (cI, 30, .inl (fun _ => 0)))] H := hP
  replace hD : va_D A [(h, .inr (4, [.ref q_1, .ref q_2, .ref q_3, .ref q_4, .ref q_5])), (q_1, .inl (cZ, 30, .inl (fun _ => 0))), (q_2, .inl (cI, 30, .inl (fun _ => 0))), (q_3, .inl (cI, 30, .inl (fun _ => 0))), (q_4, .inl (cI, 30, .inl (fun _ => 0))), (q_5, .inl (cI, 30, .inl (fun _ => 0)))] := hD
  refine W.widen (k := 5) (n := 150) (by omega) (by omega) ?_
  have hP9 := hP.sub (ws' := [(h, .inr (4, [.ref q_1, .ref q_2, .ref q_3, .ref q_4, .ref q_5])), (q_1, .inl (cZ, 30, .inl (fun _ => 0))), (q_2, .inl (cI, 30, .inl (fun _ => 0))), (q_3, .inl (cI, 30, .inl (fun _ => 0))), (q_4, .inl (cI, 30, .inl (fun _ => 0))), (q_5, .inl (cI, 30, .inl (fun _ => 0)))]) [0, 1, 2, 3, 4, 5] rfl
  have hD9 := hD.sub (ws' := [(h, .inr (4, [.ref q_1, .ref q_2, .ref q_3, .ref q_4, .ref q_5])), (q_1, .inl (cZ, 30, .inl (fun _ => 0))), (q_2, .inl (cI, 30, .inl (fun _ => 0))), (q_3, .inl (cI, 30, .inl (fun _ => 0))), (q_4, .inl (cI, 30, .inl (fun _ => 0))), (q_5, .inl (cI, 30, .inl (fun _ => 0)))]) [0, 1, 2, 3, 4, 5] (by decide) rfl
  exact W.vret hx hb hr (fun t ht hW => ⟨⟨(), rfl, trivial, q_1, q_2, q_3, q_4, q_5, by rw [ht]; exact hP9, hD9⟩, hS.F ht⟩) hS.2.2 dX4_init_44

set_option maxHeartbeats 4000000 in
set_option maxRecDepth 100000 in
/-- a constructor -/
theorem c_X1_init (l : Launch) (D : va_G) (cI cZ cJ : ClassId) (lo sz : Nat) (h : Nat) : Met l yX1_init wsX1_init ({ frames := 1, cells := 5, slots := 1000, locals := 12 }) (Pre lo D cI cZ cJ [.ref h] sz [(h, .inr (1, [.int 0, .null, .null, .null, .null, .null]))]) (va_Qv (fun _ : Unit => True) (fun _ t => ∃ (q1 : Nat) (q2 : Nat) (q3 : Nat) (q4 : Nat) (q5 : Nat), va_P D vwCl [(h, .inr (1, [.int 0, .ref q1, .ref q2, .ref q3, .ref q4, .ref q5])), (q1, .inl (cI, 200, .inl (fun _ => 0))), (q2, .inl (cI, 200, .inl (fun _ => 0))), (q3, .inl (cI, 200, .inl (fun _ => 0))), (q4, .inl (cI, 200, .inl (fun _ => 0))), (q5, .inl (cI, 200, .inl (fun _ => 0)))] t.heap ∧ va_D (va_A [(h, .inr (1, [.int 0, .null, .null, .null, .null, .null]))] sz) [(h, .inr (1, [.int 0, .ref q1, .ref q2, .ref q3, .ref q4, .ref q5])), (q1, .inl (cI, 200, .inl (fun _ => 0))), (q2, .inl (cI, 200, .inl (fun _ => 0))), (q3, .inl (cI, 200, .inl (fun _ => 0))), (q4, .inl (cI, 200, .inl (fun _ => 0))), (q5, .inl (cI, 200, .inl (fun _ => 0)))]) (va_A [(h, .inr (1, [.int 0, .null, .null, .null, .null, .null]))] sz)) 5 1000 (va_A [(h, .inr (1, [.int 0, .null, .null, .null, .null, .null]))] sz) := by
  refine Met.ofW (cc := cX1_init) (maxL := 1) (ret := none) (by decide) rfl ?_
  intro p e s m args below meth c s₁ B hml hv
  obtain ⟨rfl, hsz, hP, hD0, hC⟩ := hv
  have hx := B.exec
  have hb := B.bytes
  have hr := B.returns
  have hts := atoms_spec (ws := wsX1_init) B.pre
  have hown : s.vm.findClass RX1 = some m.cls := findClass_of_methodNamed B.named
  have hlocks := B.notSynchronized
  have hin : meth.name = "<init>" := (name_of_methodNamed B.named B.method).1
  subst hsz
  have hK := hC.K
  have hD := hD0.self (sz := s.heap.size)
  have hAlo0 := va_A_lo hD0 hC.1
  generalize hAe : va_A [(h, .inr (1, [.int 0, .null, .null, .null, .null, .null]))] s.heap.size = A at hD hAlo0 ⊢
  have hA : ∀ q : Nat, s.heap.size ≤ q → A q := fun q h => by rw [← hAe]; exact Or.inr h
  have hAlo : ∀ q, A q → lo ≤ q := hAlo0
  have hS : va_S A s.heap s.heap [] := va_S.rf
  have hP : va_P D vwCl [(h, .inr (1, [.int 0, .null, .null, .null, .null, .null]))] s.heap := hP
  have hl := lv_entry ([.ref h]) (n := 1) (Nat.le_of_ble_eq_true rfl)
  rw [lg_entry_eq]
  generalize (lg_sl ([.ref h]) ++ List.replicate (1 - (lg_sl ([.ref h])).length) Slot.unset).toArray = ls at hl ⊢
  have hl : lv_has ls 1 [(0, .ref h)] := hl
  have in1 : ∀ w ∈ u_ws RX1 TX1 6, w ∈ wsX1_init := by decide +kernel
  refine lv_aload_n hx hb dX1_init_0 rfl (lv_at hl 0 rfl) ?_
  refine W.objInit hx hb hown (hts (.methodLink RX1 3 objectInit) (by decide +kernel)) (hts (.instanceMethod objectInit) (by decide +kernel)) (hts _ (by decide +kernel)) rfl (by rw [hml]; exact hl.1) rfl dX1_init_1 (Nat.le_of_ble_eq_true rfl) (Nat.le_of_ble_eq_true rfl) ?_
  refine W.eq (g2 := F0 m 4 ls []) rfl ?_
  refine lv_aload_n hx hb dX1_init_4 rfl (lv_at hl 0 rfl) ?_
  refine lv_sipush (v := 200) hx hb dX1_init_5 (by decide) ?_
  refine na_i (N' := 200) hx hb (hts (.arrayClass .int) (by decide +kernel)) hK hP hD hS hA (by decide) (by decide) (Nat.le_of_ble_eq_true rfl) (Nat.le_of_ble_eq_true rfl) (Nat.le_of_ble_eq_true rfl) dX1_init_8 (fun q_1 H hP hD hS => ?_)
  replace hP : va_P D vwCl [(h, .inr (1, [.int 0, .null, .null, .null, .null, .null])), (q_1, .inl (cI, 200, .inl (fun _ => 0)))] H := hP
  replace hD : va_D A [(h, .inr (1, [.int 0, .null, .null, .null, .null, .null])), (q_1, .inl (cI, 200, .inl (fun _ => 0)))] := hD
  refine W.widen (k := 1) (n := 200) (by omega) (by omega) ?_
  refine va_putF (D := D) (ci := 1) (v := .ref q_1) (ty := .array .int) (C := RX1) (T := TX1) (N := 6) hx hb hts in1 tyX1 tyX1_ok nmX1 hown hK hP hD hS 0 rfl rfl 1 (by decide) (hts (.fieldLink RX1 9 "Granary$Lots" "item" "[I") (by decide +kernel)) (fun _ h9 => h9) rfl hin rfl (by decide +kernel) rfl rfl (Nat.le_of_ble_eq_true rfl) dX1_init_10 (fun H locs hP hD hS => ?_)
  replace hP : va_P D vwCl [(h, .inr (1, [.int 0, .ref q_1, .null, .null, .null, .null])), (q_1, .inl (cI, 200, .inl (fun _ => 0)))] H := hP
  replace hD : va_D A [(h, .inr (1, [.int 0, .ref q_1, .null, .null, .null, .null])), (q_1, .inl (cI, 200, .inl (fun _ => 0)))] := hD
  refine lv_aload_n hx hb dX1_init_13 rfl (lv_at hl 0 rfl) ?_
  refine lv_sipush (v := 200) hx hb dX1_init_14 (by decide) ?_
  refine na_i (N' := 200) hx hb (hts (.arrayClass .int) (by decide +kernel)) hK hP hD hS hA (by decide) (by decide) (Nat.le_of_ble_eq_true rfl) (Nat.le_of_ble_eq_true rfl) (Nat.le_of_ble_eq_true rfl) dX1_init_17 (fun q_2 H hP hD hS => ?_)
  replace hP : va_P D vwCl [(h, .inr (1, [.int 0, .ref q_1, .null, .null, .null, .null])), (q_1, .inl (cI, 200, .inl (fun _ => 0))), (q_2, .inl (cI, 200, .inl (fun _ => 0)))] H := hP
  replace hD : va_D A [(h, .inr (1, [.int 0, .ref q_1, .null, .null, .null, .null])), (q_1, .inl (cI, 200, .inl (fun _ => 0))), (q_2, .inl (cI, 200, .inl (fun _ => 0)))] := hD
  refine W.widen (k := 2) (n := 400) (by omega) (by omega) ?_
  refine va_putF (D := D) (ci := 1) (v := .ref q_2) (ty := .array .int) (C := RX1) (T := TX1) (N := 6) hx hb hts in1 tyX1 tyX1_ok nmX1 hown hK hP hD hS 0 rfl rfl 2 (by decide) (hts (.fieldLink RX1 15 "Granary$Lots" "site" "[I") (by decide +kernel)) (fun _ h9 => h9) rfl hin rfl (by decide +kernel) rfl rfl (Nat.le_of_ble_eq_true rfl) dX1_init_19 (fun H locs hP hD hS => ?_)
  replace hP : va_P D vwCl [(h, .inr (1, [.int 0, .ref q_1, .ref q_2, .null, .null, .null])), (q_1, .inl (cI, 200, .inl (fun _ => 0))), (q_2, .inl (cI, 200, .inl (fun _ => 0)))] H := hP
  replace hD : va_D A [(h, .inr (1, [.int 0, .ref q_1, .ref q_2, .null, .null, .null])), (q_1, .inl (cI, 200, .inl (fun _ => 0))), (q_2, .inl (cI, 200, .inl (fun _ => 0)))] := hD
  refine lv_aload_n hx hb dX1_init_22 rfl (lv_at hl 0 rfl) ?_
  refine lv_sipush (v := 200) hx hb dX1_init_23 (by decide) ?_
  refine na_i (N' := 200) hx hb (hts (.arrayClass .int) (by decide +kernel)) hK hP hD hS hA (by decide) (by decide) (Nat.le_of_ble_eq_true rfl) (Nat.le_of_ble_eq_true rfl) (Nat.le_of_ble_eq_true rfl) dX1_init_26 (fun q_3 H hP hD hS => ?_)
  replace hP : va_P D vwCl [(h, .inr (1, [.int 0, .ref q_1, .ref q_2, .null, .null, .null])), (q_1, .inl (cI, 200, .inl (fun _ => 0))), (q_2, .inl (cI, 200, .inl (fun _ => 0))), (q_3, .inl (cI, 200, .inl (fun _ => 0)))] H := hP
  replace hD : va_D A [(h, .inr (1, [.int 0, .ref q_1, .ref q_2, .null, .null, .null])), (q_1, .inl (cI, 200, .inl (fun _ => 0))), (q_2, .inl (cI, 200, .inl (fun _ => 0))), (q_3, .inl (cI, 200, .inl (fun _ => 0)))] := hD
  refine W.widen (k := 3) (n := 600) (by omega) (by omega) ?_
  refine va_putF (D := D) (ci := 1) (v := .ref q_3) (ty := .array .int) (C := RX1) (T := TX1) (N := 6) hx hb hts in1 tyX1 tyX1_ok nmX1 hown hK hP hD hS 0 rfl rfl 3 (by decide) (hts (.fieldLink RX1 18 "Granary$Lots" "units" "[I") (by decide +kernel)) (fun _ h9 => h9) rfl hin rfl (by decide +kernel) rfl rfl (Nat.le_of_ble_eq_true rfl) dX1_init_28 (fun H locs hP hD hS => ?_)
  replace hP : va_P D vwCl [(h, .inr (1, [.int 0, .ref q_1, .ref q_2, .ref q_3, .null, .null])), (q_1, .inl (cI, 200, .inl (fun _ => 0))), (q_2, .inl (cI, 200, .inl (fun _ => 0))), (q_3, .inl (cI, 200, .inl (fun _ => 0)))] H := hP
  replace hD : va_D A [(h, .inr (1, [.int 0, .ref q_1, .ref q_2, .ref q_3, .null, .null])), (q_1, .inl (cI, 200, .inl (fun _ => 0))), (q_2, .inl (cI, 200, .inl (fun _ => 0))), (q_3, .inl (cI, 200, .inl (fun _ => 0)))] := hD
  refine lv_aload_n hx hb dX1_init_31 rfl (lv_at hl 0 rfl) ?_
  refine lv_sipush (v := 200) hx hb dX1_init_32 (by decide) ?_
  refine na_i (N' := 200) hx hb (hts (.arrayClass .int) (by decide +kernel)) hK hP hD hS hA (by decide) (by decide) (Nat.le_of_ble_eq_true rfl) (Nat.le_of_ble_eq_true rfl) (Nat.le_of_ble_eq_true rfl) dX1_init_35 (fun q_4 H hP hD hS => ?_)
  replace hP : va_P D vwCl [(h, .inr (1, [.int 0, .ref q_1, .ref q_2, .ref q_3, .null, .null])), (q_1, .inl (cI, 200, .inl (fun _ => 0))), (q_2, .inl (cI, 200, .inl (fun _ => 0))), (q_3, .inl (cI, 200, .inl (fun _ => 0))), (q_4, .inl (cI, 200, .inl (fun _ => 0)))] H := hP
  replace hD : va_D A [(h, .inr (1, [.int 0, .ref q_1, .ref q_2, .ref q_3, .null, .null])), (q_1, .inl (cI, 200, .inl (fun _ => 0))), (q_2, .inl (cI, 200, .inl (fun _ => 0))), (q_3, .inl (cI, 200, .inl (fun _ => 0))), (q_4, .inl (cI, 200, .inl (fun _ => 0)))] := hD
  refine W.widen (k := 4) (n := 800) (by omega) (by omega) ?_
  refine va_putF (D := D) (ci := 1) (v := .ref q_4) (ty := .array .int) (C := RX1) (T := TX1) (N := 6) hx hb hts in1 tyX1 tyX1_ok nmX1 hown hK hP hD hS 0 rfl rfl 4 (by decide) (hts (.fieldLink RX1 21 "Granary$Lots" "reserved" "[I") (by decide +kernel)) (fun _ h9 => h9) rfl hin rfl (by decide +kernel) rfl rfl (Nat.le_of_ble_eq_true rfl) dX1_init_37 (fun H locs hP hD hS => ?_)
  replace hP : va_P D vwCl [(h, .inr (1, [.int 0, .ref q_1, .ref q_2, .ref q_3, .ref q_4, .null])), (q_1, .inl (cI, 200, .inl (fun _ => 0))), (q_2, .inl (cI, 200, .inl (fun _ => 0))), (q_3, .inl (cI, 200, .inl (fun _ => 0))), (q_4, .inl (cI, 200, .inl (fun _ => 0)))] H := hP
  replace hD : va_D A [(h, .inr (1, [.int 0, .ref q_1, .ref q_2, .ref q_3, .ref q_4, .null])), (q_1, .inl (cI, 200, .inl (fun _ => 0))), (q_2, .inl (cI, 200, .inl (fun _ => 0))), (q_3, .inl (cI, 200, .inl (fun _ => 0))), (q_4, .inl (cI, 200, .inl (fun _ => 0)))] := hD
  refine lv_aload_n hx hb dX1_init_40 rfl (lv_at hl 0 rfl) ?_
  refine lv_sipush (v := 200) hx hb dX1_init_41 (by decide) ?_
  refine na_i (N' := 200) hx hb (hts (.arrayClass .int) (by decide +kernel)) hK hP hD hS hA (by decide) (by decide) (Nat.le_of_ble_eq_true rfl) (Nat.le_of_ble_eq_true rfl) (Nat.le_of_ble_eq_true rfl) dX1_init_44 (fun q_5 H hP hD hS => ?_)
  replace hP : va_P D vwCl [(h, .inr (1, [.int 0, .ref q_1, .ref q_2, .ref q_3, .ref q_4, .null])), (q_1, .inl (cI, 200, .inl (fun _ => 0))), (q_2, .inl (cI, 200, .inl (fun _ => 0))), (q_3, .inl (cI, 200, .inl (fun _ => 0))), (q_4, .inl (cI, 200, .inl (fun _ => 0))), (q_5, .inl (cI, 200, .inl (fun _ => 0)))] H := hP
  replace hD : va_D A [(h, .inr (1, [.int 0, .ref q_1, .ref q_2, .ref q_3, .ref q_4, .null])), (q_1, .inl (cI, 200, .inl (fun _ => 0))), (q_2, .inl (cI, 200, .inl (fun _ => 0))), (q_3, .inl (cI, 200, .inl (fun _ => 0))), (q_4, .inl (cI, 200, .inl (fun _ => 0))), (q_5, .inl (cI, 200, .inl (fun _ => 0)))] := hD
  refine W.widen (k := 5) (n := 1000) (by omega) (by omega) ?_
  refine va_putF (D := D) (ci := 1) (v := .ref q_5) (ty := .array .int) (C := RX1) (T := TX1) (N := 6) hx hb hts in1 tyX1 tyX1_ok nmX1 hown hK hP hD hS 0 rfl rfl 5 (by decide) (hts (.fieldLink RX1 24 "Granary$Lots" "last" "[I") (by decide +kernel)) (fun _ h9 => h9) rfl hin rfl (by decide +kernel) rfl rfl (Nat.le_of_ble_eq_true rfl) dX1_init_46 (fun H locs hP hD hS => ?_)
  replace hP : va_P D vwCl [(h, .inr (1, [.int 0, .ref q_1, .ref q_2, .ref q_3, .ref q_4, .ref q_5])), (q_1, .inl (cI, 200, .inl (fun _ => 0))), (q_2, .inl (cI, 200, .inl (fun _ => 0))), (q_3, .inl (cI, 200, .inl (fun _ => 0))), (q_4, .inl (cI, 200, .inl (fun _ => 0))), (q_5, .inl (cI, 200, .inl (fun _ => 0)))] H := hP
  replace hD : va_D A [(h, .inr (1, [.int 0, .ref q_1, .ref q_2, .ref q_3, .ref q_4, .ref q_5])), (q_1, .inl (cI, 200, .inl (fun _ => 0))), (q_2, .inl (cI, 200, .inl (fun _ => 0))), (q_3, .inl (cI, 200, .inl (fun _ => 0))), (q_4, .inl (cI, 200, .inl (fun _ => 0))), (q_5, .inl (cI, 200, .inl (fun _ => 0)))] := hD
  refine W.widen (k := 5) (n := 1000) (by omega) (by omega) ?_
  have hP9 := hP.sub (ws' := [(h, .inr (1, [.int 0, .ref q_1, .ref q_2, .ref q_3, .ref q_4, .ref q_5])), (q_1, .inl (cI, 200, .inl (fun _ => 0))), (q_2, .inl (cI, 200, .inl (fun _ => 0))), (q_3, .inl (cI, 200, .inl (fun _ => 0))), (q_4, .inl (cI, 200, .inl (fun _ => 0))), (q_5, .inl (cI, 200, .inl (fun _ => 0)))]) [0, 1, 2, 3, 4, 5] rfl
  have hD9 := hD.sub (ws' := [(h, .inr (1, [.int 0, .ref q_1, .ref q_2, .ref q_3, .ref q_4, .ref q_5])), (q_1, .inl (cI, 200, .inl (fun _ => 0))), (q_2, .inl (cI, 200, .inl (fun _ => 0))), (q_3, .inl (cI, 200, .inl (fun _ => 0))), (q_4, .inl (cI, 200, .inl (fun _ => 0))), (q_5, .inl (cI, 200, .inl (fun _ => 0)))]) [0, 1, 2, 3, 4, 5] (by decide) rfl
  exact W.vret hx hb hr (fun t ht hW => ⟨⟨(), rfl, trivial, q_1, q_2, q_3, q_4, q_5, by rw [ht]; exact hP9, hD9⟩, hS.F ht⟩) hS.2.2 dX1_init_49

set_option maxHeartbeats 4000000 in
set_option maxRecDepth 100000 in
/-- a constructor -/
theorem c_X2_init (l : Launch) (D : va_G) (cI cZ cJ : ClassId) (lo sz : Nat) (h : Nat) : Met l yX2_init wsX2_init ({ frames := 1, cells := 10, slots := 12540, locals := 12 }) (Pre lo D cI cZ cJ [.ref h] sz [(h, .inr (2, [.int 0, .null, .null, .null, .null, .null, .null, .null, .null, .null, .null]))]) (va_Qv (fun _ : Unit => True) (fun _ t => ∃ (q1 : Nat) (q2 : Nat) (q3 : Nat) (q4 : Nat) (q5 : Nat) (q6 : Nat) (q7 : Nat) (q8 : Nat) (q9 : Nat) (q10 : Nat), va_P D vwCl [(h, .inr (2, [.int 0, .ref q1, .ref q2, .ref q3, .ref q4, .ref q5, .ref q6, .ref q7, .ref q8, .ref q9, .ref q10])), (q1, .inl (cI, 60, .inl (fun _ => 0))), (q2, .inl (cI, 60, .inl (fun _ => 0))), (q3, .inl (cI, 60, .inl (fun _ => 0))), (q4, .inl (cI, 60, .inl (fun _ => 0))), (q5, .inl (cI, 60, .inl (fun _ => 0))), (q6, .inl (cI, 60, .inl (fun _ => 0))), (q7, .inl (cI, 60, .inl (fun _ => 0))), (q8, .inl (cI, 60, .inl (fun _ => 0))), (q9, .inl (cI, 60, .inl (fun _ => 0))), (q10, .inl (cI, 12000, .inl (fun _ => 0)))] t.heap ∧ va_D (va_A [(h, .inr (2, [.int 0, .null, .null, .null, .null, .null, .null, .null, .null, .null, .null]))] sz) [(h, .inr (2, [.int 0, .ref q1, .ref q2, .ref q3, .ref q4, .ref q5, .ref q6, .ref q7, .ref q8, .ref q9, .ref q10])), (q1, .inl (cI, 60, .inl (fun _ => 0))), (q2, .inl (cI, 60, .inl (fun _ => 0))), (q3, .inl (cI, 60, .inl (fun _ => 0))), (q4, .inl (cI, 60, .inl (fun _ => 0))), (q5, .inl (cI, 60, .inl (fun _ => 0))), (q6, .inl (cI, 60, .inl (fun _ => 0))), (q7, .inl (cI, 60, .inl (fun _ => 0))), (q8, .inl (cI, 60, .inl (fun _ => 0))), (q9, .inl (cI, 60, .inl (fun _ => 0))), (q10, .inl (cI, 12000, .inl (fun _ => 0)))]) (va_A [(h, .inr (2, [.int 0, .null, .null, .null, .null, .null, .null, .null, .null, .null, .null]))] sz)) 10 12540 (va_A [(h, .inr (2, [.int 0, .null, .null, .null, .null, .null, .null, .null, .null, .null, .null]))] sz) := by
  refine Met.ofW (cc := cX2_init) (maxL := 1) (ret := none) (by decide) rfl ?_
  intro p e s m args below meth c s₁ B hml hv
  obtain ⟨rfl, hsz, hP, hD0, hC⟩ := hv
  have hx := B.exec
  have hb := B.bytes
  have hr := B.returns
  have hts := atoms_spec (ws := wsX2_init) B.pre
  have hown : s.vm.findClass RX2 = some m.cls := findClass_of_methodNamed B.named
  have hlocks := B.notSynchronized
  have hin : meth.name = "<init>" := (name_of_methodNamed B.named B.method).1
  subst hsz
  have hK := hC.K
  have hD := hD0.self (sz := s.heap.size)
  have hAlo0 := va_A_lo hD0 hC.1
  generalize hAe : va_A [(h, .inr (2, [.int 0, .null, .null, .null, .null, .null, .null, .null, .null, .null, .null]))] s.heap.size = A at hD hAlo0 ⊢
  have hA : ∀ q : Nat, s.heap.size ≤ q → A q := fun q h => by rw [← hAe]; exact Or.inr h
  have hAlo : ∀ q, A q → lo ≤ q := hAlo0
  have hS : va_S A s.heap s.heap [] := va_S.rf
  have hP : va_P D vwCl [(h, .inr (2, [.int 0, .null, .null, .null, .null, .null, .null, .null, .null, .null, .null]))] s.heap := hP
  have hl := lv_entry ([.ref h]) (n := 1) (Nat.le_of_ble_eq_true rfl)
  rw [lg_entry_eq]
  generalize (lg_sl ([.ref h]) ++ List.replicate (1 - (lg_sl ([.ref h])).length) Slot.unset).toArray = ls at hl ⊢
  have hl : lv_has ls 1 [(0, .ref h)] := hl
  have in2 : ∀ w ∈ u_ws RX2 TX2 11, w ∈ wsX2_init := by decide +kernel
  refine lv_aload_n hx hb dX2_init_0 rfl (lv_at hl 0 rfl) ?_
  refine W.objInit hx hb hown (hts (.methodLink RX2 3 objectInit) (by decide +kernel)) (hts (.instanceMethod objectInit) (by decide +kernel)) (hts _ (by decide +kernel)) rfl (by rw [hml]; exact hl.1) rfl dX2_init_1 (Nat.le_of_ble_eq_true rfl) (Nat.le_of_ble_eq_true rfl) ?_
  refine W.eq (g2 := F0 m 4 ls []) rfl ?_
  refine lv_aload_n hx hb dX2_init_4 rfl (lv_at hl 0 rfl) ?_
  refine lv_bipush (v := 60) hx hb dX2_init_5 (by decide) ?_
  refine na_i (N' := 60) hx hb (hts (.arrayClass .int) (by decide +kernel)) hK hP hD hS hA (by decide) (by decide) (Nat.le_of_ble_eq_true rfl) (Nat.le_of_ble_eq_true rfl) (Nat.le_of_ble_eq_true rfl) dX2_init_7 (fun q_1 H hP hD hS => ?_)
  replace hP : va_P D vwCl [(h, .inr (2, [.int 0, .null, .null, .null, .null, .null, .null, .null, .null, .null, .null])), (q_1, .inl (cI, 60, .inl (fun _ => 0)))] H := hP
  replace hD : va_D A [(h, .inr (2, [.int 0, .null, .null, .null, .null, .null, .null, .null, .null, .null, .null])), (q_1, .inl (cI, 60, .inl (fun _ => 0)))] := hD
  refine W.widen (k := 1) (n := 60) (by omega) (by omega) ?_
  refine va_putF (D := D) (ci := 2) (v := .ref q_1) (ty := .array .int) (C := RX2) (T := TX2) (N := 11) hx hb hts in2 tyX2 tyX2_ok nmX2 hown hK hP hD hS 0 rfl rfl 1 (by decide) (hts (.fieldLink RX2 9 "Granary$Orders" "item" "[I") (by decide +kernel)) (fun _ h9 => h9) rfl hin rfl (by decide +kernel) rfl rfl (Nat.le_of_ble_eq_true rfl) dX2_init_9 (fun H locs hP hD hS => ?_)
  replace hP : va_P D vwCl [(h, .inr (2, [.int 0, .ref q_1, .null, .null, .null, .null, .null, .null, .null, .null, .null])), (q_1, .inl (cI, 60, .inl (fun _ => 0)))] H := hP
  replace hD : va_D A [(h, .inr (2, [.int 0, .ref q_1, .null, .null, .null, .null, .null, .null, .null, .null, .null])), (q_1, .inl (cI, 60, .inl (fun _ => 0)))] := hD
  refine lv_aload_n hx hb dX2_init_12 rfl (lv_at hl 0 rfl) ?_
  refine lv_bipush (v := 60) hx hb dX2_init_13 (by decide) ?_
  refine na_i (N' := 60) hx hb (hts (.arrayClass .int) (by decide +kernel)) hK hP hD hS hA (by decide) (by decide) (Nat.le_of_ble_eq_true rfl) (Nat.le_of_ble_eq_true rfl) (Nat.le_of_ble_eq_true rfl) dX2_init_15 (fun q_2 H hP hD hS => ?_)
  replace hP : va_P D vwCl [(h, .inr (2, [.int 0, .ref q_1, .null, .null, .null, .null, .null, .null, .null, .null, .null])), (q_1, .inl (cI, 60, .inl (fun _ => 0))), (q_2, .inl (cI, 60, .inl (fun _ => 0)))] H := hP
  replace hD : va_D A [(h, .inr (2, [.int 0, .ref q_1, .null, .null, .null, .null, .null, .null, .null, .null, .null])), (q_1, .inl (cI, 60, .inl (fun _ => 0))), (q_2, .inl (cI, 60, .inl (fun _ => 0)))] := hD
  refine W.widen (k := 2) (n := 120) (by omega) (by omega) ?_
  refine va_putF (D := D) (ci := 2) (v := .ref q_2) (ty := .array .int) (C := RX2) (T := TX2) (N := 11) hx hb hts in2 tyX2 tyX2_ok nmX2 hown hK hP hD hS 0 rfl rfl 2 (by decide) (hts (.fieldLink RX2 15 "Granary$Orders" "site" "[I") (by decide +kernel)) (fun _ h9 => h9) rfl hin rfl (by decide +kernel) rfl rfl (Nat.le_of_ble_eq_true rfl) dX2_init_17 (fun H locs hP hD hS => ?_)
  replace hP : va_P D vwCl [(h, .inr (2, [.int 0, .ref q_1, .ref q_2, .null, .null, .null, .null, .null, .null, .null, .null])), (q_1, .inl (cI, 60, .inl (fun _ => 0))), (q_2, .inl (cI, 60, .inl (fun _ => 0)))] H := hP
  replace hD : va_D A [(h, .inr (2, [.int 0, .ref q_1, .ref q_2, .null, .null, .null, .null, .null, .null, .null, .null])), (q_1, .inl (cI, 60, .inl (fun _ => 0))), (q_2, .inl (cI, 60, .inl (fun _ => 0)))] := hD
  refine lv_aload_n hx hb dX2_init_20 rfl (lv_at hl 0 rfl) ?_
  refine lv_bipush (v := 60) hx hb dX2_init_21 (by decide) ?_
  refine na_i (N' := 60) hx hb (hts (.arrayClass .int) (by decide +kernel)) hK hP hD hS hA (by decide) (by decide) (Nat.le_of_ble_eq_true rfl) (Nat.le_of_ble_eq_true rfl) (Nat.le_of_ble_eq_true rfl) dX2_init_23 (fun q_3 H hP hD hS => ?_)
  replace hP : va_P D vwCl [(h, .inr (2, [.int 0, .ref q_1, .ref q_2, .null, .null, .null, .null, .null, .null, .null, .null])), (q_1, .inl (cI, 60, .inl (fun _ => 0))), (q_2, .inl (cI, 60, .inl (fun _ => 0))), (q_3, .inl (cI, 60, .inl (fun _ => 0)))] H := hP
  replace hD : va_D A [(h, .inr (2, [.int 0, .ref q_1, .ref q_2, .null, .null, .null, .null, .null, .null, .null, .null])), (q_1, .inl (cI, 60, .inl (fun _ => 0))), (q_2, .inl (cI, 60, .inl (fun _ => 0))), (q_3, .inl (cI, 60, .inl (fun _ => 0)))] := hD
  refine W.widen (k := 3) (n := 180) (by omega) (by omega) ?_
  refine va_putF (D := D) (ci := 2) (v := .ref q_3) (ty := .array .int) (C := RX2) (T := TX2) (N := 11) hx hb hts in2 tyX2 tyX2_ok nmX2 hown hK hP hD hS 0 rfl rfl 3 (by decide) (hts (.fieldLink RX2 18 "Granary$Orders" "units" "[I") (by decide +kernel)) (fun _ h9 => h9) rfl hin rfl (by decide +kernel) rfl rfl (Nat.le_of_ble_eq_true rfl) dX2_init_25 (fun H locs hP hD hS => ?_)
  replace hP : va_P D vwCl [(h, .inr (2, [.int 0, .ref q_1, .ref q_2, .ref q_3, .null, .null, .null, .null, .null, .null, .null])), (q_1, .inl (cI, 60, .inl (fun _ => 0))), (q_2, .inl (cI, 60, .inl (fun _ => 0))), (q_3, .inl (cI, 60, .inl (fun _ => 0)))] H := hP
  replace hD : va_D A [(h, .inr (2, [.int 0, .ref q_1, .ref q_2, .ref q_3, .null, .null, .null, .null, .null, .null, .null])), (q_1, .inl (cI, 60, .inl (fun _ => 0))), (q_2, .inl (cI, 60, .inl (fun _ => 0))), (q_3, .inl (cI, 60, .inl (fun _ => 0)))] := hD
  refine lv_aload_n hx hb dX2_init_28 rfl (lv_at hl 0 rfl) ?_
  refine lv_bipush (v := 60) hx hb dX2_init_29 (by decide) ?_
  refine na_i (N' := 60) hx hb (hts (.arrayClass .int) (by decide +kernel)) hK hP hD hS hA (by decide) (by decide) (Nat.le_of_ble_eq_true rfl) (Nat.le_of_ble_eq_true rfl) (Nat.le_of_ble_eq_true rfl) dX2_init_31 (fun q_4 H hP hD hS => ?_)
  replace hP : va_P D vwCl [(h, .inr (2, [.int 0, .ref q_1, .ref q_2, .ref q_3, .null, .null, .null, .null, .null, .null, .null])), (q_1, .inl (cI, 60, .inl (fun _ => 0))), (q_2, .inl (cI, 60, .inl (fun _ => 0))), (q_3, .inl (cI, 60, .inl (fun _ => 0))), (q_4, .inl (cI, 60, .inl (fun _ => 0)))] H := hP
  replace hD : va_D A [(h, .inr (2, [.int 0, .ref q_1, .ref q_2, .ref q_3, .null, .null, .null, .null, .null, .null, .null])), (q_1, .inl (cI, 60, .inl (fun _ => 0))), (q_2, .inl (cI, 60, .inl (fun _ => 0))), (q_3, .inl (cI, 60, .inl (fun _ => 0))), (q_4, .inl (cI, 60, .inl (fun _ => 0)))] := hD
  refine W.widen (k := 4) (n := 240) (by omega) (by omega) ?_
  refine va_putF (D := D) (ci := 2) (v := .ref q_4) (ty := .array .int) (C := RX2) (T := TX2) (N := 11) hx hb hts in2 tyX2 tyX2_ok nmX2 hown hK hP hD hS 0 rfl rfl 4 (by decide) (hts (.fieldLink RX2 21 "Granary$Orders" "reserved" "[I") (by decide +kernel)) (fun _ h9 => h9) rfl hin rfl (by decide +kernel) rfl rfl (Nat.le_of_ble_eq_true rfl) dX2_init_33 (fun H locs hP hD hS => ?_)
  replace hP : va_P D vwCl [(h, .inr (2, [.int 0, .ref q_1, .ref q_2, .ref q_3, .ref q_4, .null, .null, .null, .null, .null, .null])), (q_1, .inl (cI, 60, .inl (fun _ => 0))), (q_2, .inl (cI, 60, .inl (fun _ => 0))), (q_3, .inl (cI, 60, .inl (fun _ => 0))), (q_4, .inl (cI, 60, .inl (fun _ => 0)))] H := hP
  replace hD : va_D A [(h, .inr (2, [.int 0, .ref q_1, .ref q_2, .ref q_3, .ref q_4, .null, .null, .null, .null, .null, .null])), (q_1, .inl (cI, 60, .inl (fun _ => 0))), (q_2, .inl (cI, 60, .inl (fun _ => 0))), (q_3, .inl (cI, 60, .inl (fun _ => 0))), (q_4, .inl (cI, 60, .inl (fun _ => 0)))] := hD
  refine lv_aload_n hx hb dX2_init_36 rfl (lv_at hl 0 rfl) ?_
  refine lv_bipush (v := 60) hx hb dX2_init_37 (by decide) ?_
  refine na_i (N' := 60) hx hb (hts (.arrayClass .int) (by decide +kernel)) hK hP hD hS hA (by decide) (by decide) (Nat.le_of_ble_eq_true rfl) (Nat.le_of_ble_eq_true rfl) (Nat.le_of_ble_eq_true rfl) dX2_init_39 (fun q_5 H hP hD hS => ?_)
  replace hP : va_P D vwCl [(h, .inr (2, [.int 0, .ref q_1, .ref q_2, .ref q_3, .ref q_4, .null, .null, .null, .null, .null, .null])), (q_1, .inl (cI, 60, .inl (fun _ => 0))), (q_2, .inl (cI, 60, .inl (fun _ => 0))), (q_3, .inl (cI, 60, .inl (fun _ => 0))), (q_4, .inl (cI, 60, .inl (fun _ => 0))), (q_5, .inl (cI, 60, .inl (fun _ => 0)))] H := hP
  replace hD : va_D A [(h, .inr (2, [.int 0, .ref q_1, .ref q_2, .ref q_3, .ref q_4, .null, .null, .null, .null, .null, .null])), (q_1, .inl (cI, 60, .inl (fun _ => 0))), (q_2, .inl (cI, 60, .inl (fun _ => 0))), (q_3, .inl (cI, 60, .inl (fun _ => 0))), (q_4, .inl (cI, 60, .inl (fun _ => 0))), (q_5, .inl (cI, 60, .inl (fun _ => 0)))] := hD
  refine W.widen (k := 5) (n := 300) (by omega) (by omega) ?_
  refine va_putF (D := D) (ci := 2) (v := .ref q_5) (ty := .array .int) (C := RX2) (T := TX2) (N := 11) hx hb hts in2 tyX2 tyX2_ok nmX2 hown hK hP hD hS 0 rfl rfl 5 (by decide) (hts (.fieldLink RX2 24 "Granary$Orders" "due" "[I") (by decide +kernel)) (fun _ h9 => h9) rfl hin rfl (by decide +kernel) rfl rfl (Nat.le_of_ble_eq_true rfl) dX2_init_41 (fun H locs hP hD hS => ?_)
  replace hP : va_P D vwCl [(h, .inr (2, [.int 0, .ref q_1, .ref q_2, .ref q_3, .ref q_4, .ref q_5, .null, .null, .null, .null, .null])), (q_1, .inl (cI, 60, .inl (fun _ => 0))), (q_2, .inl (cI, 60, .inl (fun _ => 0))), (q_3, .inl (cI, 60, .inl (fun _ => 0))), (q_4, .inl (cI, 60, .inl (fun _ => 0))), (q_5, .inl (cI, 60, .inl (fun _ => 0)))] H := hP
  replace hD : va_D A [(h, .inr (2, [.int 0, .ref q_1, .ref q_2, .ref q_3, .ref q_4, .ref q_5, .null, .null, .null, .null, .null])), (q_1, .inl (cI, 60, .inl (fun _ => 0))), (q_2, .inl (cI, 60, .inl (fun _ => 0))), (q_3, .inl (cI, 60, .inl (fun _ => 0))), (q_4, .inl (cI, 60, .inl (fun _ => 0))), (q_5, .inl (cI, 60, .inl (fun _ => 0)))] := hD
  refine lv_aload_n hx hb dX2_init_44 rfl (lv_at hl 0 rfl) ?_
  refine lv_bipush (v := 60) hx hb dX2_init_45 (by decide) ?_
  refine na_i (N' := 60) hx hb (hts (.arrayClass .int) (by decide +kernel)) hK hP hD hS hA (by decide) (by decide) (Nat.le_of_ble_eq_true rfl) (Nat.le_of_ble_eq_true rfl) (Nat.le_of_ble_eq_true rfl) dX2_init_47 (fun q_6 H hP hD hS => ?_)
  replace hP : va_P D vwCl [(h, .inr (2, [.int 0, .ref q_1, .ref q_2, .ref q_3, .ref q_4, .ref q_5, .null, .null, .null, .null, .null])), (q_1, .inl (cI, 60, .inl (fun _ => 0))), (q_2, .inl (cI, 60, .inl (fun _ => 0))), (q_3, .inl (cI, 60, .inl (fun _ => 0))), (q_4, .inl (cI, 60, .inl (fun _ => 0))), (q_5, .inl (cI, 60, .inl (fun _ => 0))), (q_6, .inl (cI, 60, .inl (fun _ => 0)))] H := hP
  replace hD : va_D A [(h, .inr (2, [.int 0, .ref q_1, .ref q_2, .ref q_3, .ref q_4, .ref q_5, .null, .null, .null, .null, .null])), (q_1, .inl (cI, 60, .inl (fun _ => 0))), (q_2, .inl (cI, 60, .inl (fun _ => 0))), (q_3, .inl (cI, 60, .inl (fun _ => 0))), (q_4, .inl (cI, 60, .inl (fun _ => 0))), (q_5, .inl (cI, 60, .inl (fun _ => 0))), (q_6, .inl (cI, 60, .inl (fun _ => 0)))] := hD
  refine W.widen (k := 6) (n := 360) (by omega) (by omega) ?_
  refine va_putF (D := D) (ci := 2) (v := .ref q_6) (ty := .array .int) (C := RX2) (T := TX2) (N := 11) hx hb hts in2 tyX2 tyX2_ok nmX2 hown hK hP hD hS 0 rfl rfl 6 (by decide) (hts (.fieldLink RX2 27 "Granary$Orders" "rank" "[I") (by decide +kernel)) (fun _ h9 => h9) rfl hin rfl (by decide +kernel) rfl rfl (Nat.le_of_ble_eq_true rfl) dX2_init_49 (fun H locs hP hD hS => ?_)
  replace hP : va_P D vwCl [(h, .inr (2, [.int 0, .ref q_1, .ref q_2, .ref q_3, .ref q_4, .ref q_5, .ref q_6, .null, .null, .null, .null])), (q_1, .inl (cI, 60, .inl (fun _ => 0))), (q_2, .inl (cI, 60, .inl (fun _ => 0))), (q_3, .inl (cI, 60, .inl (fun _ => 0))), (q_4, .inl (cI, 60, .inl (fun _ => 0))), (q_5, .inl (cI, 60, .inl (fun _ => 0))), (q_6, .inl (cI, 60, .inl (fun _ => 0)))] H := hP
  replace hD : va_D A [(h, .inr (2, [.int 0, .ref q_1, .ref q_2, .ref q_3, .ref q_4, .ref q_5, .ref q_6, .null, .null, .null, .null])), (q_1, .inl (cI, 60, .inl (fun _ => 0))), (q_2, .inl (cI, 60, .inl (fun _ => 0))), (q_3, .inl (cI, 60, .inl (fun _ => 0))), (q_4, .inl (cI, 60, .inl (fun _ => 0))), (q_5, .inl (cI, 60, .inl (fun _ => 0))), (q_6, .inl (cI, 60, .inl (fun _ => 0)))] := hD
  refine lv_aload_n hx hb dX2_init_52 rfl (lv_at hl 0 rfl) ?_
  refine lv_bipush (v := 60) hx hb dX2_init_53 (by decide) ?_
  refine na_i (N' := 60) hx hb (hts (.arrayClass .int) (by decide +kernel)) hK hP hD hS hA (by decide) (by decide) (Nat.le_of_ble_eq_true rfl) (Nat.le_of_ble_eq_true rfl) (Nat.le_of_ble_eq_true rfl) dX2_init_55 (fun q_7 H hP hD hS => ?_)
  replace hP : va_P D vwCl [(h, .inr (2, [.int 0, .ref q_1, .ref q_2, .ref q_3, .ref q_4, .ref q_5, .ref q_6, .null, .null, .null, .null])), (q_1, .inl (cI, 60, .inl (fun _ => 0))), (q_2, .inl (cI, 60, .inl (fun _ => 0))), (q_3, .inl (cI, 60, .inl (fun _ => 0))), (q_4, .inl (cI, 60, .inl (fun _ => 0))), (q_5, .inl (cI, 60, .inl (fun _ => 0))), (q_6, .inl (cI, 60, .inl (fun _ => 0))), (q_7, .inl (cI, 60, .inl (fun _ => 0)))] H := hP
  replace hD : va_D A [(h, .inr (2, [.int 0, .ref q_1, .ref q_2, .ref q_3, .ref q_4, .ref q_5, .ref q_6, .null, .null, .null, .null])), (q_1, .inl (cI, 60, .inl (fun _ => 0))), (q_2, .inl (cI, 60, .inl (fun _ => 0))), (q_3, .inl (cI, 60, .inl (fun _ => 0))), (q_4, .inl (cI, 60, .inl (fun _ => 0))), (q_5, .inl (cI, 60, .inl (fun _ => 0))), (q_6, .inl (cI, 60, .inl (fun _ => 0))), (q_7, .inl (cI, 60, .inl (fun _ => 0)))] := hD
  refine W.widen (k := 7) (n := 420) (by omega) (by omega) ?_
  refine va_putF (D := D) (ci := 2) (v := .ref q_7) (ty := .array .int) (C := RX2) (T := TX2) (N := 11) hx hb hts in2 tyX2 tyX2_ok nmX2 hown hK hP hD hS 0 rfl rfl 7 (by decide) (hts (.fieldLink RX2 30 "Granary$Orders" "keep" "[I") (by decide +kernel)) (fun _ h9 => h9) rfl hin rfl (by decide +kernel) rfl rfl (Nat.le_of_ble_eq_true rfl) dX2_init_57 (fun H locs hP hD hS => ?_)
  replace hP : va_P D vwCl [(h, .inr (2, [.int 0, .ref q_1, .ref q_2, .ref q_3, .ref q_4, .ref q_5, .ref q_6, .ref q_7, .null, .null, .null])), (q_1, .inl (cI, 60, .inl (fun _ => 0))), (q_2, .inl (cI, 60, .inl (fun _ => 0))), (q_3, .inl (cI, 60, .inl (fun _ => 0))), (q_4, .inl (cI, 60, .inl (fun _ => 0))), (q_5, .inl (cI, 60, .inl (fun _ => 0))), (q_6, .inl (cI, 60, .inl (fun _ => 0))), (q_7, .inl (cI, 60, .inl (fun _ => 0)))] H := hP
  replace hD : va_D A [(h, .inr (2, [.int 0, .ref q_1, .ref q_2, .ref q_3, .ref q_4, .ref q_5, .ref q_6, .ref q_7, .null, .null, .null])), (q_1, .inl (cI, 60, .inl (fun _ => 0))), (q_2, .inl (cI, 60, .inl (fun _ => 0))), (q_3, .inl (cI, 60, .inl (fun _ => 0))), (q_4, .inl (cI, 60, .inl (fun _ => 0))), (q_5, .inl (cI, 60, .inl (fun _ => 0))), (q_6, .inl (cI, 60, .inl (fun _ => 0))), (q_7, .inl (cI, 60, .inl (fun _ => 0)))] := hD
  refine lv_aload_n hx hb dX2_init_60 rfl (lv_at hl 0 rfl) ?_
  refine lv_bipush (v := 60) hx hb dX2_init_61 (by decide) ?_
  refine na_i (N' := 60) hx hb (hts (.arrayClass .int) (by decide +kernel)) hK hP hD hS hA (by decide) (by decide) (Nat.le_of_ble_eq_true rfl) (Nat.le_of_ble_eq_true rfl) (Nat.le_of_ble_eq_true rfl) dX2_init_63 (fun q_8 H hP hD hS => ?_)
  replace hP : va_P D vwCl [(h, .inr (2, [.int 0, .ref q_1, .ref q_2, .ref q_3, .ref q_4, .ref q_5, .ref q_6, .ref q_7, .null, .null, .null])), (q_1, .inl (cI, 60, .inl (fun _ => 0))), (q_2, .inl (cI, 60, .inl (fun _ => 0))), (q_3, .inl (cI, 60, .inl (fun _ => 0))), (q_4, .inl (cI, 60, .inl (fun _ => 0))), (q_5, .inl (cI, 60, .inl (fun _ => 0))), (q_6, .inl (cI, 60, .inl (fun _ => 0))), (q_7, .inl (cI, 60, .inl (fun _ => 0))), (q_8, .inl (cI, 60, .inl (fun _ => 0)))] H := hP
  replace hD : va_D A [(h, .inr (2, [.int 0, .ref q_1, .ref q_2, .ref q_3, .ref q_4, .ref q_5, .ref q_6, .ref q_7, .null, .null, .null])), (q_1, .inl (cI, 60, .inl (fun _ => 0))), (q_2, .inl (cI, 60, .inl (fun _ => 0))), (q_3, .inl (cI, 60, .inl (fun _ => 0))), (q_4, .inl (cI, 60, .inl (fun _ => 0))), (q_5, .inl (cI, 60, .inl (fun _ => 0))), (q_6, .inl (cI, 60, .inl (fun _ => 0))), (q_7, .inl (cI, 60, .inl (fun _ => 0))), (q_8, .inl (cI, 60, .inl (fun _ => 0)))] := hD
  refine W.widen (k := 8) (n := 480) (by omega) (by omega) ?_
  refine va_putF (D := D) (ci := 2) (v := .ref q_8) (ty := .array .int) (C := RX2) (T := TX2) (N := 11) hx hb hts in2 tyX2 tyX2_ok nmX2 hown hK hP hD hS 0 rfl rfl 8 (by decide) (hts (.fieldLink RX2 33 "Granary$Orders" "state" "[I") (by decide +kernel)) (fun _ h9 => h9) rfl hin rfl (by decide +kernel) rfl rfl (Nat.le_of_ble_eq_true rfl) dX2_init_65 (fun H locs hP hD hS => ?_)
  replace hP : va_P D vwCl [(h, .inr (2, [.int 0, .ref q_1, .ref q_2, .ref q_3, .ref q_4, .ref q_5, .ref q_6, .ref q_7, .ref q_8, .null, .null])), (q_1, .inl (cI, 60, .inl (fun _ => 0))), (q_2, .inl (cI, 60, .inl (fun _ => 0))), (q_3, .inl (cI, 60, .inl (fun _ => 0))), (q_4, .inl (cI, 60, .inl (fun _ => 0))), (q_5, .inl (cI, 60, .inl (fun _ => 0))), (q_6, .inl (cI, 60, .inl (fun _ => 0))), (q_7, .inl (cI, 60, .inl (fun _ => 0))), (q_8, .inl (cI, 60, .inl (fun _ => 0)))] H := hP
  replace hD : va_D A [(h, .inr (2, [.int 0, .ref q_1, .ref q_2, .ref q_3, .ref q_4, .ref q_5, .ref q_6, .ref q_7, .ref q_8, .null, .null])), (q_1, .inl (cI, 60, .inl (fun _ => 0))), (q_2, .inl (cI, 60, .inl (fun _ => 0))), (q_3, .inl (cI, 60, .inl (fun _ => 0))), (q_4, .inl (cI, 60, .inl (fun _ => 0))), (q_5, .inl (cI, 60, .inl (fun _ => 0))), (q_6, .inl (cI, 60, .inl (fun _ => 0))), (q_7, .inl (cI, 60, .inl (fun _ => 0))), (q_8, .inl (cI, 60, .inl (fun _ => 0)))] := hD
  refine lv_aload_n hx hb dX2_init_68 rfl (lv_at hl 0 rfl) ?_
  refine lv_bipush (v := 60) hx hb dX2_init_69 (by decide) ?_
  refine na_i (N' := 60) hx hb (hts (.arrayClass .int) (by decide +kernel)) hK hP hD hS hA (by decide) (by decide) (Nat.le_of_ble_eq_true rfl) (Nat.le_of_ble_eq_true rfl) (Nat.le_of_ble_eq_true rfl) dX2_init_71 (fun q_9 H hP hD hS => ?_)
  replace hP : va_P D vwCl [(h, .inr (2, [.int 0, .ref q_1, .ref q_2, .ref q_3, .ref q_4, .ref q_5, .ref q_6, .ref q_7, .ref q_8, .null, .null])), (q_1, .inl (cI, 60, .inl (fun _ => 0))), (q_2, .inl (cI, 60, .inl (fun _ => 0))), (q_3, .inl (cI, 60, .inl (fun _ => 0))), (q_4, .inl (cI, 60, .inl (fun _ => 0))), (q_5, .inl (cI, 60, .inl (fun _ => 0))), (q_6, .inl (cI, 60, .inl (fun _ => 0))), (q_7, .inl (cI, 60, .inl (fun _ => 0))), (q_8, .inl (cI, 60, .inl (fun _ => 0))), (q_9, .inl (cI, 60, .inl (fun _ => 0)))] H := hP
  replace hD : va_D A [(h, .inr (2, [.int 0, .ref q_1, .ref q_2, .ref q_3, .ref q_4, .ref q_5, .ref q_6, .ref q_7, .ref q_8, .null, .null])), (q_1, .inl (cI, 60, .inl (fun _ => 0))), (q_2, .inl (cI, 60, .inl (fun _ => 0))), (q_3, .inl (cI, 60, .inl (fun _ => 0))), (q_4, .inl (cI, 60, .inl (fun _ => 0))), (q_5, .inl (cI, 60, .inl (fun _ => 0))), (q_6, .inl (cI, 60, .inl (fun _ => 0))), (q_7, .inl (cI, 60, .inl (fun _ => 0))), (q_8, .inl (cI, 60, .inl (fun _ => 0))), (q_9, .inl (cI, 60, .inl (fun _ => 0)))] := hD
  refine W.widen (k := 9) (n := 540) (by omega) (by omega) ?_
  refine va_putF (D := D) (ci := 2) (v := .ref q_9) (ty := .array .int) (C := RX2) (T := TX2) (N := 11) hx hb hts in2 tyX2 tyX2_ok nmX2 hown hK hP hD hS 0 rfl rfl 9 (by decide) (hts (.fieldLink RX2 36 "Granary$Orders" "shipDay" "[I") (by decide +kernel)) (fun _ h9 => h9) rfl hin rfl (by decide +kernel) rfl rfl (Nat.le_of_ble_eq_true rfl) dX2_init_73 (fun H locs hP hD hS => ?_)
  replace hP : va_P D vwCl [(h, .inr (2, [.int 0, .ref q_1, .ref q_2, .ref q_3, .ref q_4, .ref q_5, .ref q_6, .ref q_7, .ref q_8, .ref q_9, .null])), (q_1, .inl (cI, 60, .inl (fun _ => 0))), (q_2, .inl (cI, 60, .inl (fun _ => 0))), (q_3, .inl (cI, 60, .inl (fun _ => 0))), (q_4, .inl (cI, 60, .inl (fun _ => 0))), (q_5, .inl (cI, 60, .inl (fun _ => 0))), (q_6, .inl (cI, 60, .inl (fun _ => 0))), (q_7, .inl (cI, 60, .inl (fun _ => 0))), (q_8, .inl (cI, 60, .inl (fun _ => 0))), (q_9, .inl (cI, 60, .inl (fun _ => 0)))] H := hP
  replace hD : va_D A [(h, .inr (2, [.int 0, .ref q_1, .ref q_2, .ref q_3, .ref q_4, .ref q_5, .ref q_6, .ref q_7, .ref q_8, .ref q_9, .null])), (q_1, .inl (cI, 60, .inl (fun _ => 0))), (q_2, .inl (cI, 60, .inl (fun _ => 0))), (q_3, .inl (cI, 60, .inl (fun _ => 0))), (q_4, .inl (cI, 60, .inl (fun _ => 0))), (q_5, .inl (cI, 60, .inl (fun _ => 0))), (q_6, .inl (cI, 60, .inl (fun _ => 0))), (q_7, .inl (cI, 60, .inl (fun _ => 0))), (q_8, .inl (cI, 60, .inl (fun _ => 0))), (q_9, .inl (cI, 60, .inl (fun _ => 0)))] := hD
  refine lv_aload_n hx hb dX2_init_76 rfl (lv_at hl 0 rfl) ?_
  refine lv_sipush (v := 12000) hx hb dX2_init_77 (by decide) ?_
  refine na_i (N' := 12000) hx hb (hts (.arrayClass .int) (by decide +kernel)) hK hP hD hS hA (by decide) (by decide) (Nat.le_of_ble_eq_true rfl) (Nat.le_of_ble_eq_true rfl) (Nat.le_of_ble_eq_true rfl) dX2_init_80 (fun q_10 H hP hD hS => ?_)
  replace hP : va_P D vwCl [(h, .inr (2, [.int 0, .ref q_1, .ref q_2, .ref q_3, .ref q_4, .ref q_5, .ref q_6, .ref q_7, .ref q_8, .ref q_9, .null])), (q_1, .inl (cI, 60, .inl (fun _ => 0))), (q_2, .inl (cI, 60, .inl (fun _ => 0))), (q_3, .inl (cI, 60, .inl (fun _ => 0))), (q_4, .inl (cI, 60, .inl (fun _ => 0))), (q_5, .inl (cI, 60, .inl (fun _ => 0))), (q_6, .inl (cI, 60, .inl (fun _ => 0))), (q_7, .inl (cI, 60, .inl (fun _ => 0))), (q_8, .inl (cI, 60, .inl (fun _ => 0))), (q_9, .inl (cI, 60, .inl (fun _ => 0))), (q_10, .inl (cI, 12000, .inl (fun _ => 0)))] H := hP
  replace hD : va_D A [(h, .inr (2, [.int 0, .ref q_1, .ref q_2, .ref q_3, .ref q_4, .ref q_5, .ref q_6, .ref q_7, .ref q_8, .ref q_9, .null])), (q_1, .inl (cI, 60, .inl (fun _ => 0))), (q_2, .inl (cI, 60, .inl (fun _ => 0))), (q_3, .inl (cI, 60, .inl (fun _ => 0))), (q_4, .inl (cI, 60, .inl (fun _ => 0))), (q_5, .inl (cI, 60, .inl (fun _ => 0))), (q_6, .inl (cI, 60, .inl (fun _ => 0))), (q_7, .inl (cI, 60, .inl (fun _ => 0))), (q_8, .inl (cI, 60, .inl (fun _ => 0))), (q_9, .inl (cI, 60, .inl (fun _ => 0))), (q_10, .inl (cI, 12000, .inl (fun _ => 0)))] := hD
  refine W.widen (k := 10) (n := 12540) (by omega) (by omega) ?_
  refine va_putF (D := D) (ci := 2) (v := .ref q_10) (ty := .array .int) (C := RX2) (T := TX2) (N := 11) hx hb hts in2 tyX2 tyX2_ok nmX2 hown hK hP hD hS 0 rfl rfl 10 (by decide) (hts (.fieldLink RX2 39 "Granary$Orders" "held" "[I") (by decide +kernel)) (fun _ h9 => h9) rfl hin rfl (by decide +kernel) rfl rfl (Nat.le_of_ble_eq_true rfl) dX2_init_82 (fun H locs hP hD hS => ?_)
  replace hP : va_P D vwCl [(h, .inr (2, [.int 0, .ref q_1, .ref q_2, .ref q_3, .ref q_4, .ref q_5, .ref q_6, .ref q_7, .ref q_8, .ref q_9, .ref q_10])), (q_1, .inl (cI, 60, .inl (fun _ => 0))), (q_2, .inl (cI, 60, .inl (fun _ => 0))), (q_3, .inl (cI, 60, .inl (fun _ => 0))), (q_4, .inl (cI, 60, .inl (fun _ => 0))), (q_5, .inl (cI, 60, .inl (fun _ => 0))), (q_6, .inl (cI, 60, .inl (fun _ => 0))), (q_7, .inl (cI, 60, .inl (fun _ => 0))), (q_8, .inl (cI, 60, .inl (fun _ => 0))), (q_9, .inl (cI, 60, .inl (fun _ => 0))), (q_10, .inl (cI, 12000, .inl (fun _ => 0)))] H := hP
  replace hD : va_D A [(h, .inr (2, [.int 0, .ref q_1, .ref q_2, .ref q_3, .ref q_4, .ref q_5, .ref q_6, .ref q_7, .ref q_8, .ref q_9, .ref q_10])), (q_1, .inl (cI, 60, .inl (fun _ => 0))), (q_2, .inl (cI, 60, .inl (fun _ => 0))), (q_3, .inl (cI, 60, .inl (fun _ => 0))), (q_4, .inl (cI, 60, .inl (fun _ => 0))), (q_5, .inl (cI, 60, .inl (fun _ => 0))), (q_6, .inl (cI, 60, .inl (fun _ => 0))), (q_7, .inl (cI, 60, .inl (fun _ => 0))), (q_8, .inl (cI, 60, .inl (fun _ => 0))), (q_9, .inl (cI, 60, .inl (fun _ => 0))), (q_10, .inl (cI, 12000, .inl (fun _ => 0)))] := hD
  refine W.widen (k := 10) (n := 12540) (by omega) (by omega) ?_
  have hP9 := hP.sub (ws' := [(h, .inr (2, [.int 0, .ref q_1, .ref q_2, .ref q_3, .ref q_4, .ref q_5, .ref q_6, .ref q_7, .ref q_8, .ref q_9, .ref q_10])), (q_1, .inl (cI, 60, .inl (fun _ => 0))), (q_2, .inl (cI, 60, .inl (fun _ => 0))), (q_3, .inl (cI, 60, .inl (fun _ => 0))), (q_4, .inl (cI, 60, .inl (fun _ => 0))), (q_5, .inl (cI, 60, .inl (fun _ => 0))), (q_6, .inl (cI, 60, .inl (fun _ => 0))), (q_7, .inl (cI, 60, .inl (fun _ => 0))), (q_8, .inl (cI, 60, .inl (fun _ => 0))), (q_9, .inl (cI, 60, .inl (fun _ => 0))), (q_10, .inl (cI, 12000, .inl (fun _ => 0)))]) [0, 1, 2, 3, 4, 5, 6, 7, 8, 9, 10] rfl
  have hD9 := hD.sub (ws' := [(h, .inr (2, [.int 0, .ref q_1, .ref q_2, .ref q_3, .ref q_4, .ref q_5, .ref q_6, .ref q_7, .ref q_8, .ref q_9, .ref q_10])), (q_1, .inl (cI, 60, .inl (fun _ => 0))), (q_2, .inl (cI, 60, .inl (fun _ => 0))), (q_3, .inl (cI, 60, .inl (fun _ => 0))), (q_4, .inl (cI, 60, .inl (fun _ => 0))), (q_5, .inl (cI, 60, .inl (fun _ => 0))), (q_6, .inl (cI, 60, .inl (fun _ => 0))), (q_7, .inl (cI, 60, .inl (fun _ => 0))), (q_8, .inl (cI, 60, .inl (fun _ => 0))), (q_9, .inl (cI, 60, .inl (fun _ => 0))), (q_10, .inl (cI, 12000, .inl (fun _ => 0)))]) [0, 1, 2, 3, 4, 5, 6, 7, 8, 9, 10] (by decide) rfl
  exact W.vret hx hb hr (fun t ht hW => ⟨⟨(), rfl, trivial, q_1, q_2, q_3, q_4, q_5, q_6, q_7, q_8, q_9, q_10, by rw [ht]; exact hP9, hD9⟩, hS.F ht⟩) hS.2.2 dX2_init_85

set_option maxHeartbeats 4000000 in
set_option maxRecDepth 100000 in
/-- a constructor -/
theorem c_X7_init (l : Launch) (D : va_G) (cI cZ cJ : ClassId) (lo sz : Nat) (h : Nat) : Met l yX7_init wsX7_init ({ frames := 1, cells := 6, slots := 540, locals := 12 }) (Pre lo D cI cZ cJ [.ref h] sz [(h, .inr (7, [.int 0, .null, .null, .null, .null, .null, .null]))]) (va_Qv (fun _ : Unit => True) (fun _ t => ∃ (q1 : Nat) (q2 : Nat) (q3 : Nat) (q4 : Nat) (q5 : Nat) (q6 : Nat), va_P D vwCl [(h, .inr (7, [.int 0, .ref q1, .ref q2, .ref q3, .ref q4, .ref q5, .ref q6])), (q1, .inl (cI, 90, .inl (fun _ => 0))), (q2, .inl (cI, 90, .inl (fun _ => 0))), (q3, .inl (cI, 90, .inl (fun _ => 0))), (q4, .inl (cI, 90, .inl (fun _ => 0))), (q5, .inl (cI, 90, .inl (fun _ => 0))), (q6, .inl (cI, 90, .inl (fun _ => 0)))] t.heap ∧ va_D (va_A [(h, .inr (7, [.int 0, .null, .null, .null, .null, .null, .null]))] sz) [(h, .inr (7, [.int 0, .ref q1, .ref q2, .ref q3, .ref q4, .ref q5, .ref q6])), (q1, .inl (cI, 90, .inl (fun _ => 0))), (q2, .inl (cI, 90, .inl (fun _ => 0))), (q3, .inl (cI, 90, .inl (fun _ => 0))), (q4, .inl (cI, 90, .inl (fun _ => 0))), (q5, .inl (cI, 90, .inl (fun _ => 0))), (q6, .inl (cI, 90, .inl (fun _ => 0)))]) (va_A [(h, .inr (7, [.int 0, .null, .null, .null, .null, .null, .null]))] sz)) 6 540 (va_A [(h, .inr (7, [.int 0, .null, .null, .null, .null, .null, .null]))] sz) := by
  refine Met.ofW (cc := cX7_init) (maxL := 1) (ret := none) (by decide) rfl ?_
  intro p e s m args below meth c s₁ B hml hv
  obtain ⟨rfl, hsz, hP, hD0, hC⟩ := hv
  have hx := B.exec
  have hb := B.bytes
  have hr := B.returns
  have hts := atoms_spec (ws := wsX7_init) B.pre
  have hown : s.vm.findClass RX7 = some m.cls := findClass_of_methodNamed B.named
  have hlocks := B.notSynchronized
  have hin : meth.name = "<init>" := (name_of_methodNamed B.named B.method).1
  subst hsz
  have hK := hC.K
  have hD := hD0.self (sz := s.heap.size)
  have hAlo0 := va_A_lo hD0 hC.1
  generalize hAe : va_A [(h, .inr (7, [.int 0, .null, .null, .null, .null, .null, .null]))] s.heap.size = A at hD hAlo0 ⊢
  have hA : ∀ q : Nat, s.heap.size ≤ q → A q := fun q h => by rw [← hAe]; exact Or.inr h
  have hAlo : ∀ q, A q → lo ≤ q := hAlo0
  have hS : va_S A s.heap s.heap [] := va_S.rf
  have hP : va_P D vwCl [(h, .inr (7, [.int 0, .null, .null, .null, .null, .null, .null]))] s.heap := hP
  have hl := lv_entry ([.ref h]) (n := 1) (Nat.le_of_ble_eq_true rfl)
  rw [lg_entry_eq]
  generalize (lg_sl ([.ref h]) ++ List.replicate (1 - (lg_sl ([.ref h])).length) Slot.unset).toArray = ls at hl ⊢
  have hl : lv_has ls 1 [(0, .ref h)] := hl
  have in7 : ∀ w ∈ u_ws RX7 TX7 7, w ∈ wsX7_init := by decide +kernel
  refine lv_aload_n hx hb dX7_init_0 rfl (lv_at hl 0 rfl) ?_
  refine W.objInit hx hb hown (hts (.methodLink RX7 3 objectInit) (by decide +kernel)) (hts (.instanceMethod objectInit) (by decide +kernel)) (hts _ (by decide +kernel)) rfl (by rw [hml]; exact hl.1) rfl dX7_init_1 (Nat.le_of_ble_eq_true rfl) (Nat.le_of_ble_eq_true rfl) ?_
  refine W.eq (g2 := F0 m 4 ls []) rfl ?_
  refine lv_aload_n hx hb dX7_init_4 rfl (lv_at hl 0 rfl) ?_
  refine lv_bipush (v := 90) hx hb dX7_init_5 (by decide) ?_
  refine na_i (N' := 90) hx hb (hts (.arrayClass .int) (by decide +kernel)) hK hP hD hS hA (by decide) (by decide) (Nat.le_of_ble_eq_true rfl) (Nat.le_of_ble_eq_true rfl) (Nat.le_of_ble_eq_true rfl) dX7_init_7 (fun q_1 H hP hD hS => ?_)
  replace hP : va_P D vwCl [(h, .inr (7, [.int 0, .null, .null, .null, .null, .null, .null])), (q_1, .inl (cI, 90, .inl (fun _ => 0)))] H := hP
  replace hD : va_D A [(h, .inr (7, [.int 0, .null, .null, .null, .null, .null, .null])), (q_1, .inl (cI, 90, .inl (fun _ => 0)))] := hD
  refine W.widen (k := 1) (n := 90) (by omega) (by omega) ?_
  refine va_putF (D := D) (ci := 7) (v := .ref q_1) (ty := .array .int) (C := RX7) (T := TX7) (N := 7) hx hb hts in7 tyX7 tyX7_ok nmX7 hown hK hP hD hS 0 rfl rfl 1 (by decide) (hts (.fieldLink RX7 9 "Granary$Transports" "item" "[I") (by decide +kernel)) (fun _ h9 => h9) rfl hin rfl (by decide +kernel) rfl rfl (Nat.le_of_ble_eq_true rfl) dX7_init_9 (fun H locs hP hD hS => ?_)
  replace hP : va_P D vwCl [(h, .inr (7, [.int 0, .ref q_1, .null, .null, .null, .null, .null])), (q_1, .inl (cI, 90, .inl (fun _ => 0)))] H := hP
  replace hD : va_D A [(h, .inr (7, [.int 0, .ref q_1, .null, .null, .null, .null, .null])), (q_1, .inl (cI, 90, .inl (fun _ => 0)))] := hD
  refine lv_aload_n hx hb dX7_init_12 rfl (lv_at hl 0 rfl) ?_
  refine lv_bipush (v := 90) hx hb dX7_init_13 (by decide) ?_
  refine na_i (N' := 90) hx hb (hts (.arrayClass .int) (by decide +kernel)) hK hP hD hS hA (by decide) (by decide) (Nat.le_of_ble_eq_true rfl) (Nat.le_of_ble_eq_true rfl) (Nat.le_of_ble_eq_true rfl) dX7_init_15 (fun q_2 H hP hD hS => ?_)
  replace hP : va_P D vwCl [(h, .inr (7, [.int 0, .ref q_1, .null, .null, .null, .null, .null])), (q_1, .inl (cI, 90, .inl (fun _ => 0))), (q_2, .inl (cI, 90, .inl (fun _ => 0)))] H := hP
  replace hD : va_D A [(h, .inr (7, [.int 0, .ref q_1, .null, .null, .null, .null, .null])), (q_1, .inl (cI, 90, .inl (fun _ => 0))), (q_2, .inl (cI, 90, .inl (fun _ => 0)))] := hD
  refine W.widen (k := 2) (n := 180) (by omega) (by omega) ?_
  refine va_putF (D := D) (ci := 7) (v := .ref q_2) (ty := .array .int) (C := RX7) (T := TX7) (N := 7) hx hb hts in7 tyX7 tyX7_ok nmX7 hown hK hP hD hS 0 rfl rfl 2 (by decide) (hts (.fieldLink RX7 15 "Granary$Transports" "site" "[I") (by decide +kernel)) (fun _ h9 => h9) rfl hin rfl (by decide +kernel) rfl rfl (Nat.le_of_ble_eq_true rfl) dX7_init_17 (fun H locs hP hD hS => ?_)
  replace hP : va_P D vwCl [(h, .inr (7, [.int 0, .ref q_1, .ref q_2, .null, .null, .null, .null])), (q_1, .inl (cI, 90, .inl (fun _ => 0))), (q_2, .inl (cI, 90, .inl (fun _ => 0)))] H := hP
  replace hD : va_D A [(h, .inr (7, [.int 0, .ref q_1, .ref q_2, .null, .null, .null, .null])), (q_1, .inl (cI, 90, .inl (fun _ => 0))), (q_2, .inl (cI, 90, .inl (fun _ => 0)))] := hD
  refine lv_aload_n hx hb dX7_init_20 rfl (lv_at hl 0 rfl) ?_
  refine lv_bipush (v := 90) hx hb dX7_init_21 (by decide) ?_
  refine na_i (N' := 90) hx hb (hts (.arrayClass .int) (by decide +kernel)) hK hP hD hS hA (by decide) (by decide) (Nat.le_of_ble_eq_true rfl) (Nat.le_of_ble_eq_true rfl) (Nat.le_of_ble_eq_true rfl) dX7_init_23 (fun q_3 H hP hD hS => ?_)
  replace hP : va_P D vwCl [(h, .inr (7, [.int 0, .ref q_1, .ref q_2, .null, .null, .null, .null])), (q_1, .inl (cI, 90, .inl (fun _ => 0))), (q_2, .inl (cI, 90, .inl (fun _ => 0))), (q_3, .inl (cI, 90, .inl (fun _ => 0)))] H := hP
  replace hD : va_D A [(h, .inr (7, [.int 0, .ref q_1, .ref q_2, .null, .null, .null, .null])), (q_1, .inl (cI, 90, .inl (fun _ => 0))), (q_2, .inl (cI, 90, .inl (fun _ => 0))), (q_3, .inl (cI, 90, .inl (fun _ => 0)))] := hD
  refine W.widen (k := 3) (n := 270) (by omega) (by omega) ?_
  refine va_putF (D := D) (ci := 7) (v := .ref q_3) (ty := .array .int) (C := RX7) (T := TX7) (N := 7) hx hb hts in7 tyX7 tyX7_ok nmX7 hown hK hP hD hS 0 rfl rfl 3 (by decide) (hts (.fieldLink RX7 18 "Granary$Transports" "units" "[I") (by decide +kernel)) (fun _ h9 => h9) rfl hin rfl (by decide +kernel) rfl rfl (Nat.le_of_ble_eq_true rfl) dX7_init_25 (fun H locs hP hD hS => ?_)
  replace hP : va_P D vwCl [(h, .inr (7, [.int 0, .ref q_1, .ref q_2, .ref q_3, .null, .null, .null])), (q_1, .inl (cI, 90, .inl (fun _ => 0))), (q_2, .inl (cI, 90, .inl (fun _ => 0))), (q_3, .inl (cI, 90, .inl (fun _ => 0)))] H := hP
  replace hD : va_D A [(h, .inr (7, [.int 0, .ref q_1, .ref q_2, .ref q_3, .null, .null, .null])), (q_1, .inl (cI, 90, .inl (fun _ => 0))), (q_2, .inl (cI, 90, .inl (fun _ => 0))), (q_3, .inl (cI, 90, .inl (fun _ => 0)))] := hD
  refine lv_aload_n hx hb dX7_init_28 rfl (lv_at hl 0 rfl) ?_
  refine lv_bipush (v := 90) hx hb dX7_init_29 (by decide) ?_
  refine na_i (N' := 90) hx hb (hts (.arrayClass .int) (by decide +kernel)) hK hP hD hS hA (by decide) (by decide) (Nat.le_of_ble_eq_true rfl) (Nat.le_of_ble_eq_true rfl) (Nat.le_of_ble_eq_true rfl) dX7_init_31 (fun q_4 H hP hD hS => ?_)
  replace hP : va_P D vwCl [(h, .inr (7, [.int 0, .ref q_1, .ref q_2, .ref q_3, .null, .null, .null])), (q_1, .inl (cI, 90, .inl (fun _ => 0))), (q_2, .inl (cI, 90, .inl (fun _ => 0))), (q_3, .inl (cI, 90, .inl (fun _ => 0))), (q_4, .inl (cI, 90, .inl (fun _ => 0)))] H := hP
  replace hD : va_D A [(h, .inr (7, [.int 0, .ref q_1, .ref q_2, .ref q_3, .null, .null, .null])), (q_1, .inl (cI, 90, .inl (fun _ => 0))), (q_2, .inl (cI, 90, .inl (fun _ => 0))), (q_3, .inl (cI, 90, .inl (fun _ => 0))), (q_4, .inl (cI, 90, .inl (fun _ => 0)))] := hD
  refine W.widen (k := 4) (n := 360) (by omega) (by omega) ?_
  refine va_putF (D := D) (ci := 7) (v := .ref q_4) (ty := .array .int) (C := RX7) (T := TX7) (N := 7) hx hb hts in7 tyX7 tyX7_ok nmX7 hown hK hP hD hS 0 rfl rfl 4 (by decide) (hts (.fieldLink RX7 21 "Granary$Transports" "arrival" "[I") (by decide +kernel)) (fun _ h9 => h9) rfl hin rfl (by decide +kernel) rfl rfl (Nat.le_of_ble_eq_true rfl) dX7_init_33 (fun H locs hP hD hS => ?_)
  replace hP : va_P D vwCl [(h, .inr (7, [.int 0, .ref q_1, .ref q_2, .ref q_3, .ref q_4, .null, .null])), (q_1, .inl (cI, 90, .inl (fun _ => 0))), (q_2, .inl (cI, 90, .inl (fun _ => 0))), (q_3, .inl (cI, 90, .inl (fun _ => 0))), (q_4, .inl (cI, 90, .inl (fun _ => 0)))] H := hP
  replace hD : va_D A [(h, .inr (7, [.int 0, .ref q_1, .ref q_2, .ref q_3, .ref q_4, .null, .null])), (q_1, .inl (cI, 90, .inl (fun _ => 0))), (q_2, .inl (cI, 90, .inl (fun _ => 0))), (q_3, .inl (cI, 90, .inl (fun _ => 0))), (q_4, .inl (cI, 90, .inl (fun _ => 0)))] := hD
  refine lv_aload_n hx hb dX7_init_36 rfl (lv_at hl 0 rfl) ?_
  refine lv_bipush (v := 90) hx hb dX7_init_37 (by decide) ?_
  refine na_i (N' := 90) hx hb (hts (.arrayClass .int) (by decide +kernel)) hK hP hD hS hA (by decide) (by decide) (Nat.le_of_ble_eq_true rfl) (Nat.le_of_ble_eq_true rfl) (Nat.le_of_ble_eq_true rfl) dX7_init_39 (fun q_5 H hP hD hS => ?_)
  replace hP : va_P D vwCl [(h, .inr (7, [.int 0, .ref q_1, .ref q_2, .ref q_3, .ref q_4, .null, .null])), (q_1, .inl (cI, 90, .inl (fun _ => 0))), (q_2, .inl (cI, 90, .inl (fun _ => 0))), (q_3, .inl (cI, 90, .inl (fun _ => 0))), (q_4, .inl (cI, 90, .inl (fun _ => 0))), (q_5, .inl (cI, 90, .inl (fun _ => 0)))] H := hP
  replace hD : va_D A [(h, .inr (7, [.int 0, .ref q_1, .ref q_2, .ref q_3, .ref q_4, .null, .null])), (q_1, .inl (cI, 90, .inl (fun _ => 0))), (q_2, .inl (cI, 90, .inl (fun _ => 0))), (q_3, .inl (cI, 90, .inl (fun _ => 0))), (q_4, .inl (cI, 90, .inl (fun _ => 0))), (q_5, .inl (cI, 90, .inl (fun _ => 0)))] := hD
  refine W.widen (k := 5) (n := 450) (by omega) (by omega) ?_
  refine va_putF (D := D) (ci := 7) (v := .ref q_5) (ty := .array .int) (C := RX7) (T := TX7) (N := 7) hx hb hts in7 tyX7 tyX7_ok nmX7 hown hK hP hD hS 0 rfl rfl 5 (by decide) (hts (.fieldLink RX7 24 "Granary$Transports" "last" "[I") (by decide +kernel)) (fun _ h9 => h9) rfl hin rfl (by decide +kernel) rfl rfl (Nat.le_of_ble_eq_true rfl) dX7_init_41 (fun H locs hP hD hS => ?_)
  replace hP : va_P D vwCl [(h, .inr (7, [.int 0, .ref q_1, .ref q_2, .ref q_3, .ref q_4, .ref q_5, .null])), (q_1, .inl (cI, 90, .inl (fun _ => 0))), (q_2, .inl (cI, 90, .inl (fun _ => 0))), (q_3, .inl (cI, 90, .inl (fun _ => 0))), (q_4, .inl (cI, 90, .inl (fun _ => 0))), (q_5, .inl (cI, 90, .inl (fun _ => 0)))] H := hP
  replace hD : va_D A [(h, .inr (7, [.int 0, .ref q_1, .ref q_2, .ref q_3, .ref q_4, .ref q_5, .null])), (q_1, .inl (cI, 90, .inl (fun _ => 0))), (q_2, .inl (cI, 90, .inl (fun _ => 0))), (q_3, .inl (cI, 90, .inl (fun _ => 0))), (q_4, .inl (cI, 90, .inl (fun _ => 0))), (q_5, .inl (cI, 90, .inl (fun _ => 0)))] := hD
  refine lv_aload_n hx hb dX7_init_44 rfl (lv_at hl 0 rfl) ?_
  refine lv_bipush (v := 90) hx hb dX7_init_45 (by decide) ?_
  refine na_i (N' := 90) hx hb (hts (.arrayClass .int) (by decide +kernel)) hK hP hD hS hA (by decide) (by decide) (Nat.le_of_ble_eq_true rfl) (Nat.le_of_ble_eq_true rfl) (Nat.le_of_ble_eq_true rfl) dX7_init_47 (fun q_6 H hP hD hS => ?_)
  replace hP : va_P D vwCl [(h, .inr (7, [.int 0, .ref q_1, .ref q_2, .ref q_3, .ref q_4, .ref q_5, .null])), (q_1, .inl (cI, 90, .inl (fun _ => 0))), (q_2, .inl (cI, 90, .inl (fun _ => 0))), (q_3, .inl (cI, 90, .inl (fun _ => 0))), (q_4, .inl (cI, 90, .inl (fun _ => 0))), (q_5, .inl (cI, 90, .inl (fun _ => 0))), (q_6, .inl (cI, 90, .inl (fun _ => 0)))] H := hP
  replace hD : va_D A [(h, .inr (7, [.int 0, .ref q_1, .ref q_2, .ref q_3, .ref q_4, .ref q_5, .null])), (q_1, .inl (cI, 90, .inl (fun _ => 0))), (q_2, .inl (cI, 90, .inl (fun _ => 0))), (q_3, .inl (cI, 90, .inl (fun _ => 0))), (q_4, .inl (cI, 90, .inl (fun _ => 0))), (q_5, .inl (cI, 90, .inl (fun _ => 0))), (q_6, .inl (cI, 90, .inl (fun _ => 0)))] := hD
  refine W.widen (k := 6) (n := 540) (by omega) (by omega) ?_
  refine va_putF (D := D) (ci := 7) (v := .ref q_6) (ty := .array .int) (C := RX7) (T := TX7) (N := 7) hx hb hts in7 tyX7 tyX7_ok nmX7 hown hK hP hD hS 0 rfl rfl 6 (by decide) (hts (.fieldLink RX7 27 "Granary$Transports" "moving" "[I") (by decide +kernel)) (fun _ h9 => h9) rfl hin rfl (by decide +kernel) rfl rfl (Nat.le_of_ble_eq_true rfl) dX7_init_49 (fun H locs hP hD hS => ?_)
  replace hP : va_P D vwCl [(h, .inr (7, [.int 0, .ref q_1, .ref q_2, .ref q_3, .ref q_4, .ref q_5, .ref q_6])), (q_1, .inl (cI, 90, .inl (fun _ => 0))), (q_2, .inl (cI, 90, .inl (fun _ => 0))), (q_3, .inl (cI, 90, .inl (fun _ => 0))), (q_4, .inl (cI, 90, .inl (fun _ => 0))), (q_5, .inl (cI, 90, .inl (fun _ => 0))), (q_6, .inl (cI, 90, .inl (fun _ => 0)))] H := hP
  replace hD : va_D A [(h, .inr (7, [.int 0, .ref q_1, .ref q_2, .ref q_3, .ref q_4, .ref q_5, .ref q_6])), (q_1, .inl (cI, 90, .inl (fun _ => 0))), (q_2, .inl (cI, 90, .inl (fun _ => 0))), (q_3, .inl (cI, 90, .inl (fun _ => 0))), (q_4, .inl (cI, 90, .inl (fun _ => 0))), (q_5, .inl (cI, 90, .inl (fun _ => 0))), (q_6, .inl (cI, 90, .inl (fun _ => 0)))] := hD
  refine W.widen (k := 6) (n := 540) (by omega) (by omega) ?_
  have hP9 := hP.sub (ws' := [(h, .inr (7, [.int 0, .ref q_1, .ref q_2, .ref q_3, .ref q_4, .ref q_5, .ref q_6])), (q_1, .inl (cI, 90, .inl (fun _ => 0))), (q_2, .inl (cI, 90, .inl (fun _ => 0))), (q_3, .inl (cI, 90, .inl (fun _ => 0))), (q_4, .inl (cI, 90, .inl (fun _ => 0))), (q_5, .inl (cI, 90, .inl (fun _ => 0))), (q_6, .inl (cI, 90, .inl (fun _ => 0)))]) [0, 1, 2, 3, 4, 5, 6] rfl
  have hD9 := hD.sub (ws' := [(h, .inr (7, [.int 0, .ref q_1, .ref q_2, .ref q_3, .ref q_4, .ref q_5, .ref q_6])), (q_1, .inl (cI, 90, .inl (fun _ => 0))), (q_2, .inl (cI, 90, .inl (fun _ => 0))), (q_3, .inl (cI, 90, .inl (fun _ => 0))), (q_4, .inl (cI, 90, .inl (fun _ => 0))), (q_5, .inl (cI, 90, .inl (fun _ => 0))), (q_6, .inl (cI, 90, .inl (fun _ => 0)))]) [0, 1, 2, 3, 4, 5, 6] (by decide) rfl
  exact W.vret hx hb hr (fun t ht hW => ⟨⟨(), rfl, trivial, q_1, q_2, q_3, q_4, q_5, q_6, by rw [ht]; exact hP9, hD9⟩, hS.F ht⟩) hS.2.2 dX7_init_52

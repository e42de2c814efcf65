set_option maxHeartbeats 4000000 in
set_option maxRecDepth 100000 in
/-- has(i), with nothing there -/
theorem c_X0_has (l : Launch) (D : va_G) (cI cZ cJ : ClassId) (lo sz : Nat) (aI : Nat) (aI1 : Nat) (aI2 : Nat) (aI3 : Nat) (aI4 : Nat) (i : Int32) : Met l yX0_has wsX0_has ({ frames := 0, cells := 0, slots := 0, locals := 0 }) (Pre lo D cI cZ cJ [.ref aI, .int i] sz [(aI, .inr (0, [.int 0, .ref aI1, .ref aI2, .ref aI3, .ref aI4]))]) (vp_Si (fun r => r = 0)) 0 0 (fun _ => False) := by
  refine Met.ofW (cc := cX0_has) (maxL := 2) (ret := (some .boolean)) (by decide) rfl ?_
  intro p e s m args below meth c s₁ B hml hv
  obtain ⟨rfl, hsz, hP, hD0, hC⟩ := hv
  have hx := B.exec
  have hb := B.bytes
  have hr := B.returns
  have hts := atoms_spec (ws := wsX0_has) B.pre
  have hown : s.vm.findClass RX0 = some m.cls := findClass_of_methodNamed B.named
  have hlocks := B.notSynchronized
  subst hsz
  have hK := hC.K
  have hD := hD0
  have hS : va_S (fun q => lo ≤ q) s.heap s.heap [] := va_S.rf
  have hAlo : ∀ q, (fun q => lo ≤ q) q → lo ≤ q := fun _ h => h
  have hL : ∀ q ∈ ([] : List Loc), (fun _ : Addr => False) q.base := fun q h => by cases h
  have hP : va_P D vwCl [(aI, .inr (0, [.int 0, .ref aI1, .ref aI2, .ref aI3, .ref aI4]))] s.heap := hP
  have hl := lv_entry ([.ref aI, .int i]) (n := 2) (Nat.le_of_ble_eq_true rfl)
  rw [lg_entry_eq]
  generalize (lg_sl ([.ref aI, .int i]) ++ List.replicate (2 - (lg_sl ([.ref aI, .int i])).length) Slot.unset).toArray = ls at hl ⊢
  have hl : lv_has ls 2 [(0, .ref aI), (1, .int i)] := hl
  have in0 : ∀ w ∈ u_ws RX0 TX0 5, w ∈ wsX0_has := by decide +kernel
  refine lv_iload_n hx hb dX0_has_0 rfl (lv_at hl 1 rfl) ?_
  refine lv_if_lt (tgt := 16) hx hb dX0_has_1 (by decide) (fun c_1 => ?_) (fun c_1 => ?_)
  · refine lv_iconst (v := 0) hx hb dX0_has_16 (by decide) ?_
    exact W.zret (ty := .boolean) (v := 0) hx hb hr (by decide) (fun t ht hW => ⟨0, rfl, rfl, ht⟩) hL dX0_has_17
  · refine lv_iload_n hx hb dX0_has_4 rfl (lv_at hl 1 rfl) ?_
    refine lv_aload_n hx hb dX0_has_5 rfl (lv_at hl 0 rfl) ?_
    refine va_get (D := D) (ci := 0) (v := .int 0) (C := RX0) (T := TX0) (N := 5) hx hb hts in0 hown hK hP 0 rfl rfl 0 (by decide) (hts (.fieldLink RX0 24 "Granary$Items" "count" "I") (by decide +kernel)) (fun _ h9 => h9) rfl dX0_has_6 ?_
    refine lv_icmp_ge (tgt := 16) hx hb dX0_has_9 (by decide) (fun _ => ?_) (fun c9 => absurd (show 0 ≤ i from (Int32.not_lt.mp c_1)) c9)
    refine lv_iconst (v := 0) hx hb dX0_has_16 (by decide) ?_
    exact W.zret (ty := .boolean) (v := 0) hx hb hr (by decide) (fun t ht hW => ⟨0, rfl, rfl, ht⟩) hL dX0_has_17

set_option maxHeartbeats 4000000 in
set_option maxRecDepth 100000 in
/-- has(i), with nothing there -/
theorem c_X1_has (l : Launch) (D : va_G) (cI cZ cJ : ClassId) (lo sz : Nat) (aL : Nat) (aL1 : Nat) (aL2 : Nat) (aL3 : Nat) (aL4 : Nat) (aL5 : Nat) (i : Int32) : Met l yX1_has wsX1_has ({ frames := 0, cells := 0, slots := 0, locals := 0 }) (Pre lo D cI cZ cJ [.ref aL, .int i] sz [(aL, .inr (1, [.int 0, .ref aL1, .ref aL2, .ref aL3, .ref aL4, .ref aL5]))]) (vp_Si (fun r => r = 0)) 0 0 (fun _ => False) := by
  refine Met.ofW (cc := cX1_has) (maxL := 2) (ret := (some .boolean)) (by decide) rfl ?_
  intro p e s m args below meth c s₁ B hml hv
  obtain ⟨rfl, hsz, hP, hD0, hC⟩ := hv
  have hx := B.exec
  have hb := B.bytes
  have hr := B.returns
  have hts := atoms_spec (ws := wsX1_has) B.pre
  have hown : s.vm.findClass RX1 = some m.cls := findClass_of_methodNamed B.named
  have hlocks := B.notSynchronized
  subst hsz
  have hK := hC.K
  have hD := hD0
  have hS : va_S (fun q => lo ≤ q) s.heap s.heap [] := va_S.rf
  have hAlo : ∀ q, (fun q => lo ≤ q) q → lo ≤ q := fun _ h => h
  have hL : ∀ q ∈ ([] : List Loc), (fun _ : Addr => False) q.base := fun q h => by cases h
  have hP : va_P D vwCl [(aL, .inr (1, [.int 0, .ref aL1, .ref aL2, .ref aL3, .ref aL4, .ref aL5]))] s.heap := hP
  have hl := lv_entry ([.ref aL, .int i]) (n := 2) (Nat.le_of_ble_eq_true rfl)
  rw [lg_entry_eq]
  generalize (lg_sl ([.ref aL, .int i]) ++ List.replicate (2 - (lg_sl ([.ref aL, .int i])).length) Slot.unset).toArray = ls at hl ⊢
  have hl : lv_has ls 2 [(0, .ref aL), (1, .int i)] := hl
  have in1 : ∀ w ∈ u_ws RX1 TX1 6, w ∈ wsX1_has := by decide +kernel
  refine lv_iload_n hx hb dX1_has_0 rfl (lv_at hl 1 rfl) ?_
  refine lv_if_lt (tgt := 16) hx hb dX1_has_1 (by decide) (fun c_1 => ?_) (fun c_1 => ?_)
  · refine lv_iconst (v := 0) hx hb dX1_has_16 (by decide) ?_
    exact W.zret (ty := .boolean) (v := 0) hx hb hr (by decide) (fun t ht hW => ⟨0, rfl, rfl, ht⟩) hL dX1_has_17
  · refine lv_iload_n hx hb dX1_has_4 rfl (lv_at hl 1 rfl) ?_
    refine lv_aload_n hx hb dX1_has_5 rfl (lv_at hl 0 rfl) ?_
    refine va_get (D := D) (ci := 1) (v := .int 0) (C := RX1) (T := TX1) (N := 6) hx hb hts in1 hown hK hP 0 rfl rfl 0 (by decide) (hts (.fieldLink RX1 27 "Granary$Lots" "count" "I") (by decide +kernel)) (fun _ h9 => h9) rfl dX1_has_6 ?_
    refine lv_icmp_ge (tgt := 16) hx hb dX1_has_9 (by decide) (fun _ => ?_) (fun c9 => absurd (show 0 ≤ i from (Int32.not_lt.mp c_1)) c9)
    refine lv_iconst (v := 0) hx hb dX1_has_16 (by decide) ?_
    exact W.zret (ty := .boolean) (v := 0) hx hb hr (by decide) (fun t ht hW => ⟨0, rfl, rfl, ht⟩) hL dX1_has_17

set_option maxHeartbeats 4000000 in
set_option maxRecDepth 100000 in
/-- has(i), with nothing there -/
theorem c_X2_has (l : Launch) (D : va_G) (cI cZ cJ : ClassId) (lo sz : Nat) (aO : Nat) (aO1 : Nat) (aO2 : Nat) (aO3 : Nat) (aO4 : Nat) (aO5 : Nat) (aO6 : Nat) (aO7 : Nat) (aO8 : Nat) (aO9 : Nat) (aO10 : Nat) (i : Int32) : Met l yX2_has wsX2_has ({ frames := 0, cells := 0, slots := 0, locals := 0 }) (Pre lo D cI cZ cJ [.ref aO, .int i] sz [(aO, .inr (2, [.int 0, .ref aO1, .ref aO2, .ref aO3, .ref aO4, .ref aO5, .ref aO6, .ref aO7, .ref aO8, .ref aO9, .ref aO10]))]) (vp_Si (fun r => r = 0)) 0 0 (fun _ => False) := by
  refine Met.ofW (cc := cX2_has) (maxL := 2) (ret := (some .boolean)) (by decide) rfl ?_
  intro p e s m args below meth c s₁ B hml hv
  obtain ⟨rfl, hsz, hP, hD0, hC⟩ := hv
  have hx := B.exec
  have hb := B.bytes
  have hr := B.returns
  have hts := atoms_spec (ws := wsX2_has) B.pre
  have hown : s.vm.findClass RX2 = some m.cls := findClass_of_methodNamed B.named
  have hlocks := B.notSynchronized
  subst hsz
  have hK := hC.K
  have hD := hD0
  have hS : va_S (fun q => lo ≤ q) s.heap s.heap [] := va_S.rf
  have hAlo : ∀ q, (fun q => lo ≤ q) q → lo ≤ q := fun _ h => h
  have hL : ∀ q ∈ ([] : List Loc), (fun _ : Addr => False) q.base := fun q h => by cases h
  have hP : va_P D vwCl [(aO, .inr (2, [.int 0, .ref aO1, .ref aO2, .ref aO3, .ref aO4, .ref aO5, .ref aO6, .ref aO7, .ref aO8, .ref aO9, .ref aO10]))] s.heap := hP
  have hl := lv_entry ([.ref aO, .int i]) (n := 2) (Nat.le_of_ble_eq_true rfl)
  rw [lg_entry_eq]
  generalize (lg_sl ([.ref aO, .int i]) ++ List.replicate (2 - (lg_sl ([.ref aO, .int i])).length) Slot.unset).toArray = ls at hl ⊢
  have hl : lv_has ls 2 [(0, .ref aO), (1, .int i)] := hl
  have in2 : ∀ w ∈ u_ws RX2 TX2 11, w ∈ wsX2_has := by decide +kernel
  refine lv_iload_n hx hb dX2_has_0 rfl (lv_at hl 1 rfl) ?_
  refine lv_if_lt (tgt := 16) hx hb dX2_has_1 (by decide) (fun c_1 => ?_) (fun c_1 => ?_)
  · refine lv_iconst (v := 0) hx hb dX2_has_16 (by decide) ?_
    exact W.zret (ty := .boolean) (v := 0) hx hb hr (by decide) (fun t ht hW => ⟨0, rfl, rfl, ht⟩) hL dX2_has_17
  · refine lv_iload_n hx hb dX2_has_4 rfl (lv_at hl 1 rfl) ?_
    refine lv_aload_n hx hb dX2_has_5 rfl (lv_at hl 0 rfl) ?_
    refine va_get (D := D) (ci := 2) (v := .int 0) (C := RX2) (T := TX2) (N := 11) hx hb hts in2 hown hK hP 0 rfl rfl 0 (by decide) (hts (.fieldLink RX2 42 "Granary$Orders" "count" "I") (by decide +kernel)) (fun _ h9 => h9) rfl dX2_has_6 ?_
    refine lv_icmp_ge (tgt := 16) hx hb dX2_has_9 (by decide) (fun _ => ?_) (fun c9 => absurd (show 0 ≤ i from (Int32.not_lt.mp c_1)) c9)
    refine lv_iconst (v := 0) hx hb dX2_has_16 (by decide) ?_
    exact W.zret (ty := .boolean) (v := 0) hx hb hr (by decide) (fun t ht hW => ⟨0, rfl, rfl, ht⟩) hL dX2_has_17

set_option maxHeartbeats 4000000 in
set_option maxRecDepth 100000 in
/-- has(i), with nothing there -/
theorem c_X5_has (l : Launch) (D : va_G) (cI cZ cJ : ClassId) (lo sz : Nat) (aS : Nat) (aS1 : Nat) (aS2 : Nat) (i : Int32) : Met l yX5_has wsX5_has ({ frames := 0, cells := 0, slots := 0, locals := 0 }) (Pre lo D cI cZ cJ [.ref aS, .int i] sz [(aS, .inr (5, [.int 0, .ref aS1, .ref aS2]))]) (vp_Si (fun r => r = 0)) 0 0 (fun _ => False) := by
  refine Met.ofW (cc := cX5_has) (maxL := 2) (ret := (some .boolean)) (by decide) rfl ?_
  intro p e s m args below meth c s₁ B hml hv
  obtain ⟨rfl, hsz, hP, hD0, hC⟩ := hv
  have hx := B.exec
  have hb := B.bytes
  have hr := B.returns
  have hts := atoms_spec (ws := wsX5_has) B.pre
  have hown : s.vm.findClass RX5 = some m.cls := findClass_of_methodNamed B.named
  have hlocks := B.notSynchronized
  subst hsz
  have hK := hC.K
  have hD := hD0
  have hS : va_S (fun q => lo ≤ q) s.heap s.heap [] := va_S.rf
  have hAlo : ∀ q, (fun q => lo ≤ q) q → lo ≤ q := fun _ h => h
  have hL : ∀ q ∈ ([] : List Loc), (fun _ : Addr => False) q.base := fun q h => by cases h
  have hP : va_P D vwCl [(aS, .inr (5, [.int 0, .ref aS1, .ref aS2]))] s.heap := hP
  have hl := lv_entry ([.ref aS, .int i]) (n := 2) (Nat.le_of_ble_eq_true rfl)
  rw [lg_entry_eq]
  generalize (lg_sl ([.ref aS, .int i]) ++ List.replicate (2 - (lg_sl ([.ref aS, .int i])).length) Slot.unset).toArray = ls at hl ⊢
  have hl : lv_has ls 2 [(0, .ref aS), (1, .int i)] := hl
  have in5 : ∀ w ∈ u_ws RX5 TX5 3, w ∈ wsX5_has := by decide +kernel
  refine lv_iload_n hx hb dX5_has_0 rfl (lv_at hl 1 rfl) ?_
  refine lv_if_lt (tgt := 16) hx hb dX5_has_1 (by decide) (fun c_1 => ?_) (fun c_1 => ?_)
  · refine lv_iconst (v := 0) hx hb dX5_has_16 (by decide) ?_
    exact W.zret (ty := .boolean) (v := 0) hx hb hr (by decide) (fun t ht hW => ⟨0, rfl, rfl, ht⟩) hL dX5_has_17
  · refine lv_iload_n hx hb dX5_has_4 rfl (lv_at hl 1 rfl) ?_
    refine lv_aload_n hx hb dX5_has_5 rfl (lv_at hl 0 rfl) ?_
    refine va_get (D := D) (ci := 5) (v := .int 0) (C := RX5) (T := TX5) (N := 3) hx hb hts in5 hown hK hP 0 rfl rfl 0 (by decide) (hts (.fieldLink RX5 18 "Granary$Sites" "count" "I") (by decide +kernel)) (fun _ h9 => h9) rfl dX5_has_6 ?_
    refine lv_icmp_ge (tgt := 16) hx hb dX5_has_9 (by decide) (fun _ => ?_) (fun c9 => absurd (show 0 ≤ i from (Int32.not_lt.mp c_1)) c9)
    refine lv_iconst (v := 0) hx hb dX5_has_16 (by decide) ?_
    exact W.zret (ty := .boolean) (v := 0) hx hb hr (by decide) (fun t ht hW => ⟨0, rfl, rfl, ht⟩) hL dX5_has_17

set_option maxHeartbeats 4000000 in
set_option maxRecDepth 100000 in
/-- has(i), with nothing there -/
theorem c_X7_has (l : Launch) (D : va_G) (cI cZ cJ : ClassId) (lo sz : Nat) (aT : Nat) (aT1 : Nat) (aT2 : Nat) (aT3 : Nat) (aT4 : Nat) (aT5 : Nat) (aT6 : Nat) (i : Int32) : Met l yX7_has wsX7_has ({ frames := 0, cells := 0, slots := 0, locals := 0 }) (Pre lo D cI cZ cJ [.ref aT, .int i] sz [(aT, .inr (7, [.int 0, .ref aT1, .ref aT2, .ref aT3, .ref aT4, .ref aT5, .ref aT6]))]) (vp_Si (fun r => r = 0)) 0 0 (fun _ => False) := by
  refine Met.ofW (cc := cX7_has) (maxL := 2) (ret := (some .boolean)) (by decide) rfl ?_
  intro p e s m args below meth c s₁ B hml hv
  obtain ⟨rfl, hsz, hP, hD0, hC⟩ := hv
  have hx := B.exec
  have hb := B.bytes
  have hr := B.returns
  have hts := atoms_spec (ws := wsX7_has) B.pre
  have hown : s.vm.findClass RX7 = some m.cls := findClass_of_methodNamed B.named
  have hlocks := B.notSynchronized
  subst hsz
  have hK := hC.K
  have hD := hD0
  have hS : va_S (fun q => lo ≤ q) s.heap s.heap [] := va_S.rf
  have hAlo : ∀ q, (fun q => lo ≤ q) q → lo ≤ q := fun _ h => h
  have hL : ∀ q ∈ ([] : List Loc), (fun _ : Addr => False) q.base := fun q h => by cases h
  have hP : va_P D vwCl [(aT, .inr (7, [.int 0, .ref aT1, .ref aT2, .ref aT3, .ref aT4, .ref aT5, .ref aT6]))] s.heap := hP
  have hl := lv_entry ([.ref aT, .int i]) (n := 2) (Nat.le_of_ble_eq_true rfl)
  rw [lg_entry_eq]
  generalize (lg_sl ([.ref aT, .int i]) ++ List.replicate (2 - (lg_sl ([.ref aT, .int i])).length) Slot.unset).toArray = ls at hl ⊢
  have hl : lv_has ls 2 [(0, .ref aT), (1, .int i)] := hl
  have in7 : ∀ w ∈ u_ws RX7 TX7 7, w ∈ wsX7_has := by decide +kernel
  refine lv_iload_n hx hb dX7_has_0 rfl (lv_at hl 1 rfl) ?_
  refine lv_if_lt (tgt := 16) hx hb dX7_has_1 (by decide) (fun c_1 => ?_) (fun c_1 => ?_)
  · refine lv_iconst (v := 0) hx hb dX7_has_16 (by decide) ?_
    exact W.zret (ty := .boolean) (v := 0) hx hb hr (by decide) (fun t ht hW => ⟨0, rfl, rfl, ht⟩) hL dX7_has_17
  · refine lv_iload_n hx hb dX7_has_4 rfl (lv_at hl 1 rfl) ?_
    refine lv_aload_n hx hb dX7_has_5 rfl (lv_at hl 0 rfl) ?_
    refine va_get (D := D) (ci := 7) (v := .int 0) (C := RX7) (T := TX7) (N := 7) hx hb hts in7 hown hK hP 0 rfl rfl 0 (by decide) (hts (.fieldLink RX7 30 "Granary$Transports" "count" "I") (by decide +kernel)) (fun _ h9 => h9) rfl dX7_has_6 ?_
    refine lv_icmp_ge (tgt := 16) hx hb dX7_has_9 (by decide) (fun _ => ?_) (fun c9 => absurd (show 0 ≤ i from (Int32.not_lt.mp c_1)) c9)
    refine lv_iconst (v := 0) hx hb dX7_has_16 (by decide) ?_
    exact W.zret (ty := .boolean) (v := 0) hx hb hr (by decide) (fun t ht hW => ⟨0, rfl, rfl, ht⟩) hL dX7_has_17

set_option maxHeartbeats 4000000 in
set_option maxRecDepth 100000 in
/-- needIndex -/
theorem c_needIndex (l : Launch) (hl9 : l.stackTraces = false) (D : va_G) (cI cZ cJ : ClassId) (lo sz : Nat) (b : Int32) : vx_Met l yX8_needIndex wsX8_needIndex ({ frames := 6, cells := 1, slots := 6, locals := 82 }) (Pre lo D cI cZ cJ [.int b] sz []) (va_Qv (fun _ : Unit => ¬ b = 0) (fun _ t => True) (va_A [] sz)) (vx_X (fun _ : Unit => b = 0) (fun E _ _ => E = "java/lang/IndexOutOfBoundsException") (va_A [] sz)) 1 6 (va_A [] sz) := by
  refine vx_ofW (cc := cX8_needIndex) (maxL := 1) (ret := none) (by decide) rfl ?_
  intro p e s m args below meth c s₁ B hml ht9 hv
  obtain ⟨rfl, hsz, hP, hD0, hC⟩ := hv
  have hx := B.exec
  have hb := B.bytes
  have hr := B.returns
  have hts := atoms_spec (ws := wsX8_needIndex) B.pre
  have hown : s.vm.findClass RX8 = some m.cls := findClass_of_methodNamed B.named
  have hlocks := B.notSynchronized
  subst hsz
  have hK := hC.K
  have hD := hD0.self (sz := s.heap.size)
  have hAlo0 := va_A_lo hD0 hC.1
  generalize hAe : va_A [] s.heap.size = A at hD hAlo0 ⊢
  have hA : ∀ q : Nat, s.heap.size ≤ q → A q := fun q h => by rw [← hAe]; exact Or.inr h
  have hAlo : ∀ q, A q → lo ≤ q := hAlo0
  have hS : va_S A s.heap s.heap [] := va_S.rf
  have hP : va_P D vwCl [] s.heap := hP
  have hl := lv_entry ([.int b]) (n := 1) (Nat.le_of_ble_eq_true rfl)
  rw [lg_entry_eq]
  generalize (lg_sl ([.int b]) ++ List.replicate (1 - (lg_sl ([.int b])).length) Slot.unset).toArray = ls at hl ⊢
  have hl : lv_has ls 1 [(0, .int b)] := hl
  refine lv_iload_n hx hb dX8_needIndex_0 rfl (lv_at hl 0 rfl) ?_
  refine lv_if_ne (tgt := 15) hx hb dX8_needIndex_1 (by decide) (fun c_1 => ?_) (fun c_1 => ?_)
  · refine W.widen (k := 1) (n := 6) (by omega) (by omega) ?_
    refine vx_ret ?_
    exact W.vret hx hb hr (fun t ht hW => ⟨⟨(), rfl, c_1, trivial⟩, hS.F ht⟩) hS.2.2 dX8_needIndex_15
  · obtain ⟨sa9, hstr⟩ := hC.sIOO
    have hat := vx_hat (L := vx_atS RX8 295 "java/lang/IndexOutOfBoundsException" ["java/lang/RuntimeException", "java/lang/Exception"]) (B := [.declares ⟨"java/lang/RuntimeException", "<init>", "(Ljava/lang/String;)V"⟩, .declares ⟨"java/lang/Exception", "<init>", "(Ljava/lang/String;)V"⟩, .declares ⟨"java/lang/Throwable", "<init>", "(Ljava/lang/String;)V"⟩, .castable "java/lang/IndexOutOfBoundsException" "java/lang/IndexOutOfBoundsException"]) (fun w h => hts w (List.mem_cons_of_mem _ (List.mem_append_right _ h))) (by decide +kernel) (vx_c (va_Nw.use rfl hC.dR) (vx_c (va_Nw.use rfl hC.dE) (vx_c (va_Nw.use rfl hC.dT) (vx_c (va_Nw.use rfl hC.cIOO) vx_n))))
    exact vx_throwSW (names := ["java/lang/RuntimeException", "java/lang/Exception"]) hx hb hl9 hown (by decide +kernel) (by decide +kernel) (hts (.classLink RX8 291 "java/lang/IndexOutOfBoundsException") (by decide +kernel)) (hts (.initialized "java/lang/IndexOutOfBoundsException") (by decide +kernel)) hstr hat (by decide +kernel) (hC.zU.narrow hAlo) (hC.zN.narrow hAlo) hS (hl.1.trans hml.symm) dX8_needIndex_4 dX8_needIndex_7 dX8_needIndex_8 dX8_needIndex_11 dX8_needIndex_14 (fun x9 h9 => (ht9 x9 h9).elim) (Nat.le_of_ble_eq_true rfl) (Nat.le_of_ble_eq_true rfl) (Nat.le_of_ble_eq_true rfl) (Nat.le_of_ble_eq_true rfl) hlocks (fun t9 _ hz9 hk9 => ⟨(), c_1, rfl, hz9, fun q9 hq9 _ => hk9 q9 hq9⟩) hS.2.2 (Nat.le_of_ble_eq_true rfl) (Nat.le_of_ble_eq_true rfl)

set_option maxHeartbeats 4000000 in
set_option maxRecDepth 100000 in
/-- needArgument -/
theorem c_needArgument (l : Launch) (hl9 : l.stackTraces = false) (D : va_G) (cI cZ cJ : ClassId) (lo sz : Nat) (b : Int32) : vx_Met l yX8_needArgument wsX8_needArgument ({ frames := 6, cells := 1, slots := 6, locals := 82 }) (Pre lo D cI cZ cJ [.int b] sz []) (va_Qv (fun _ : Unit => ¬ b = 0) (fun _ t => True) (va_A [] sz)) (vx_X (fun _ : Unit => b = 0) (fun E _ _ => E = "java/lang/IllegalArgumentException") (va_A [] sz)) 1 6 (va_A [] sz) := by
  refine vx_ofW (cc := cX8_needArgument) (maxL := 1) (ret := none) (by decide) rfl ?_
  intro p e s m args below meth c s₁ B hml ht9 hv
  obtain ⟨rfl, hsz, hP, hD0, hC⟩ := hv
  have hx := B.exec
  have hb := B.bytes
  have hr := B.returns
  have hts := atoms_spec (ws := wsX8_needArgument) B.pre
  have hown : s.vm.findClass RX8 = some m.cls := findClass_of_methodNamed B.named
  have hlocks := B.notSynchronized
  subst hsz
  have hK := hC.K
  have hD := hD0.self (sz := s.heap.size)
  have hAlo0 := va_A_lo hD0 hC.1
  generalize hAe : va_A [] s.heap.size = A at hD hAlo0 ⊢
  have hA : ∀ q : Nat, s.heap.size ≤ q → A q := fun q h => by rw [← hAe]; exact Or.inr h
  have hAlo : ∀ q, A q → lo ≤ q := hAlo0
  have hS : va_S A s.heap s.heap [] := va_S.rf
  have hP : va_P D vwCl [] s.heap := hP
  have hl := lv_entry ([.int b]) (n := 1) (Nat.le_of_ble_eq_true rfl)
  rw [lg_entry_eq]
  generalize (lg_sl ([.int b]) ++ List.replicate (1 - (lg_sl ([.int b])).length) Slot.unset).toArray = ls at hl ⊢
  have hl : lv_has ls 1 [(0, .int b)] := hl
  refine lv_iload_n hx hb dX8_needArgument_0 rfl (lv_at hl 0 rfl) ?_
  refine lv_if_ne (tgt := 15) hx hb dX8_needArgument_1 (by decide) (fun c_1 => ?_) (fun c_1 => ?_)
  · refine W.widen (k := 1) (n := 6) (by omega) (by omega) ?_
    refine vx_ret ?_
    exact W.vret hx hb hr (fun t ht hW => ⟨⟨(), rfl, c_1, trivial⟩, hS.F ht⟩) hS.2.2 dX8_needArgument_15
  · obtain ⟨sa9, hstr⟩ := hC.sIAE
    have hat := vx_hat (L := vx_atS RX8 302 "java/lang/IllegalArgumentException" ["java/lang/RuntimeException", "java/lang/Exception"]) (B := [.declares ⟨"java/lang/RuntimeException", "<init>", "(Ljava/lang/String;)V"⟩, .declares ⟨"java/lang/Exception", "<init>", "(Ljava/lang/String;)V"⟩, .declares ⟨"java/lang/Throwable", "<init>", "(Ljava/lang/String;)V"⟩, .castable "java/lang/IllegalArgumentException" "java/lang/IllegalArgumentException"]) (fun w h => hts w (List.mem_cons_of_mem _ (List.mem_append_right _ h))) (by decide +kernel) (vx_c (va_Nw.use rfl hC.dR) (vx_c (va_Nw.use rfl hC.dE) (vx_c (va_Nw.use rfl hC.dT) (vx_c (va_Nw.use rfl hC.cIAE) vx_n))))
    exact vx_throwSW (names := ["java/lang/RuntimeException", "java/lang/Exception"]) hx hb hl9 hown (by decide +kernel) (by decide +kernel) (hts (.classLink RX8 298 "java/lang/IllegalArgumentException") (by decide +kernel)) (hts (.initialized "java/lang/IllegalArgumentException") (by decide +kernel)) hstr hat (by decide +kernel) (hC.zU.narrow hAlo) (hC.zN.narrow hAlo) hS (hl.1.trans hml.symm) dX8_needArgument_4 dX8_needArgument_7 dX8_needArgument_8 dX8_needArgument_11 dX8_needArgument_14 (fun x9 h9 => (ht9 x9 h9).elim) (Nat.le_of_ble_eq_true rfl) (Nat.le_of_ble_eq_true rfl) (Nat.le_of_ble_eq_true rfl) (Nat.le_of_ble_eq_true rfl) hlocks (fun t9 _ hz9 hk9 => ⟨(), c_1, rfl, hz9, fun q9 hq9 _ => hk9 q9 hq9⟩) hS.2.2 (Nat.le_of_ble_eq_true rfl) (Nat.le_of_ble_eq_true rfl)

set_option maxHeartbeats 4000000 in
set_option maxRecDepth 100000 in
/-- needState -/
theorem c_needState (l : Launch) (hl9 : l.stackTraces = false) (D : va_G) (cI cZ cJ : ClassId) (lo sz : Nat) (b : Int32) : vx_Met l yX8_needState wsX8_needState ({ frames := 6, cells := 1, slots := 6, locals := 82 }) (Pre lo D cI cZ cJ [.int b] sz []) (va_Qv (fun _ : Unit => ¬ b = 0) (fun _ t => True) (va_A [] sz)) (vx_X (fun _ : Unit => b = 0) (fun E _ _ => E = "java/lang/IllegalStateException") (va_A [] sz)) 1 6 (va_A [] sz) := by
  refine vx_ofW (cc := cX8_needState) (maxL := 1) (ret := none) (by decide) rfl ?_
  intro p e s m args below meth c s₁ B hml ht9 hv
  obtain ⟨rfl, hsz, hP, hD0, hC⟩ := hv
  have hx := B.exec
  have hb := B.bytes
  have hr := B.returns
  have hts := atoms_spec (ws := wsX8_needState) B.pre
  have hown : s.vm.findClass RX8 = some m.cls := findClass_of_methodNamed B.named
  have hlocks := B.notSynchronized
  subst hsz
  have hK := hC.K
  have hD := hD0.self (sz := s.heap.size)
  have hAlo0 := va_A_lo hD0 hC.1
  generalize hAe : va_A [] s.heap.size = A at hD hAlo0 ⊢
  have hA : ∀ q : Nat, s.heap.size ≤ q → A q := fun q h => by rw [← hAe]; exact Or.inr h
  have hAlo : ∀ q, A q → lo ≤ q := hAlo0
  have hS : va_S A s.heap s.heap [] := va_S.rf
  have hP : va_P D vwCl [] s.heap := hP
  have hl := lv_entry ([.int b]) (n := 1) (Nat.le_of_ble_eq_true rfl)
  rw [lg_entry_eq]
  generalize (lg_sl ([.int b]) ++ List.replicate (1 - (lg_sl ([.int b])).length) Slot.unset).toArray = ls at hl ⊢
  have hl : lv_has ls 1 [(0, .int b)] := hl
  refine lv_iload_n hx hb dX8_needState_0 rfl (lv_at hl 0 rfl) ?_
  refine lv_if_ne (tgt := 15) hx hb dX8_needState_1 (by decide) (fun c_1 => ?_) (fun c_1 => ?_)
  · refine W.widen (k := 1) (n := 6) (by omega) (by omega) ?_
    refine vx_ret ?_
    exact W.vret hx hb hr (fun t ht hW => ⟨⟨(), rfl, c_1, trivial⟩, hS.F ht⟩) hS.2.2 dX8_needState_15
  · obtain ⟨sa9, hstr⟩ := hC.sISE
    have hat := vx_hat (L := vx_atS RX8 307 "java/lang/IllegalStateException" ["java/lang/RuntimeException", "java/lang/Exception"]) (B := [.declares ⟨"java/lang/RuntimeException", "<init>", "(Ljava/lang/String;)V"⟩, .declares ⟨"java/lang/Exception", "<init>", "(Ljava/lang/String;)V"⟩, .declares ⟨"java/lang/Throwable", "<init>", "(Ljava/lang/String;)V"⟩, .castable "java/lang/IllegalStateException" "java/lang/IllegalStateException"]) (fun w h => hts w (List.mem_cons_of_mem _ (List.mem_append_right _ h))) (by decide +kernel) (vx_c (va_Nw.use rfl hC.dR) (vx_c (va_Nw.use rfl hC.dE) (vx_c (va_Nw.use rfl hC.dT) (vx_c (va_Nw.use rfl hC.cISE) vx_n))))
    exact vx_throwSW (names := ["java/lang/RuntimeException", "java/lang/Exception"]) hx hb hl9 hown (by decide +kernel) (by decide +kernel) (hts (.classLink RX8 303 "java/lang/IllegalStateException") (by decide +kernel)) (hts (.initialized "java/lang/IllegalStateException") (by decide +kernel)) hstr hat (by decide +kernel) (hC.zU.narrow hAlo) (hC.zN.narrow hAlo) hS (hl.1.trans hml.symm) dX8_needState_4 dX8_needState_7 dX8_needState_8 dX8_needState_11 dX8_needState_14 (fun x9 h9 => (ht9 x9 h9).elim) (Nat.le_of_ble_eq_true rfl) (Nat.le_of_ble_eq_true rfl) (Nat.le_of_ble_eq_true rfl) (Nat.le_of_ble_eq_true rfl) hlocks (fun t9 _ hz9 hk9 => ⟨(), c_1, rfl, hz9, fun q9 hq9 _ => hk9 q9 hq9⟩) hS.2.2 (Nat.le_of_ble_eq_true rfl) (Nat.le_of_ble_eq_true rfl)

set_option maxHeartbeats 4000000 in
set_option maxRecDepth 100000 in
/-- needWithin -/
theorem c_needWithin (l : Launch) (hl9 : l.stackTraces = false) (D : va_G) (cI cZ cJ : ClassId) (lo sz : Nat) (v : Int32) (a : Int32) (z : Int32) : vx_Met l yX8_needWithin wsX8_needWithin ({ frames := 7, cells := 1, slots := 6, locals := 102 }) (Pre lo D cI cZ cJ [.int v, .int a, .int z] sz []) (va_Qv (fun _ : Unit => a ≤ v ∧ v ≤ z) (fun _ t => True) (va_A [] sz)) (vx_X (fun _ : Unit => ¬ (a ≤ v ∧ v ≤ z)) (fun E _ _ => E = "java/lang/IllegalArgumentException") (va_A [] sz)) 1 6 (va_A [] sz) := by
  refine vx_ofW (cc := cX8_needWithin) (maxL := 3) (ret := none) (by decide) rfl ?_
  intro p e s m args below meth c s₁ B hml ht9 hv
  obtain ⟨rfl, hsz, hP, hD0, hC⟩ := hv
  have hx := B.exec
  have hb := B.bytes
  have hr := B.returns
  have hts := atoms_spec (ws := wsX8_needWithin) B.pre
  have hown : s.vm.findClass RX8 = some m.cls := findClass_of_methodNamed B.named
  have hlocks := B.notSynchronized
  subst hsz
  have hK := hC.K
  have hD := hD0.self (sz := s.heap.size)
  have hAlo0 := va_A_lo hD0 hC.1
  generalize hAe : va_A [] s.heap.size = A at hD hAlo0 ⊢
  have hA : ∀ q : Nat, s.heap.size ≤ q → A q := fun q h => by rw [← hAe]; exact Or.inr h
  have hAlo : ∀ q, A q → lo ≤ q := hAlo0
  have hS : va_S A s.heap s.heap [] := va_S.rf
  have hP : va_P D vwCl [] s.heap := hP
  have hl := lv_entry ([.int v, .int a, .int z]) (n := 3) (Nat.le_of_ble_eq_true rfl)
  rw [lg_entry_eq]
  generalize (lg_sl ([.int v, .int a, .int z]) ++ List.replicate (3 - (lg_sl ([.int v, .int a, .int z])).length) Slot.unset).toArray = ls at hl ⊢
  have hl : lv_has ls 3 [(0, .int v), (1, .int a), (2, .int z)] := hl
  refine lv_iload_n hx hb dX8_needWithin_0 rfl (lv_at hl 0 rfl) ?_
  refine lv_iload_n hx hb dX8_needWithin_1 rfl (lv_at hl 1 rfl) ?_
  refine lv_icmp_lt (tgt := 14) hx hb dX8_needWithin_2 (by decide) (fun c_1 => ?_) (fun c_1 => ?_)
  · refine lv_iconst (v := 0) hx hb dX8_needWithin_14 (by decide) ?_
    have hPc := hP.sub (ws' := []) [] rfl
    have hDc := hD.sub (ws' := []) [] (by decide) rfl
    have hFc := va_free (wc := []) hD hS hA [] rfl
    refine vx_callv (vx_runS (As := [.int 0]) (rest := []) ⟨hx, hb, hml, hown, hts⟩ (c_needArgument l hl9 D cI cZ cJ lo s.heap.size 0) (va_cwS 1 hts gX8_needWithin_X8_needArgument rfl rfl rfl (by decide +kernel) ⟨(Nat.le_of_ble_eq_true rfl), (Nat.le_of_ble_eq_true rfl)⟩) ⟨Pre.blind, Pre.mk hPc (hDc.weaken (fun _ _ _ h => hAlo _ h)) hC hS hAlo⟩ rfl rfl hl.1 rfl (lv_room (Nat.le_of_ble_eq_true rfl)) dX8_needWithin_15 ⟨(Nat.le_of_ble_eq_true rfl), (Nat.le_of_ble_eq_true rfl)⟩) hS (fun q _ h => hFc q h) hFc (fun q _ h => hFc q h) (fun E ce q9 u t H1 locs1 ht hvm hpx hbx hz1 hk1 hS1 hce hcv hcl => ?_) (fun u t H1 locs1 ht hvm e_2 hB hz1 hk1 hS1 => ?_)
    · have px_3 : (0 : Int32) = 0 := hpx
      have hE : E = "java/lang/IllegalArgumentException" := hbx
      subst hE
      exact vx_out (fun x9 h9 => (ht9 x9 h9).elim) hlocks hce hcv hcl (fun t9 ht9b _ => ⟨(), fun h9 => absurd (Int32.not_le.mpr c_1) (fun h8 => h8 h9.1), rfl, hS1.F ht9b⟩) hS1.2.2 (by omega) (by omega)
    · exact absurd rfl e_2
  · refine lv_iload_n hx hb dX8_needWithin_5 rfl (lv_at hl 0 rfl) ?_
    refine lv_iload_n hx hb dX8_needWithin_6 rfl (lv_at hl 2 rfl) ?_
    refine lv_icmp_gt (tgt := 14) hx hb dX8_needWithin_7 (by decide) (fun c_4 => ?_) (fun c_4 => ?_)
    · refine lv_iconst (v := 0) hx hb dX8_needWithin_14 (by decide) ?_
      have hPc := hP.sub (ws' := []) [] rfl
      have hDc := hD.sub (ws' := []) [] (by decide) rfl
      have hFc := va_free (wc := []) hD hS hA [] rfl
      refine vx_callv (vx_runS (As := [.int 0]) (rest := []) ⟨hx, hb, hml, hown, hts⟩ (c_needArgument l hl9 D cI cZ cJ lo s.heap.size 0) (va_cwS 1 hts gX8_needWithin_X8_needArgument rfl rfl rfl (by decide +kernel) ⟨(Nat.le_of_ble_eq_true rfl), (Nat.le_of_ble_eq_true rfl)⟩) ⟨Pre.blind, Pre.mk hPc (hDc.weaken (fun _ _ _ h => hAlo _ h)) hC hS hAlo⟩ rfl rfl hl.1 rfl (lv_room (Nat.le_of_ble_eq_true rfl)) dX8_needWithin_15 ⟨(Nat.le_of_ble_eq_true rfl), (Nat.le_of_ble_eq_true rfl)⟩) hS (fun q _ h => hFc q h) hFc (fun q _ h => hFc q h) (fun E ce q9 u t H1 locs1 ht hvm hpx hbx hz1 hk1 hS1 hce hcv hcl => ?_) (fun u t H1 locs1 ht hvm e_5 hB hz1 hk1 hS1 => ?_)
      · have px_6 : (0 : Int32) = 0 := hpx
        have hE : E = "java/lang/IllegalArgumentException" := hbx
        subst hE
        exact vx_out (fun x9 h9 => (ht9 x9 h9).elim) hlocks hce hcv hcl (fun t9 ht9b _ => ⟨(), fun h9 => absurd (Int32.not_le.mpr c_4) (fun h8 => h8 h9.2), rfl, hS1.F ht9b⟩) hS1.2.2 (by omega) (by omega)
      · exact absurd rfl e_5
    · refine lv_iconst (v := 1) hx hb dX8_needWithin_10 (by decide) ?_
      refine lv_goto (tgt := 15) hx hb dX8_needWithin_11 (by decide) ?_
      have hPc := hP.sub (ws' := []) [] rfl
      have hDc := hD.sub (ws' := []) [] (by decide) rfl
      have hFc := va_free (wc := []) hD hS hA [] rfl
      refine vx_callv (vx_runS (As := [.int 1]) (rest := []) ⟨hx, hb, hml, hown, hts⟩ (c_needArgument l hl9 D cI cZ cJ lo s.heap.size 1) (va_cwS 1 hts gX8_needWithin_X8_needArgument rfl rfl rfl (by decide +kernel) ⟨(Nat.le_of_ble_eq_true rfl), (Nat.le_of_ble_eq_true rfl)⟩) ⟨Pre.blind, Pre.mk hPc (hDc.weaken (fun _ _ _ h => hAlo _ h)) hC hS hAlo⟩ rfl rfl hl.1 rfl (lv_room (Nat.le_of_ble_eq_true rfl)) dX8_needWithin_15 ⟨(Nat.le_of_ble_eq_true rfl), (Nat.le_of_ble_eq_true rfl)⟩) hS (fun q _ h => hFc q h) hFc (fun q _ h => hFc q h) (fun E ce q9 u t H1 locs1 ht hvm hpx hbx hz1 hk1 hS1 hce hcv hcl => ?_) (fun u t H1 locs1 ht hvm e_7 hB hz1 hk1 hS1 => ?_)
      · have px_8 : (1 : Int32) = 0 := hpx
        have hE : E = "java/lang/IllegalArgumentException" := hbx
        subst hE
        exact absurd px_8 (by decide)
      · skip
        have hS := hS1
        refine W.widen (k := 1) (n := 6) (by omega) (by omega) ?_
        obtain ⟨hP, hD⟩ := va_rest (wr := []) hP hD [] [] rfl rfl (by decide) (by decide) hk1 hFc
        have e_7 : ¬ (1 : Int32) = 0 := e_7
        clear ht hvm hz1 hk1 hS1 hB
        generalize H1 = H at hP hS ⊢
        have hP : va_P D vwCl [] H := hP
        have hD : va_D A [] := hD
        refine W.widen (k := 1) (n := 6) (by omega) (by omega) ?_
        refine vx_ret ?_
        exact W.vret hx hb hr (fun t ht hW => ⟨⟨(), rfl, ⟨Int32.not_lt.mp c_1, Int32.not_lt.mp c_4⟩, trivial⟩, hS.F ht⟩) hS.2.2 dX8_needWithin_18

set_option maxHeartbeats 4000000 in
set_option maxRecDepth 100000 in
/-- needItem, with nothing there -/
theorem c_needItem (l : Launch) (hl9 : l.stackTraces = false) (D : va_G) (cI cZ cJ : ClassId) (lo sz : Nat) (g : Nat) (nw : Nat) (la : Nat) (pn : Nat) (dy : Int32) (aI : Nat) (aS : Nat) (aP : Nat) (aL : Nat) (aO : Nat) (aT : Nat) (aA : Nat) (aQ : Nat) (aI1 : Nat) (aI2 : Nat) (aI3 : Nat) (aI4 : Nat) (i : Int32) : vx_Met l yX8_needItem wsX8_needItem ({ frames := 7, cells := 1, slots := 6, locals := 102 }) (Pre lo D cI cZ cJ [.ref g, .int i] sz [(g, .inr (8, [.ref nw, .ref la, .ref pn])), (nw, .inr (6, [.int dy, .ref aI, .ref aS, .ref aP, .ref aL, .ref aO, .ref aT, .ref aA, .ref aQ])), (aI, .inr (0, [.int 0, .ref aI1, .ref aI2, .ref aI3, .ref aI4]))]) (va_Qv (fun _ : Unit => False) (fun _ t => True) (va_A [(g, .inr (8, [.ref nw, .ref la, .ref pn])), (nw, .inr (6, [.int dy, .ref aI, .ref aS, .ref aP, .ref aL, .ref aO, .ref aT, .ref aA, .ref aQ])), (aI, .inr (0, [.int 0, .ref aI1, .ref aI2, .ref aI3, .ref aI4]))] sz)) (vx_X (fun _ : Unit => True) (fun E _ _ => E = "java/lang/IndexOutOfBoundsException") (va_A [(g, .inr (8, [.ref nw, .ref la, .ref pn])), (nw, .inr (6, [.int dy, .ref aI, .ref aS, .ref aP, .ref aL, .ref aO, .ref aT, .ref aA, .ref aQ])), (aI, .inr (0, [.int 0, .ref aI1, .ref aI2, .ref aI3, .ref aI4]))] sz)) 1 6 (va_A [(g, .inr (8, [.ref nw, .ref la, .ref pn])), (nw, .inr (6, [.int dy, .ref aI, .ref aS, .ref aP, .ref aL, .ref aO, .ref aT, .ref aA, .ref aQ])), (aI, .inr (0, [.int 0, .ref aI1, .ref aI2, .ref aI3, .ref aI4]))] sz) := by
  refine vx_ofW (cc := cX8_needItem) (maxL := 2) (ret := none) (by decide) rfl ?_
  intro p e s m args below meth c s₁ B hml ht9 hv
  obtain ⟨rfl, hsz, hP, hD0, hC⟩ := hv
  have hx := B.exec
  have hb := B.bytes
  have hr := B.returns
  have hts := atoms_spec (ws := wsX8_needItem) B.pre
  have hown : s.vm.findClass RX8 = some m.cls := findClass_of_methodNamed B.named
  have hlocks := B.notSynchronized
  subst hsz
  have hK := hC.K
  have hD := hD0.self (sz := s.heap.size)
  have hAlo0 := va_A_lo hD0 hC.1
  generalize hAe : va_A [(g, .inr (8, [.ref nw, .ref la, .ref pn])), (nw, .inr (6, [.int dy, .ref aI, .ref aS, .ref aP, .ref aL, .ref aO, .ref aT, .ref aA, .ref aQ])), (aI, .inr (0, [.int 0, .ref aI1, .ref aI2, .ref aI3, .ref aI4]))] s.heap.size = A at hD hAlo0 ⊢
  have hA : ∀ q : Nat, s.heap.size ≤ q → A q := fun q h => by rw [← hAe]; exact Or.inr h
  have hAlo : ∀ q, A q → lo ≤ q := hAlo0
  have hS : va_S A s.heap s.heap [] := va_S.rf
  have hP : va_P D vwCl [(g, .inr (8, [.ref nw, .ref la, .ref pn])), (nw, .inr (6, [.int dy, .ref aI, .ref aS, .ref aP, .ref aL, .ref aO, .ref aT, .ref aA, .ref aQ])), (aI, .inr (0, [.int 0, .ref aI1, .ref aI2, .ref aI3, .ref aI4]))] s.heap := hP
  have hl := lv_entry ([.ref g, .int i]) (n := 2) (Nat.le_of_ble_eq_true rfl)
  rw [lg_entry_eq]
  generalize (lg_sl ([.ref g, .int i]) ++ List.replicate (2 - (lg_sl ([.ref g, .int i])).length) Slot.unset).toArray = ls at hl ⊢
  have hl : lv_has ls 2 [(0, .ref g), (1, .int i)] := hl
  have in6 : ∀ w ∈ u_ws RX6 TX6 9, w ∈ wsX8_needItem := by decide +kernel
  have in8 : ∀ w ∈ u_ws RX8 TX8 3, w ∈ wsX8_needItem := by decide +kernel
  refine lv_aload_n hx hb dX8_needItem_0 rfl (lv_at hl 0 rfl) ?_
  refine va_get (D := D) (ci := 8) (v := .ref nw) (C := RX8) (T := TX8) (N := 3) hx hb hts in8 hown hK hP 0 rfl rfl 0 (by decide) (hts (.fieldLink RX8 10 "Granary" "now" "LGranary$Stock;") (by decide +kernel)) (fun _ h9 => h9) rfl dX8_needItem_1 ?_
  refine va_get (D := D) (ci := 6) (v := .ref aI) (C := RX6) (T := TX6) (N := 9) hx hb hts in6 hown hK hP 1 rfl rfl 1 (by decide) (hts (.fieldLink RX8 30 "Granary$Stock" "items" "LGranary$Items;") (by decide +kernel)) (fun _ h9 => h9) rfl dX8_needItem_4 ?_
  refine lv_iload_n hx hb dX8_needItem_7 rfl (lv_at hl 1 rfl) ?_
  have hPc := hP.sub (ws' := [(aI, .inr (0, [.int 0, .ref aI1, .ref aI2, .ref aI3, .ref aI4]))]) [2] rfl
  have hDc := hD.sub (ws' := [(aI, .inr (0, [.int 0, .ref aI1, .ref aI2, .ref aI3, .ref aI4]))]) [2] (by decide) rfl
  refine vp_callSi (W.runV (As := [.int i]) (rest := []) ⟨hx, hb, hml, hown, hts⟩ (c_X0_has l D cI cZ cJ lo s.heap.size aI aI1 aI2 aI3 aI4 i) (cwV 1 hts gX8_needItem_X0_has rfl rfl rfl (by decide +kernel) ⟨(Nat.le_of_ble_eq_true rfl), (Nat.le_of_ble_eq_true rfl)⟩) ⟨Pre.blind, va_recv hK hP (ci := 0) (q0 := 2) rfl rfl, Pre.mk hPc (hDc.weaken (fun _ _ _ h => hAlo _ h)) hC hS hAlo⟩ rfl rfl hl.1 rfl (lv_room (Nat.le_of_ble_eq_true rfl)) dX8_needItem_8 ⟨(Nat.le_of_ble_eq_true rfl), (Nat.le_of_ble_eq_true rfl)⟩) (fun r_1 e_2 => ?_)
  have e_2 : r_1 = 0 := e_2
  subst e_2
  have hPc := hP.sub (ws' := []) [] rfl
  have hDc := hD.sub (ws' := []) [] (by decide) rfl
  have hFc := va_free (wc := []) hD hS hA [] rfl
  refine vx_callv (vx_runS (As := [.int 0]) (rest := []) ⟨hx, hb, hml, hown, hts⟩ (c_needIndex l hl9 D cI cZ cJ lo s.heap.size 0) (va_cwS 1 hts gX8_needItem_X8_needIndex rfl rfl rfl (by decide +kernel) ⟨(Nat.le_of_ble_eq_true rfl), (Nat.le_of_ble_eq_true rfl)⟩) ⟨Pre.blind, Pre.mk hPc (hDc.weaken (fun _ _ _ h => hAlo _ h)) hC hS hAlo⟩ rfl rfl hl.1 rfl (lv_room (Nat.le_of_ble_eq_true rfl)) dX8_needItem_11 ⟨(Nat.le_of_ble_eq_true rfl), (Nat.le_of_ble_eq_true rfl)⟩) hS (fun q _ h => hFc q h) hFc (fun q _ h => hFc q h) (fun E ce q9 u t H1 locs1 ht hvm hpx hbx hz1 hk1 hS1 hce hcv hcl => ?_) (fun u t H1 locs1 ht hvm e_3 hB hz1 hk1 hS1 => ?_)
  · have px_4 : (0 : Int32) = 0 := hpx
    have hE : E = "java/lang/IndexOutOfBoundsException" := hbx
    subst hE
    exact vx_out (fun x9 h9 => (ht9 x9 h9).elim) hlocks hce hcv hcl (fun t9 ht9b _ => ⟨(), trivial, rfl, hS1.F ht9b⟩) hS1.2.2 (by omega) (by omega)
  · exact absurd rfl e_3

set_option maxHeartbeats 4000000 in
set_option maxRecDepth 100000 in
/-- needSite, with nothing there -/
theorem c_needSite (l : Launch) (hl9 : l.stackTraces = false) (D : va_G) (cI cZ cJ : ClassId) (lo sz : Nat) (g : Nat) (nw : Nat) (la : Nat) (pn : Nat) (dy : Int32) (aI : Nat) (aS : Nat) (aP : Nat) (aL : Nat) (aO : Nat) (aT : Nat) (aA : Nat) (aQ : Nat) (aS1 : Nat) (aS2 : Nat) (i : Int32) : vx_Met l yX8_needSite wsX8_needSite ({ frames := 7, cells := 1, slots := 6, locals := 102 }) (Pre lo D cI cZ cJ [.ref g, .int i] sz [(g, .inr (8, [.ref nw, .ref la, .ref pn])), (nw, .inr (6, [.int dy, .ref aI, .ref aS, .ref aP, .ref aL, .ref aO, .ref aT, .ref aA, .ref aQ])), (aS, .inr (5, [.int 0, .ref aS1, .ref aS2]))]) (va_Qv (fun _ : Unit => False) (fun _ t => True) (va_A [(g, .inr (8, [.ref nw, .ref la, .ref pn])), (nw, .inr (6, [.int dy, .ref aI, .ref aS, .ref aP, .ref aL, .ref aO, .ref aT, .ref aA, .ref aQ])), (aS, .inr (5, [.int 0, .ref aS1, .ref aS2]))] sz)) (vx_X (fun _ : Unit => True) (fun E _ _ => E = "java/lang/IndexOutOfBoundsException") (va_A [(g, .inr (8, [.ref nw, .ref la, .ref pn])), (nw, .inr (6, [.int dy, .ref aI, .ref aS, .ref aP, .ref aL, .ref aO, .ref aT, .ref aA, .ref aQ])), (aS, .inr (5, [.int 0, .ref aS1, .ref aS2]))] sz)) 1 6 (va_A [(g, .inr (8, [.ref nw, .ref la, .ref pn])), (nw, .inr (6, [.int dy, .ref aI, .ref aS, .ref aP, .ref aL, .ref aO, .ref aT, .ref aA, .ref aQ])), (aS, .inr (5, [.int 0, .ref aS1, .ref aS2]))] sz) := by
  refine vx_ofW (cc := cX8_needSite) (maxL := 2) (ret := none) (by decide) rfl ?_
  intro p e s m args below meth c s₁ B hml ht9 hv
  obtain ⟨rfl, hsz, hP, hD0, hC⟩ := hv
  have hx := B.exec
  have hb := B.bytes
  have hr := B.returns
  have hts := atoms_spec (ws := wsX8_needSite) B.pre
  have hown : s.vm.findClass RX8 = some m.cls := findClass_of_methodNamed B.named
  have hlocks := B.notSynchronized
  subst hsz
  have hK := hC.K
  have hD := hD0.self (sz := s.heap.size)
  have hAlo0 := va_A_lo hD0 hC.1
  generalize hAe : va_A [(g, .inr (8, [.ref nw, .ref la, .ref pn])), (nw, .inr (6, [.int dy, .ref aI, .ref aS, .ref aP, .ref aL, .ref aO, .ref aT, .ref aA, .ref aQ])), (aS, .inr (5, [.int 0, .ref aS1, .ref aS2]))] s.heap.size = A at hD hAlo0 ⊢
  have hA : ∀ q : Nat, s.heap.size ≤ q → A q := fun q h => by rw [← hAe]; exact Or.inr h
  have hAlo : ∀ q, A q → lo ≤ q := hAlo0
  have hS : va_S A s.heap s.heap [] := va_S.rf
  have hP : va_P D vwCl [(g, .inr (8, [.ref nw, .ref la, .ref pn])), (nw, .inr (6, [.int dy, .ref aI, .ref aS, .ref aP, .ref aL, .ref aO, .ref aT, .ref aA, .ref aQ])), (aS, .inr (5, [.int 0, .ref aS1, .ref aS2]))] s.heap := hP
  have hl := lv_entry ([.ref g, .int i]) (n := 2) (Nat.le_of_ble_eq_true rfl)
  rw [lg_entry_eq]
  generalize (lg_sl ([.ref g, .int i]) ++ List.replicate (2 - (lg_sl ([.ref g, .int i])).length) Slot.unset).toArray = ls at hl ⊢
  have hl : lv_has ls 2 [(0, .ref g), (1, .int i)] := hl
  have in6 : ∀ w ∈ u_ws RX6 TX6 9, w ∈ wsX8_needSite := by decide +kernel
  have in8 : ∀ w ∈ u_ws RX8 TX8 3, w ∈ wsX8_needSite := by decide +kernel
  refine lv_aload_n hx hb dX8_needSite_0 rfl (lv_at hl 0 rfl) ?_
  refine va_get (D := D) (ci := 8) (v := .ref nw) (C := RX8) (T := TX8) (N := 3) hx hb hts in8 hown hK hP 0 rfl rfl 0 (by decide) (hts (.fieldLink RX8 10 "Granary" "now" "LGranary$Stock;") (by decide +kernel)) (fun _ h9 => h9) rfl dX8_needSite_1 ?_
  refine va_get (D := D) (ci := 6) (v := .ref aS) (C := RX6) (T := TX6) (N := 9) hx hb hts in6 hown hK hP 1 rfl rfl 2 (by decide) (hts (.fieldLink RX8 48 "Granary$Stock" "sites" "LGranary$Sites;") (by decide +kernel)) (fun _ h9 => h9) rfl dX8_needSite_4 ?_
  refine lv_iload_n hx hb dX8_needSite_7 rfl (lv_at hl 1 rfl) ?_
  have hPc := hP.sub (ws' := [(aS, .inr (5, [.int 0, .ref aS1, .ref aS2]))]) [2] rfl
  have hDc := hD.sub (ws' := [(aS, .inr (5, [.int 0, .ref aS1, .ref aS2]))]) [2] (by decide) rfl
  refine vp_callSi (W.runV (As := [.int i]) (rest := []) ⟨hx, hb, hml, hown, hts⟩ (c_X5_has l D cI cZ cJ lo s.heap.size aS aS1 aS2 i) (cwV 1 hts gX8_needSite_X5_has rfl rfl rfl (by decide +kernel) ⟨(Nat.le_of_ble_eq_true rfl), (Nat.le_of_ble_eq_true rfl)⟩) ⟨Pre.blind, va_recv hK hP (ci := 5) (q0 := 2) rfl rfl, Pre.mk hPc (hDc.weaken (fun _ _ _ h => hAlo _ h)) hC hS hAlo⟩ rfl rfl hl.1 rfl (lv_room (Nat.le_of_ble_eq_true rfl)) dX8_needSite_8 ⟨(Nat.le_of_ble_eq_true rfl), (Nat.le_of_ble_eq_true rfl)⟩) (fun r_1 e_2 => ?_)
  have e_2 : r_1 = 0 := e_2
  subst e_2
  have hPc := hP.sub (ws' := []) [] rfl
  have hDc := hD.sub (ws' := []) [] (by decide) rfl
  have hFc := va_free (wc := []) hD hS hA [] rfl
  refine vx_callv (vx_runS (As := [.int 0]) (rest := []) ⟨hx, hb, hml, hown, hts⟩ (c_needIndex l hl9 D cI cZ cJ lo s.heap.size 0) (va_cwS 1 hts gX8_needSite_X8_needIndex rfl rfl rfl (by decide +kernel) ⟨(Nat.le_of_ble_eq_true rfl), (Nat.le_of_ble_eq_true rfl)⟩) ⟨Pre.blind, Pre.mk hPc (hDc.weaken (fun _ _ _ h => hAlo _ h)) hC hS hAlo⟩ rfl rfl hl.1 rfl (lv_room (Nat.le_of_ble_eq_true rfl)) dX8_needSite_11 ⟨(Nat.le_of_ble_eq_true rfl), (Nat.le_of_ble_eq_true rfl)⟩) hS (fun q _ h => hFc q h) hFc (fun q _ h => hFc q h) (fun E ce q9 u t H1 locs1 ht hvm hpx hbx hz1 hk1 hS1 hce hcv hcl => ?_) (fun u t H1 locs1 ht hvm e_3 hB hz1 hk1 hS1 => ?_)
  · have px_4 : (0 : Int32) = 0 := hpx
    have hE : E = "java/lang/IndexOutOfBoundsException" := hbx
    subst hE
    exact vx_out (fun x9 h9 => (ht9 x9 h9).elim) hlocks hce hcv hcl (fun t9 ht9b _ => ⟨(), trivial, rfl, hS1.F ht9b⟩) hS1.2.2 (by omega) (by omega)
  · exact absurd rfl e_3

set_option maxHeartbeats 4000000 in
set_option maxRecDepth 100000 in
/-- needLot, with nothing there -/
theorem c_needLot (l : Launch) (hl9 : l.stackTraces = false) (D : va_G) (cI cZ cJ : ClassId) (lo sz : Nat) (g : Nat) (nw : Nat) (la : Nat) (pn : Nat) (dy : Int32) (aI : Nat) (aS : Nat) (aP : Nat) (aL : Nat) (aO : Nat) (aT : Nat) (aA : Nat) (aQ : Nat) (aL1 : Nat) (aL2 : Nat) (aL3 : Nat) (aL4 : Nat) (aL5 : Nat) (i : Int32) : vx_Met l yX8_needLot wsX8_needLot ({ frames := 7, cells := 1, slots := 6, locals := 102 }) (Pre lo D cI cZ cJ [.ref g, .int i] sz [(g, .inr (8, [.ref nw, .ref la, .ref pn])), (nw, .inr (6, [.int dy, .ref aI, .ref aS, .ref aP, .ref aL, .ref aO, .ref aT, .ref aA, .ref aQ])), (aL, .inr (1, [.int 0, .ref aL1, .ref aL2, .ref aL3, .ref aL4, .ref aL5]))]) (va_Qv (fun _ : Unit => False) (fun _ t => True) (va_A [(g, .inr (8, [.ref nw, .ref la, .ref pn])), (nw, .inr (6, [.int dy, .ref aI, .ref aS, .ref aP, .ref aL, .ref aO, .ref aT, .ref aA, .ref aQ])), (aL, .inr (1, [.int 0, .ref aL1, .ref aL2, .ref aL3, .ref aL4, .ref aL5]))] sz)) (vx_X (fun _ : Unit => True) (fun E _ _ => E = "java/lang/IndexOutOfBoundsException") (va_A [(g, .inr (8, [.ref nw, .ref la, .ref pn])), (nw, .inr (6, [.int dy, .ref aI, .ref aS, .ref aP, .ref aL, .ref aO, .ref aT, .ref aA, .ref aQ])), (aL, .inr (1, [.int 0, .ref aL1, .ref aL2, .ref aL3, .ref aL4, .ref aL5]))] sz)) 1 6 (va_A [(g, .inr (8, [.ref nw, .ref la, .ref pn])), (nw, .inr (6, [.int dy, .ref aI, .ref aS, .ref aP, .ref aL, .ref aO, .ref aT, .ref aA, .ref aQ])), (aL, .inr (1, [.int 0, .ref aL1, .ref aL2, .ref aL3, .ref aL4, .ref aL5]))] sz) := by
  refine vx_ofW (cc := cX8_needLot) (maxL := 2) (ret := none) (by decide) rfl ?_
  intro p e s m args below meth c s₁ B hml ht9 hv
  obtain ⟨rfl, hsz, hP, hD0, hC⟩ := hv
  have hx := B.exec
  have hb := B.bytes
  have hr := B.returns
  have hts := atoms_spec (ws := wsX8_needLot) B.pre
  have hown : s.vm.findClass RX8 = some m.cls := findClass_of_methodNamed B.named
  have hlocks := B.notSynchronized
  subst hsz
  have hK := hC.K
  have hD := hD0.self (sz := s.heap.size)
  have hAlo0 := va_A_lo hD0 hC.1
  generalize hAe : va_A [(g, .inr (8, [.ref nw, .ref la, .ref pn])), (nw, .inr (6, [.int dy, .ref aI, .ref aS, .ref aP, .ref aL, .ref aO, .ref aT, .ref aA, .ref aQ])), (aL, .inr (1, [.int 0, .ref aL1, .ref aL2, .ref aL3, .ref aL4, .ref aL5]))] s.heap.size = A at hD hAlo0 ⊢
  have hA : ∀ q : Nat, s.heap.size ≤ q → A q := fun q h => by rw [← hAe]; exact Or.inr h
  have hAlo : ∀ q, A q → lo ≤ q := hAlo0
  have hS : va_S A s.heap s.heap [] := va_S.rf
  have hP : va_P D vwCl [(g, .inr (8, [.ref nw, .ref la, .ref pn])), (nw, .inr (6, [.int dy, .ref aI, .ref aS, .ref aP, .ref aL, .ref aO, .ref aT, .ref aA, .ref aQ])), (aL, .inr (1, [.int 0, .ref aL1, .ref aL2, .ref aL3, .ref aL4, .ref aL5]))] s.heap := hP
  have hl := lv_entry ([.ref g, .int i]) (n := 2) (Nat.le_of_ble_eq_true rfl)
  rw [lg_entry_eq]
  generalize (lg_sl ([.ref g, .int i]) ++ List.replicate (2 - (lg_sl ([.ref g, .int i])).length) Slot.unset).toArray = ls at hl ⊢
  have hl : lv_has ls 2 [(0, .ref g), (1, .int i)] := hl
  have in6 : ∀ w ∈ u_ws RX6 TX6 9, w ∈ wsX8_needLot := by decide +kernel
  have in8 : ∀ w ∈ u_ws RX8 TX8 3, w ∈ wsX8_needLot := by decide +kernel
  refine lv_aload_n hx hb dX8_needLot_0 rfl (lv_at hl 0 rfl) ?_
  refine va_get (D := D) (ci := 8) (v := .ref nw) (C := RX8) (T := TX8) (N := 3) hx hb hts in8 hown hK hP 0 rfl rfl 0 (by decide) (hts (.fieldLink RX8 10 "Granary" "now" "LGranary$Stock;") (by decide +kernel)) (fun _ h9 => h9) rfl dX8_needLot_1 ?_
  refine va_get (D := D) (ci := 6) (v := .ref aL) (C := RX6) (T := TX6) (N := 9) hx hb hts in6 hown hK hP 1 rfl rfl 4 (by decide) (hts (.fieldLink RX8 109 "Granary$Stock" "lots" "LGranary$Lots;") (by decide +kernel)) (fun _ h9 => h9) rfl dX8_needLot_4 ?_
  refine lv_iload_n hx hb dX8_needLot_7 rfl (lv_at hl 1 rfl) ?_
  have hPc := hP.sub (ws' := [(aL, .inr (1, [.int 0, .ref aL1, .ref aL2, .ref aL3, .ref aL4, .ref aL5]))]) [2] rfl
  have hDc := hD.sub (ws' := [(aL, .inr (1, [.int 0, .ref aL1, .ref aL2, .ref aL3, .ref aL4, .ref aL5]))]) [2] (by decide) rfl
  refine vp_callSi (W.runV (As := [.int i]) (rest := []) ⟨hx, hb, hml, hown, hts⟩ (c_X1_has l D cI cZ cJ lo s.heap.size aL aL1 aL2 aL3 aL4 aL5 i) (cwV 1 hts gX8_needLot_X1_has rfl rfl rfl (by decide +kernel) ⟨(Nat.le_of_ble_eq_true rfl), (Nat.le_of_ble_eq_true rfl)⟩) ⟨Pre.blind, va_recv hK hP (ci := 1) (q0 := 2) rfl rfl, Pre.mk hPc (hDc.weaken (fun _ _ _ h => hAlo _ h)) hC hS hAlo⟩ rfl rfl hl.1 rfl (lv_room (Nat.le_of_ble_eq_true rfl)) dX8_needLot_8 ⟨(Nat.le_of_ble_eq_true rfl), (Nat.le_of_ble_eq_true rfl)⟩) (fun r_1 e_2 => ?_)
  have e_2 : r_1 = 0 := e_2
  subst e_2
  have hPc := hP.sub (ws' := []) [] rfl
  have hDc := hD.sub (ws' := []) [] (by decide) rfl
  have hFc := va_free (wc := []) hD hS hA [] rfl
  refine vx_callv (vx_runS (As := [.int 0]) (rest := []) ⟨hx, hb, hml, hown, hts⟩ (c_needIndex l hl9 D cI cZ cJ lo s.heap.size 0) (va_cwS 1 hts gX8_needLot_X8_needIndex rfl rfl rfl (by decide +kernel) ⟨(Nat.le_of_ble_eq_true rfl), (Nat.le_of_ble_eq_true rfl)⟩) ⟨Pre.blind, Pre.mk hPc (hDc.weaken (fun _ _ _ h => hAlo _ h)) hC hS hAlo⟩ rfl rfl hl.1 rfl (lv_room (Nat.le_of_ble_eq_true rfl)) dX8_needLot_11 ⟨(Nat.le_of_ble_eq_true rfl), (Nat.le_of_ble_eq_true rfl)⟩) hS (fun q _ h => hFc q h) hFc (fun q _ h => hFc q h) (fun E ce q9 u t H1 locs1 ht hvm hpx hbx hz1 hk1 hS1 hce hcv hcl => ?_) (fun u t H1 locs1 ht hvm e_3 hB hz1 hk1 hS1 => ?_)
  · have px_4 : (0 : Int32) = 0 := hpx
    have hE : E = "java/lang/IndexOutOfBoundsException" := hbx
    subst hE
    exact vx_out (fun x9 h9 => (ht9 x9 h9).elim) hlocks hce hcv hcl (fun t9 ht9b _ => ⟨(), trivial, rfl, hS1.F ht9b⟩) hS1.2.2 (by omega) (by omega)
  · exact absurd rfl e_3

set_option maxHeartbeats 4000000 in
set_option maxRecDepth 100000 in
/-- needOrder, with nothing there -/
theorem c_needOrder (l : Launch) (hl9 : l.stackTraces = false) (D : va_G) (cI cZ cJ : ClassId) (lo sz : Nat) (g : Nat) (nw : Nat) (la : Nat) (pn : Nat) (dy : Int32) (aI : Nat) (aS : Nat) (aP : Nat) (aL : Nat) (aO : Nat) (aT : Nat) (aA : Nat) (aQ : Nat) (aO1 : Nat) (aO2 : Nat) (aO3 : Nat) (aO4 : Nat) (aO5 : Nat) (aO6 : Nat) (aO7 : Nat) (aO8 : Nat) (aO9 : Nat) (aO10 : Nat) (i : Int32) : vx_Met l yX8_needOrder wsX8_needOrder ({ frames := 7, cells := 1, slots := 6, locals := 102 }) (Pre lo D cI cZ cJ [.ref g, .int i] sz [(g, .inr (8, [.ref nw, .ref la, .ref pn])), (nw, .inr (6, [.int dy, .ref aI, .ref aS, .ref aP, .ref aL, .ref aO, .ref aT, .ref aA, .ref aQ])), (aO, .inr (2, [.int 0, .ref aO1, .ref aO2, .ref aO3, .ref aO4, .ref aO5, .ref aO6, .ref aO7, .ref aO8, .ref aO9, .ref aO10]))]) (va_Qv (fun _ : Unit => False) (fun _ t => True) (va_A [(g, .inr (8, [.ref nw, .ref la, .ref pn])), (nw, .inr (6, [.int dy, .ref aI, .ref aS, .ref aP, .ref aL, .ref aO, .ref aT, .ref aA, .ref aQ])), (aO, .inr (2, [.int 0, .ref aO1, .ref aO2, .ref aO3, .ref aO4, .ref aO5, .ref aO6, .ref aO7, .ref aO8, .ref aO9, .ref aO10]))] sz)) (vx_X (fun _ : Unit => True) (fun E _ _ => E = "java/lang/IndexOutOfBoundsException") (va_A [(g, .inr (8, [.ref nw, .ref la, .ref pn])), (nw, .inr (6, [.int dy, .ref aI, .ref aS, .ref aP, .ref aL, .ref aO, .ref aT, .ref aA, .ref aQ])), (aO, .inr (2, [.int 0, .ref aO1, .ref aO2, .ref aO3, .ref aO4, .ref aO5, .ref aO6, .ref aO7, .ref aO8, .ref aO9, .ref aO10]))] sz)) 1 6 (va_A [(g, .inr (8, [.ref nw, .ref la, .ref pn])), (nw, .inr (6, [.int dy, .ref aI, .ref aS, .ref aP, .ref aL, .ref aO, .ref aT, .ref aA, .ref aQ])), (aO, .inr (2, [.int 0, .ref aO1, .ref aO2, .ref aO3, .ref aO4, .ref aO5, .ref aO6, .ref aO7, .ref aO8, .ref aO9, .ref aO10]))] sz) := by
  refine vx_ofW (cc := cX8_needOrder) (maxL := 2) (ret := none) (by decide) rfl ?_
  intro p e s m args below meth c s₁ B hml ht9 hv
  obtain ⟨rfl, hsz, hP, hD0, hC⟩ := hv
  have hx := B.exec
  have hb := B.bytes
  have hr := B.returns
  have hts := atoms_spec (ws := wsX8_needOrder) B.pre
  have hown : s.vm.findClass RX8 = some m.cls := findClass_of_methodNamed B.named
  have hlocks := B.notSynchronized
  subst hsz
  have hK := hC.K
  have hD := hD0.self (sz := s.heap.size)
  have hAlo0 := va_A_lo hD0 hC.1
  generalize hAe : va_A [(g, .inr (8, [.ref nw, .ref la, .ref pn])), (nw, .inr (6, [.int dy, .ref aI, .ref aS, .ref aP, .ref aL, .ref aO, .ref aT, .ref aA, .ref aQ])), (aO, .inr (2, [.int 0, .ref aO1, .ref aO2, .ref aO3, .ref aO4, .ref aO5, .ref aO6, .ref aO7, .ref aO8, .ref aO9, .ref aO10]))] s.heap.size = A at hD hAlo0 ⊢
  have hA : ∀ q : Nat, s.heap.size ≤ q → A q := fun q h => by rw [← hAe]; exact Or.inr h
  have hAlo : ∀ q, A q → lo ≤ q := hAlo0
  have hS : va_S A s.heap s.heap [] := va_S.rf
  have hP : va_P D vwCl [(g, .inr (8, [.ref nw, .ref la, .ref pn])), (nw, .inr (6, [.int dy, .ref aI, .ref aS, .ref aP, .ref aL, .ref aO, .ref aT, .ref aA, .ref aQ])), (aO, .inr (2, [.int 0, .ref aO1, .ref aO2, .ref aO3, .ref aO4, .ref aO5, .ref aO6, .ref aO7, .ref aO8, .ref aO9, .ref aO10]))] s.heap := hP
  have hl := lv_entry ([.ref g, .int i]) (n := 2) (Nat.le_of_ble_eq_true rfl)
  rw [lg_entry_eq]
  generalize (lg_sl ([.ref g, .int i]) ++ List.replicate (2 - (lg_sl ([.ref g, .int i])).length) Slot.unset).toArray = ls at hl ⊢
  have hl : lv_has ls 2 [(0, .ref g), (1, .int i)] := hl
  have in6 : ∀ w ∈ u_ws RX6 TX6 9, w ∈ wsX8_needOrder := by decide +kernel
  have in8 : ∀ w ∈ u_ws RX8 TX8 3, w ∈ wsX8_needOrder := by decide +kernel
  refine lv_aload_n hx hb dX8_needOrder_0 rfl (lv_at hl 0 rfl) ?_
  refine va_get (D := D) (ci := 8) (v := .ref nw) (C := RX8) (T := TX8) (N := 3) hx hb hts in8 hown hK hP 0 rfl rfl 0 (by decide) (hts (.fieldLink RX8 10 "Granary" "now" "LGranary$Stock;") (by decide +kernel)) (fun _ h9 => h9) rfl dX8_needOrder_1 ?_
  refine va_get (D := D) (ci := 6) (v := .ref aO) (C := RX6) (T := TX6) (N := 9) hx hb hts in6 hown hK hP 1 rfl rfl 5 (by decide) (hts (.fieldLink RX8 131 "Granary$Stock" "orders" "LGranary$Orders;") (by decide +kernel)) (fun _ h9 => h9) rfl dX8_needOrder_4 ?_
  refine lv_iload_n hx hb dX8_needOrder_7 rfl (lv_at hl 1 rfl) ?_
  have hPc := hP.sub (ws' := [(aO, .inr (2, [.int 0, .ref aO1, .ref aO2, .ref aO3, .ref aO4, .ref aO5, .ref aO6, .ref aO7, .ref aO8, .ref aO9, .ref aO10]))]) [2] rfl
  have hDc := hD.sub (ws' := [(aO, .inr (2, [.int 0, .ref aO1, .ref aO2, .ref aO3, .ref aO4, .ref aO5, .ref aO6, .ref aO7, .ref aO8, .ref aO9, .ref aO10]))]) [2] (by decide) rfl
  refine vp_callSi (W.runV (As := [.int i]) (rest := []) ⟨hx, hb, hml, hown, hts⟩ (c_X2_has l D cI cZ cJ lo s.heap.size aO aO1 aO2 aO3 aO4 aO5 aO6 aO7 aO8 aO9 aO10 i) (cwV 1 hts gX8_needOrder_X2_has rfl rfl rfl (by decide +kernel) ⟨(Nat.le_of_ble_eq_true rfl), (Nat.le_of_ble_eq_true rfl)⟩) ⟨Pre.blind, va_recv hK hP (ci := 2) (q0 := 2) rfl rfl, Pre.mk hPc (hDc.weaken (fun _ _ _ h => hAlo _ h)) hC hS hAlo⟩ rfl rfl hl.1 rfl (lv_room (Nat.le_of_ble_eq_true rfl)) dX8_needOrder_8 ⟨(Nat.le_of_ble_eq_true rfl), (Nat.le_of_ble_eq_true rfl)⟩) (fun r_1 e_2 => ?_)
  have e_2 : r_1 = 0 := e_2
  subst e_2
  have hPc := hP.sub (ws' := []) [] rfl
  have hDc := hD.sub (ws' := []) [] (by decide) rfl
  have hFc := va_free (wc := []) hD hS hA [] rfl
  refine vx_callv (vx_runS (As := [.int 0]) (rest := []) ⟨hx, hb, hml, hown, hts⟩ (c_needIndex l hl9 D cI cZ cJ lo s.heap.size 0) (va_cwS 1 hts gX8_needOrder_X8_needIndex rfl rfl rfl (by decide +kernel) ⟨(Nat.le_of_ble_eq_true rfl), (Nat.le_of_ble_eq_true rfl)⟩) ⟨Pre.blind, Pre.mk hPc (hDc.weaken (fun _ _ _ h => hAlo _ h)) hC hS hAlo⟩ rfl rfl hl.1 rfl (lv_room (Nat.le_of_ble_eq_true rfl)) dX8_needOrder_11 ⟨(Nat.le_of_ble_eq_true rfl), (Nat.le_of_ble_eq_true rfl)⟩) hS (fun q _ h => hFc q h) hFc (fun q _ h => hFc q h) (fun E ce q9 u t H1 locs1 ht hvm hpx hbx hz1 hk1 hS1 hce hcv hcl => ?_) (fun u t H1 locs1 ht hvm e_3 hB hz1 hk1 hS1 => ?_)
  · have px_4 : (0 : Int32) = 0 := hpx
    have hE : E = "java/lang/IndexOutOfBoundsException" := hbx
    subst hE
    exact vx_out (fun x9 h9 => (ht9 x9 h9).elim) hlocks hce hcv hcl (fun t9 ht9b _ => ⟨(), trivial, rfl, hS1.F ht9b⟩) hS1.2.2 (by omega) (by omega)
  · exact absurd rfl e_3

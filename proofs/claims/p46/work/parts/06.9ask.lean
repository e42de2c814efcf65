def sg_X0_has (P : sg_Pic) (x : Int32) : Int32 := (if x < 0 then 0 else (if (P 0 1) ≤ x then 0 else 1))

set_option maxHeartbeats 4000000 in
set_option maxRecDepth 100000 in
/-- X0_has -/
theorem c_X0_has (l : Launch) (D : va_G) (cI cZ cJ : ClassId) (lo sz : Nat) (a : Nat → Nat) (P : sg_Pic) (x : Int32) : Met l yX0_has wsX0_has ({ frames := 0, cells := 0, slots := 0, locals := 0 }) (Pre lo D cI cZ cJ [.ref (a 1), .int x] sz [(a 1, .inr (0, [.int (P 0 1), .ref (a 10), .ref (a 11), .ref (a 12), .ref (a 13)]))]) (vp_Si (fun r => r = sg_X0_has P x)) 0 0 (fun _ => False) := by
  refine Met.ofW (cc := cX0_has) (maxL := 2) (ret := (some .boolean)) (by decide) rfl ?_
  intro p e s m args below meth c s₁ B hml hv
  obtain ⟨rfl, hsz, hP, hD0, hC⟩ := hv
  have hx := B.exec
  have hb := B.bytes
  have hr := B.returns
  have hts := atoms_spec (ws := wsX0_has) B.pre
  have hown : s.vm.findClass RX0 = some m.cls := findClass_of_methodNamed B.named
  have hlocks := B.notSynchronized
  subst hsz
  have hK := hC.K
  have hD := hD0
  have hS : va_S (fun q => lo ≤ q) s.heap s.heap [] := va_S.rf
  have hAlo : ∀ q, (fun q => lo ≤ q) q → lo ≤ q := fun _ h => h
  have hL : ∀ q ∈ ([] : List Loc), (fun _ : Addr => False) q.base := fun q h => by cases h
  have hP : va_P D vwCl [(a 1, .inr (0, [.int (P 0 1), .ref (a 10), .ref (a 11), .ref (a 12), .ref (a 13)]))] s.heap := hP
  have hl := lv_entry ([.ref (a 1), .int x]) (n := 2) (Nat.le_of_ble_eq_true rfl)
  rw [lg_entry_eq]
  generalize (lg_sl ([.ref (a 1), .int x]) ++ List.replicate (2 - (lg_sl ([.ref (a 1), .int x])).length) Slot.unset).toArray = ls at hl ⊢
  have hl : lv_has ls 2 [(0, .ref (a 1)), (1, .int x)] := hl
  have in0 : ∀ w ∈ u_ws RX0 TX0 5, w ∈ wsX0_has := by decide +kernel
  refine lv_iload_n hx hb dX0_has_0 rfl (lv_at hl 1 rfl) ?_
  refine lv_if_lt (tgt := 16) hx hb dX0_has_1 (by decide) (fun c_1 => ?_) (fun c_1 => ?_)
  · refine lv_iconst (v := 0) hx hb dX0_has_16 (by decide) ?_
    exact W.zret (ty := .boolean) (v := 0) hx hb hr (by decide) (fun t ht hW => ⟨0, rfl, (show (0 : Int32) = sg_X0_has P x from by rw [sg_X0_has, if_pos c_1]), ht⟩) hL dX0_has_17
  · refine lv_iload_n hx hb dX0_has_4 rfl (lv_at hl 1 rfl) ?_
    refine lv_aload_n hx hb dX0_has_5 rfl (lv_at hl 0 rfl) ?_
    refine va_get (D := D) (ci := 0) (v := .int (P 0 1)) (C := RX0) (T := TX0) (N := 5) hx hb hts in0 hown hK hP 0 rfl rfl 0 (by decide) (hts (.fieldLink RX0 24 "Granary$Items" "count" "I") (by decide +kernel)) (fun _ h9 => h9) rfl dX0_has_6 ?_
    refine lv_icmp_ge (tgt := 16) hx hb dX0_has_9 (by decide) (fun c_2 => ?_) (fun c_2 => ?_)
    · refine lv_iconst (v := 0) hx hb dX0_has_16 (by decide) ?_
      exact W.zret (ty := .boolean) (v := 0) hx hb hr (by decide) (fun t ht hW => ⟨0, rfl, (show (0 : Int32) = sg_X0_has P x from by rw [sg_X0_has, if_neg c_1, if_pos c_2]), ht⟩) hL dX0_has_17
    · refine lv_iconst (v := 1) hx hb dX0_has_12 (by decide) ?_
      refine lv_goto (tgt := 17) hx hb dX0_has_13 (by decide) ?_
      exact W.zret (ty := .boolean) (v := 1) hx hb hr (by decide) (fun t ht hW => ⟨1, rfl, (show (1 : Int32) = sg_X0_has P x from by rw [sg_X0_has, if_neg c_1, if_neg c_2]), ht⟩) hL dX0_has_17

def sg_X5_has (P : sg_Pic) (x : Int32) : Int32 := (if x < 0 then 0 else (if (P 0 2) ≤ x then 0 else 1))

set_option maxHeartbeats 4000000 in
set_option maxRecDepth 100000 in
/-- X5_has -/
theorem c_X5_has (l : Launch) (D : va_G) (cI cZ cJ : ClassId) (lo sz : Nat) (a : Nat → Nat) (P : sg_Pic) (x : Int32) : Met l yX5_has wsX5_has ({ frames := 0, cells := 0, slots := 0, locals := 0 }) (Pre lo D cI cZ cJ [.ref (a 2), .int x] sz [(a 2, .inr (5, [.int (P 0 2), .ref (a 20), .ref (a 21)]))]) (vp_Si (fun r => r = sg_X5_has P x)) 0 0 (fun _ => False) := by
  refine Met.ofW (cc := cX5_has) (maxL := 2) (ret := (some .boolean)) (by decide) rfl ?_
  intro p e s m args below meth c s₁ B hml hv
  obtain ⟨rfl, hsz, hP, hD0, hC⟩ := hv
  have hx := B.exec
  have hb := B.bytes
  have hr := B.returns
  have hts := atoms_spec (ws := wsX5_has) B.pre
  have hown : s.vm.findClass RX5 = some m.cls := findClass_of_methodNamed B.named
  have hlocks := B.notSynchronized
  subst hsz
  have hK := hC.K
  have hD := hD0
  have hS : va_S (fun q => lo ≤ q) s.heap s.heap [] := va_S.rf
  have hAlo : ∀ q, (fun q => lo ≤ q) q → lo ≤ q := fun _ h => h
  have hL : ∀ q ∈ ([] : List Loc), (fun _ : Addr => False) q.base := fun q h => by cases h
  have hP : va_P D vwCl [(a 2, .inr (5, [.int (P 0 2), .ref (a 20), .ref (a 21)]))] s.heap := hP
  have hl := lv_entry ([.ref (a 2), .int x]) (n := 2) (Nat.le_of_ble_eq_true rfl)
  rw [lg_entry_eq]
  generalize (lg_sl ([.ref (a 2), .int x]) ++ List.replicate (2 - (lg_sl ([.ref (a 2), .int x])).length) Slot.unset).toArray = ls at hl ⊢
  have hl : lv_has ls 2 [(0, .ref (a 2)), (1, .int x)] := hl
  have in5 : ∀ w ∈ u_ws RX5 TX5 3, w ∈ wsX5_has := by decide +kernel
  refine lv_iload_n hx hb dX5_has_0 rfl (lv_at hl 1 rfl) ?_
  refine lv_if_lt (tgt := 16) hx hb dX5_has_1 (by decide) (fun c_1 => ?_) (fun c_1 => ?_)
  · refine lv_iconst (v := 0) hx hb dX5_has_16 (by decide) ?_
    exact W.zret (ty := .boolean) (v := 0) hx hb hr (by decide) (fun t ht hW => ⟨0, rfl, (show (0 : Int32) = sg_X5_has P x from by rw [sg_X5_has, if_pos c_1]), ht⟩) hL dX5_has_17
  · refine lv_iload_n hx hb dX5_has_4 rfl (lv_at hl 1 rfl) ?_
    refine lv_aload_n hx hb dX5_has_5 rfl (lv_at hl 0 rfl) ?_
    refine va_get (D := D) (ci := 5) (v := .int (P 0 2)) (C := RX5) (T := TX5) (N := 3) hx hb hts in5 hown hK hP 0 rfl rfl 0 (by decide) (hts (.fieldLink RX5 18 "Granary$Sites" "count" "I") (by decide +kernel)) (fun _ h9 => h9) rfl dX5_has_6 ?_
    refine lv_icmp_ge (tgt := 16) hx hb dX5_has_9 (by decide) (fun c_2 => ?_) (fun c_2 => ?_)
    · refine lv_iconst (v := 0) hx hb dX5_has_16 (by decide) ?_
      exact W.zret (ty := .boolean) (v := 0) hx hb hr (by decide) (fun t ht hW => ⟨0, rfl, (show (0 : Int32) = sg_X5_has P x from by rw [sg_X5_has, if_neg c_1, if_pos c_2]), ht⟩) hL dX5_has_17
    · refine lv_iconst (v := 1) hx hb dX5_has_12 (by decide) ?_
      refine lv_goto (tgt := 17) hx hb dX5_has_13 (by decide) ?_
      exact W.zret (ty := .boolean) (v := 1) hx hb hr (by decide) (fun t ht hW => ⟨1, rfl, (show (1 : Int32) = sg_X5_has P x from by rw [sg_X5_has, if_neg c_1, if_neg c_2]), ht⟩) hL dX5_has_17

def sg_X1_has (P : sg_Pic) (x : Int32) : Int32 := (if x < 0 then 0 else (if (P 0 3) ≤ x then 0 else 1))

set_option maxHeartbeats 4000000 in
set_option maxRecDepth 100000 in
/-- X1_has -/
theorem c_X1_has (l : Launch) (D : va_G) (cI cZ cJ : ClassId) (lo sz : Nat) (a : Nat → Nat) (P : sg_Pic) (x : Int32) : Met l yX1_has wsX1_has ({ frames := 0, cells := 0, slots := 0, locals := 0 }) (Pre lo D cI cZ cJ [.ref (a 4), .int x] sz [(a 4, .inr (1, [.int (P 0 3), .ref (a 40), .ref (a 41), .ref (a 42), .ref (a 43), .ref (a 44)]))]) (vp_Si (fun r => r = sg_X1_has P x)) 0 0 (fun _ => False) := by
  refine Met.ofW (cc := cX1_has) (maxL := 2) (ret := (some .boolean)) (by decide) rfl ?_
  intro p e s m args below meth c s₁ B hml hv
  obtain ⟨rfl, hsz, hP, hD0, hC⟩ := hv
  have hx := B.exec
  have hb := B.bytes
  have hr := B.returns
  have hts := atoms_spec (ws := wsX1_has) B.pre
  have hown : s.vm.findClass RX1 = some m.cls := findClass_of_methodNamed B.named
  have hlocks := B.notSynchronized
  subst hsz
  have hK := hC.K
  have hD := hD0
  have hS : va_S (fun q => lo ≤ q) s.heap s.heap [] := va_S.rf
  have hAlo : ∀ q, (fun q => lo ≤ q) q → lo ≤ q := fun _ h => h
  have hL : ∀ q ∈ ([] : List Loc), (fun _ : Addr => False) q.base := fun q h => by cases h
  have hP : va_P D vwCl [(a 4, .inr (1, [.int (P 0 3), .ref (a 40), .ref (a 41), .ref (a 42), .ref (a 43), .ref (a 44)]))] s.heap := hP
  have hl := lv_entry ([.ref (a 4), .int x]) (n := 2) (Nat.le_of_ble_eq_true rfl)
  rw [lg_entry_eq]
  generalize (lg_sl ([.ref (a 4), .int x]) ++ List.replicate (2 - (lg_sl ([.ref (a 4), .int x])).length) Slot.unset).toArray = ls at hl ⊢
  have hl : lv_has ls 2 [(0, .ref (a 4)), (1, .int x)] := hl
  have in1 : ∀ w ∈ u_ws RX1 TX1 6, w ∈ wsX1_has := by decide +kernel
  refine lv_iload_n hx hb dX1_has_0 rfl (lv_at hl 1 rfl) ?_
  refine lv_if_lt (tgt := 16) hx hb dX1_has_1 (by decide) (fun c_1 => ?_) (fun c_1 => ?_)
  · refine lv_iconst (v := 0) hx hb dX1_has_16 (by decide) ?_
    exact W.zret (ty := .boolean) (v := 0) hx hb hr (by decide) (fun t ht hW => ⟨0, rfl, (show (0 : Int32) = sg_X1_has P x from by rw [sg_X1_has, if_pos c_1]), ht⟩) hL dX1_has_17
  · refine lv_iload_n hx hb dX1_has_4 rfl (lv_at hl 1 rfl) ?_
    refine lv_aload_n hx hb dX1_has_5 rfl (lv_at hl 0 rfl) ?_
    refine va_get (D := D) (ci := 1) (v := .int (P 0 3)) (C := RX1) (T := TX1) (N := 6) hx hb hts in1 hown hK hP 0 rfl rfl 0 (by decide) (hts (.fieldLink RX1 27 "Granary$Lots" "count" "I") (by decide +kernel)) (fun _ h9 => h9) rfl dX1_has_6 ?_
    refine lv_icmp_ge (tgt := 16) hx hb dX1_has_9 (by decide) (fun c_2 => ?_) (fun c_2 => ?_)
    · refine lv_iconst (v := 0) hx hb dX1_has_16 (by decide) ?_
      exact W.zret (ty := .boolean) (v := 0) hx hb hr (by decide) (fun t ht hW => ⟨0, rfl, (show (0 : Int32) = sg_X1_has P x from by rw [sg_X1_has, if_neg c_1, if_pos c_2]), ht⟩) hL dX1_has_17
    · refine lv_iconst (v := 1) hx hb dX1_has_12 (by decide) ?_
      refine lv_goto (tgt := 17) hx hb dX1_has_13 (by decide) ?_
      exact W.zret (ty := .boolean) (v := 1) hx hb hr (by decide) (fun t ht hW => ⟨1, rfl, (show (1 : Int32) = sg_X1_has P x from by rw [sg_X1_has, if_neg c_1, if_neg c_2]), ht⟩) hL dX1_has_17

def sg_X2_has (P : sg_Pic) (x : Int32) : Int32 := (if x < 0 then 0 else (if (P 0 4) ≤ x then 0 else 1))

set_option maxHeartbeats 4000000 in
set_option maxRecDepth 100000 in
/-- X2_has -/
theorem c_X2_has (l : Launch) (D : va_G) (cI cZ cJ : ClassId) (lo sz : Nat) (a : Nat → Nat) (P : sg_Pic) (x : Int32) : Met l yX2_has wsX2_has ({ frames := 0, cells := 0, slots := 0, locals := 0 }) (Pre lo D cI cZ cJ [.ref (a 5), .int x] sz [(a 5, .inr (2, [.int (P 0 4), .ref (a 50), .ref (a 51), .ref (a 52), .ref (a 53), .ref (a 54), .ref (a 55), .ref (a 56), .ref (a 57), .ref (a 58), .ref (a 59)]))]) (vp_Si (fun r => r = sg_X2_has P x)) 0 0 (fun _ => False) := by
  refine Met.ofW (cc := cX2_has) (maxL := 2) (ret := (some .boolean)) (by decide) rfl ?_
  intro p e s m args below meth c s₁ B hml hv
  obtain ⟨rfl, hsz, hP, hD0, hC⟩ := hv
  have hx := B.exec
  have hb := B.bytes
  have hr := B.returns
  have hts := atoms_spec (ws := wsX2_has) B.pre
  have hown : s.vm.findClass RX2 = some m.cls := findClass_of_methodNamed B.named
  have hlocks := B.notSynchronized
  subst hsz
  have hK := hC.K
  have hD := hD0
  have hS : va_S (fun q => lo ≤ q) s.heap s.heap [] := va_S.rf
  have hAlo : ∀ q, (fun q => lo ≤ q) q → lo ≤ q := fun _ h => h
  have hL : ∀ q ∈ ([] : List Loc), (fun _ : Addr => False) q.base := fun q h => by cases h
  have hP : va_P D vwCl [(a 5, .inr (2, [.int (P 0 4), .ref (a 50), .ref (a 51), .ref (a 52), .ref (a 53), .ref (a 54), .ref (a 55), .ref (a 56), .ref (a 57), .ref (a 58), .ref (a 59)]))] s.heap := hP
  have hl := lv_entry ([.ref (a 5), .int x]) (n := 2) (Nat.le_of_ble_eq_true rfl)
  rw [lg_entry_eq]
  generalize (lg_sl ([.ref (a 5), .int x]) ++ List.replicate (2 - (lg_sl ([.ref (a 5), .int x])).length) Slot.unset).toArray = ls at hl ⊢
  have hl : lv_has ls 2 [(0, .ref (a 5)), (1, .int x)] := hl
  have in2 : ∀ w ∈ u_ws RX2 TX2 11, w ∈ wsX2_has := by decide +kernel
  refine lv_iload_n hx hb dX2_has_0 rfl (lv_at hl 1 rfl) ?_
  refine lv_if_lt (tgt := 16) hx hb dX2_has_1 (by decide) (fun c_1 => ?_) (fun c_1 => ?_)
  · refine lv_iconst (v := 0) hx hb dX2_has_16 (by decide) ?_
    exact W.zret (ty := .boolean) (v := 0) hx hb hr (by decide) (fun t ht hW => ⟨0, rfl, (show (0 : Int32) = sg_X2_has P x from by rw [sg_X2_has, if_pos c_1]), ht⟩) hL dX2_has_17
  · refine lv_iload_n hx hb dX2_has_4 rfl (lv_at hl 1 rfl) ?_
    refine lv_aload_n hx hb dX2_has_5 rfl (lv_at hl 0 rfl) ?_
    refine va_get (D := D) (ci := 2) (v := .int (P 0 4)) (C := RX2) (T := TX2) (N := 11) hx hb hts in2 hown hK hP 0 rfl rfl 0 (by decide) (hts (.fieldLink RX2 42 "Granary$Orders" "count" "I") (by decide +kernel)) (fun _ h9 => h9) rfl dX2_has_6 ?_
    refine lv_icmp_ge (tgt := 16) hx hb dX2_has_9 (by decide) (fun c_2 => ?_) (fun c_2 => ?_)
    · refine lv_iconst (v := 0) hx hb dX2_has_16 (by decide) ?_
      exact W.zret (ty := .boolean) (v := 0) hx hb hr (by decide) (fun t ht hW => ⟨0, rfl, (show (0 : Int32) = sg_X2_has P x from by rw [sg_X2_has, if_neg c_1, if_pos c_2]), ht⟩) hL dX2_has_17
    · refine lv_iconst (v := 1) hx hb dX2_has_12 (by decide) ?_
      refine lv_goto (tgt := 17) hx hb dX2_has_13 (by decide) ?_
      exact W.zret (ty := .boolean) (v := 1) hx hb hr (by decide) (fun t ht hW => ⟨1, rfl, (show (1 : Int32) = sg_X2_has P x from by rw [sg_X2_has, if_neg c_1, if_neg c_2]), ht⟩) hL dX2_has_17

def sg_full (P : sg_Pic) : Int32 := (if (P 0 5) < 90 then 0 else 1)

set_option maxHeartbeats 4000000 in
set_option maxRecDepth 100000 in
/-- X7_full -/
theorem c_full (l : Launch) (D : va_G) (cI cZ cJ : ClassId) (lo sz : Nat) (a : Nat → Nat) (P : sg_Pic) : Met l yX7_full wsX7_full ({ frames := 0, cells := 0, slots := 0, locals := 0 }) (Pre lo D cI cZ cJ [.ref (a 6)] sz [(a 6, .inr (7, [.int (P 0 5), .ref (a 60), .ref (a 61), .ref (a 62), .ref (a 63), .ref (a 64), .ref (a 65)]))]) (vp_Si (fun r => r = sg_full P)) 0 0 (fun _ => False) := by
  refine Met.ofW (cc := cX7_full) (maxL := 1) (ret := (some .boolean)) (by decide) rfl ?_
  intro p e s m args below meth c s₁ B hml hv
  obtain ⟨rfl, hsz, hP, hD0, hC⟩ := hv
  have hx := B.exec
  have hb := B.bytes
  have hr := B.returns
  have hts := atoms_spec (ws := wsX7_full) B.pre
  have hown : s.vm.findClass RX7 = some m.cls := findClass_of_methodNamed B.named
  have hlocks := B.notSynchronized
  subst hsz
  have hK := hC.K
  have hD := hD0
  have hS : va_S (fun q => lo ≤ q) s.heap s.heap [] := va_S.rf
  have hAlo : ∀ q, (fun q => lo ≤ q) q → lo ≤ q := fun _ h => h
  have hL : ∀ q ∈ ([] : List Loc), (fun _ : Addr => False) q.base := fun q h => by cases h
  have hP : va_P D vwCl [(a 6, .inr (7, [.int (P 0 5), .ref (a 60), .ref (a 61), .ref (a 62), .ref (a 63), .ref (a 64), .ref (a 65)]))] s.heap := hP
  have hl := lv_entry ([.ref (a 6)]) (n := 1) (Nat.le_of_ble_eq_true rfl)
  rw [lg_entry_eq]
  generalize (lg_sl ([.ref (a 6)]) ++ List.replicate (1 - (lg_sl ([.ref (a 6)])).length) Slot.unset).toArray = ls at hl ⊢
  have hl : lv_has ls 1 [(0, .ref (a 6))] := hl
  have in7 : ∀ w ∈ u_ws RX7 TX7 7, w ∈ wsX7_full := by decide +kernel
  refine lv_aload_n hx hb dX7_full_0 rfl (lv_at hl 0 rfl) ?_
  refine va_get (D := D) (ci := 7) (v := .int (P 0 5)) (C := RX7) (T := TX7) (N := 7) hx hb hts in7 hown hK hP 0 rfl rfl 0 (by decide) (hts (.fieldLink RX7 30 "Granary$Transports" "count" "I") (by decide +kernel)) (fun _ h9 => h9) rfl dX7_full_1 ?_
  refine lv_bipush (v := 90) hx hb dX7_full_4 (by decide) ?_
  refine lv_icmp_lt (tgt := 13) hx hb dX7_full_6 (by decide) (fun c_1 => ?_) (fun c_1 => ?_)
  · refine lv_iconst (v := 0) hx hb dX7_full_13 (by decide) ?_
    exact W.zret (ty := .boolean) (v := 0) hx hb hr (by decide) (fun t ht hW => ⟨0, rfl, (show (0 : Int32) = sg_full P from by rw [sg_full, if_pos c_1]), ht⟩) hL dX7_full_14
  · refine lv_iconst (v := 1) hx hb dX7_full_9 (by decide) ?_
    refine lv_goto (tgt := 14) hx hb dX7_full_10 (by decide) ?_
    exact W.zret (ty := .boolean) (v := 1) hx hb hr (by decide) (fun t ht hW => ⟨1, rfl, (show (1 : Int32) = sg_full P from by rw [sg_full, if_neg c_1]), ht⟩) hL dX7_full_14

def sg_heldOf (P : sg_Pic) (xo : Nat) (xl : Nat) : Int32 := (P 59 ((xo * 200) + xl))

set_option maxHeartbeats 4000000 in
set_option maxRecDepth 100000 in
/-- X2_heldOf -/
theorem c_heldOf (l : Launch) (D : va_G) (cI cZ cJ : ClassId) (lo sz : Nat) (a : Nat → Nat) (P : sg_Pic) (xo : Nat) (xl : Nat) (ho : xo < 60) (hl0 : xl < 200) : Met l yX2_heldOf wsX2_heldOf ({ frames := 0, cells := 0, slots := 0, locals := 0 }) (Pre lo D cI cZ cJ [.ref (a 5), .int (nI xo), .int (nI xl)] sz [(a 5, .inr (2, [.int (P 0 4), .ref (a 50), .ref (a 51), .ref (a 52), .ref (a 53), .ref (a 54), .ref (a 55), .ref (a 56), .ref (a 57), .ref (a 58), .ref (a 59)])), (a 59, .inl (cI, 12000, .inl (P 59)))]) (vp_Si (fun r => r = sg_heldOf P xo xl)) 0 0 (fun _ => False) := by
  refine Met.ofW (cc := cX2_heldOf) (maxL := 3) (ret := (some .int)) (by decide) rfl ?_
  intro p e s m args below meth c s₁ B hml hv
  obtain ⟨rfl, hsz, hP, hD0, hC⟩ := hv
  have hx := B.exec
  have hb := B.bytes
  have hr := B.returns
  have hts := atoms_spec (ws := wsX2_heldOf) B.pre
  have hown : s.vm.findClass RX2 = some m.cls := findClass_of_methodNamed B.named
  have hlocks := B.notSynchronized
  subst hsz
  have hK := hC.K
  have hD := hD0
  have hS : va_S (fun q => lo ≤ q) s.heap s.heap [] := va_S.rf
  have hAlo : ∀ q, (fun q => lo ≤ q) q → lo ≤ q := fun _ h => h
  have hL : ∀ q ∈ ([] : List Loc), (fun _ : Addr => False) q.base := fun q h => by cases h
  have hP : va_P D vwCl [(a 5, .inr (2, [.int (P 0 4), .ref (a 50), .ref (a 51), .ref (a 52), .ref (a 53), .ref (a 54), .ref (a 55), .ref (a 56), .ref (a 57), .ref (a 58), .ref (a 59)])), (a 59, .inl (cI, 12000, .inl (P 59)))] s.heap := hP
  have hl := lv_entry ([.ref (a 5), .int (nI xo), .int (nI xl)]) (n := 3) (Nat.le_of_ble_eq_true rfl)
  rw [lg_entry_eq]
  generalize (lg_sl ([.ref (a 5), .int (nI xo), .int (nI xl)]) ++ List.replicate (3 - (lg_sl ([.ref (a 5), .int (nI xo), .int (nI xl)])).length) Slot.unset).toArray = ls at hl ⊢
  have hl : lv_has ls 3 [(0, .ref (a 5)), (1, .int (nI xo)), (2, .int (nI xl))] := hl
  have in2 : ∀ w ∈ u_ws RX2 TX2 11, w ∈ wsX2_heldOf := by decide +kernel
  refine lv_aload_n hx hb dX2_heldOf_0 rfl (lv_at hl 0 rfl) ?_
  refine va_get (D := D) (ci := 2) (v := .ref (a 59)) (C := RX2) (T := TX2) (N := 11) hx hb hts in2 hown hK hP 0 rfl rfl 10 (by decide) (hts (.fieldLink RX2 39 "Granary$Orders" "held" "[I") (by decide +kernel)) (fun _ h9 => h9) rfl dX2_heldOf_1 ?_
  refine lv_iload_n hx hb dX2_heldOf_4 rfl (lv_at hl 1 rfl) ?_
  refine lv_sipush (v := 200) hx hb dX2_heldOf_5 (by decide) ?_
  refine lv_imul hx hb dX2_heldOf_8 ?_
  refine lv_toi (y := nI (xo * 200)) (sg_mulN xo 200) ?_
  refine lv_iload_n hx hb dX2_heldOf_9 rfl (lv_at hl 2 rfl) ?_
  refine lv_iadd hx hb dX2_heldOf_10 ?_
  refine lv_toi (y := nI ((xo * 200) + xl)) (nI_add (xo * 200) xl) ?_
  refine sg_iald hx hb hK hP 1 0 rfl rfl (j := (xo * 200) + xl) rfl (by omega) (Nat.le_of_ble_eq_true rfl) dX2_heldOf_11 ?_
  refine lv_toi (y := P 59 ((xo * 200) + xl)) rfl ?_
  exact W.iret (v := (P 59 ((xo * 200) + xl))) hx hb hr (fun t ht hW => ⟨(P 59 ((xo * 200) + xl)), rfl, rfl, ht⟩) hL dX2_heldOf_12

def sg_missing (P : sg_Pic) (xo : Nat) : Int32 := ((P 52 xo) - (P 53 xo))

set_option maxHeartbeats 4000000 in
set_option maxRecDepth 100000 in
/-- X2_missing -/
theorem c_missing (l : Launch) (D : va_G) (cI cZ cJ : ClassId) (lo sz : Nat) (a : Nat → Nat) (P : sg_Pic) (xo : Nat) (ho : xo < 60) : Met l yX2_missing wsX2_missing ({ frames := 0, cells := 0, slots := 0, locals := 0 }) (Pre lo D cI cZ cJ [.ref (a 5), .int (nI xo)] sz [(a 5, .inr (2, [.int (P 0 4), .ref (a 50), .ref (a 51), .ref (a 52), .ref (a 53), .ref (a 54), .ref (a 55), .ref (a 56), .ref (a 57), .ref (a 58), .ref (a 59)])), (a 52, .inl (cI, 60, .inl (P 52))), (a 53, .inl (cI, 60, .inl (P 53)))]) (vp_Si (fun r => r = sg_missing P xo)) 0 0 (fun _ => False) := by
  refine Met.ofW (cc := cX2_missing) (maxL := 2) (ret := (some .int)) (by decide) rfl ?_
  intro p e s m args below meth c s₁ B hml hv
  obtain ⟨rfl, hsz, hP, hD0, hC⟩ := hv
  have hx := B.exec
  have hb := B.bytes
  have hr := B.returns
  have hts := atoms_spec (ws := wsX2_missing) B.pre
  have hown : s.vm.findClass RX2 = some m.cls := findClass_of_methodNamed B.named
  have hlocks := B.notSynchronized
  subst hsz
  have hK := hC.K
  have hD := hD0
  have hS : va_S (fun q => lo ≤ q) s.heap s.heap [] := va_S.rf
  have hAlo : ∀ q, (fun q => lo ≤ q) q → lo ≤ q := fun _ h => h
  have hL : ∀ q ∈ ([] : List Loc), (fun _ : Addr => False) q.base := fun q h => by cases h
  have hP : va_P D vwCl [(a 5, .inr (2, [.int (P 0 4), .ref (a 50), .ref (a 51), .ref (a 52), .ref (a 53), .ref (a 54), .ref (a 55), .ref (a 56), .ref (a 57), .ref (a 58), .ref (a 59)])), (a 52, .inl (cI, 60, .inl (P 52))), (a 53, .inl (cI, 60, .inl (P 53)))] s.heap := hP
  have hl := lv_entry ([.ref (a 5), .int (nI xo)]) (n := 2) (Nat.le_of_ble_eq_true rfl)
  rw [lg_entry_eq]
  generalize (lg_sl ([.ref (a 5), .int (nI xo)]) ++ List.replicate (2 - (lg_sl ([.ref (a 5), .int (nI xo)])).length) Slot.unset).toArray = ls at hl ⊢
  have hl : lv_has ls 2 [(0, .ref (a 5)), (1, .int (nI xo))] := hl
  have in2 : ∀ w ∈ u_ws RX2 TX2 11, w ∈ wsX2_missing := by decide +kernel
  refine lv_aload_n hx hb dX2_missing_0 rfl (lv_at hl 0 rfl) ?_
  refine va_get (D := D) (ci := 2) (v := .ref (a 52)) (C := RX2) (T := TX2) (N := 11) hx hb hts in2 hown hK hP 0 rfl rfl 3 (by decide) (hts (.fieldLink RX2 18 "Granary$Orders" "units" "[I") (by decide +kernel)) (fun _ h9 => h9) rfl dX2_missing_1 ?_
  refine lv_iload_n hx hb dX2_missing_4 rfl (lv_at hl 1 rfl) ?_
  refine sg_iald hx hb hK hP 1 0 rfl rfl (j := xo) rfl (by omega) (Nat.le_of_ble_eq_true rfl) dX2_missing_5 ?_
  refine lv_toi (y := P 52 xo) rfl ?_
  refine lv_aload_n hx hb dX2_missing_6 rfl (lv_at hl 0 rfl) ?_
  refine va_get (D := D) (ci := 2) (v := .ref (a 53)) (C := RX2) (T := TX2) (N := 11) hx hb hts in2 hown hK hP 0 rfl rfl 4 (by decide) (hts (.fieldLink RX2 21 "Granary$Orders" "reserved" "[I") (by decide +kernel)) (fun _ h9 => h9) rfl dX2_missing_7 ?_
  refine lv_iload_n hx hb dX2_missing_10 rfl (lv_at hl 1 rfl) ?_
  refine sg_iald hx hb hK hP 2 0 rfl rfl (j := xo) rfl (by omega) (Nat.le_of_ble_eq_true rfl) dX2_missing_11 ?_
  refine lv_toi (y := P 53 xo) rfl ?_
  refine lv_isub hx hb dX2_missing_12 ?_
  exact W.iret (v := ((P 52 xo) - (P 53 xo))) hx hb hr (fun t ht hW => ⟨((P 52 xo) - (P 53 xo)), rfl, rfl, ht⟩) hL dX2_missing_13

def sg_isFrom (P : sg_Pic) (xo : Nat) (x : Int32) (y : Int32) : Int32 := (if (P 50 xo) = x then (if (P 51 xo) = y then 1 else 0) else 0)

set_option maxHeartbeats 4000000 in
set_option maxRecDepth 100000 in
/-- X2_isFrom -/
theorem c_isFrom (l : Launch) (D : va_G) (cI cZ cJ : ClassId) (lo sz : Nat) (a : Nat → Nat) (P : sg_Pic) (xo : Nat) (x : Int32) (y : Int32) (ho : xo < 60) : Met l yX2_isFrom wsX2_isFrom ({ frames := 0, cells := 0, slots := 0, locals := 0 }) (Pre lo D cI cZ cJ [.ref (a 5), .int (nI xo), .int x, .int y] sz [(a 5, .inr (2, [.int (P 0 4), .ref (a 50), .ref (a 51), .ref (a 52), .ref (a 53), .ref (a 54), .ref (a 55), .ref (a 56), .ref (a 57), .ref (a 58), .ref (a 59)])), (a 50, .inl (cI, 60, .inl (P 50))), (a 51, .inl (cI, 60, .inl (P 51)))]) (vp_Si (fun r => r = sg_isFrom P xo x y)) 0 0 (fun _ => False) := by
  refine Met.ofW (cc := cX2_isFrom) (maxL := 4) (ret := (some .boolean)) (by decide) rfl ?_
  intro p e s m args below meth c s₁ B hml hv
  obtain ⟨rfl, hsz, hP, hD0, hC⟩ := hv
  have hx := B.exec
  have hb := B.bytes
  have hr := B.returns
  have hts := atoms_spec (ws := wsX2_isFrom) B.pre
  have hown : s.vm.findClass RX2 = some m.cls := findClass_of_methodNamed B.named
  have hlocks := B.notSynchronized
  subst hsz
  have hK := hC.K
  have hD := hD0
  have hS : va_S (fun q => lo ≤ q) s.heap s.heap [] := va_S.rf
  have hAlo : ∀ q, (fun q => lo ≤ q) q → lo ≤ q := fun _ h => h
  have hL : ∀ q ∈ ([] : List Loc), (fun _ : Addr => False) q.base := fun q h => by cases h
  have hP : va_P D vwCl [(a 5, .inr (2, [.int (P 0 4), .ref (a 50), .ref (a 51), .ref (a 52), .ref (a 53), .ref (a 54), .ref (a 55), .ref (a 56), .ref (a 57), .ref (a 58), .ref (a 59)])), (a 50, .inl (cI, 60, .inl (P 50))), (a 51, .inl (cI, 60, .inl (P 51)))] s.heap := hP
  have hl := lv_entry ([.ref (a 5), .int (nI xo), .int x, .int y]) (n := 4) (Nat.le_of_ble_eq_true rfl)
  rw [lg_entry_eq]
  generalize (lg_sl ([.ref (a 5), .int (nI xo), .int x, .int y]) ++ List.replicate (4 - (lg_sl ([.ref (a 5), .int (nI xo), .int x, .int y])).length) Slot.unset).toArray = ls at hl ⊢
  have hl : lv_has ls 4 [(0, .ref (a 5)), (1, .int (nI xo)), (2, .int x), (3, .int y)] := hl
  have in2 : ∀ w ∈ u_ws RX2 TX2 11, w ∈ wsX2_isFrom := by decide +kernel
  refine lv_aload_n hx hb dX2_isFrom_0 rfl (lv_at hl 0 rfl) ?_
  refine va_get (D := D) (ci := 2) (v := .ref (a 50)) (C := RX2) (T := TX2) (N := 11) hx hb hts in2 hown hK hP 0 rfl rfl 1 (by decide) (hts (.fieldLink RX2 9 "Granary$Orders" "item" "[I") (by decide +kernel)) (fun _ h9 => h9) rfl dX2_isFrom_1 ?_
  refine lv_iload_n hx hb dX2_isFrom_4 rfl (lv_at hl 1 rfl) ?_
  refine sg_iald hx hb hK hP 1 0 rfl rfl (j := xo) rfl (by omega) (Nat.le_of_ble_eq_true rfl) dX2_isFrom_5 ?_
  refine lv_toi (y := P 50 xo) rfl ?_
  refine lv_iload_n hx hb dX2_isFrom_6 rfl (lv_at hl 2 rfl) ?_
  refine lv_icmp_ne (tgt := 24) hx hb dX2_isFrom_7 (by decide) (fun c_1 => ?_) (fun c_1 => ?_)
  · refine lv_iconst (v := 0) hx hb dX2_isFrom_24 (by decide) ?_
    exact W.zret (ty := .boolean) (v := 0) hx hb hr (by decide) (fun t ht hW => ⟨0, rfl, (show (0 : Int32) = sg_isFrom P xo x y from by rw [sg_isFrom, if_neg c_1]), ht⟩) hL dX2_isFrom_25
  · refine lv_aload_n hx hb dX2_isFrom_10 rfl (lv_at hl 0 rfl) ?_
    refine va_get (D := D) (ci := 2) (v := .ref (a 51)) (C := RX2) (T := TX2) (N := 11) hx hb hts in2 hown hK hP 0 rfl rfl 2 (by decide) (hts (.fieldLink RX2 15 "Granary$Orders" "site" "[I") (by decide +kernel)) (fun _ h9 => h9) rfl dX2_isFrom_11 ?_
    refine lv_iload_n hx hb dX2_isFrom_14 rfl (lv_at hl 1 rfl) ?_
    refine sg_iald hx hb hK hP 2 0 rfl rfl (j := xo) rfl (by omega) (Nat.le_of_ble_eq_true rfl) dX2_isFrom_15 ?_
    refine lv_toi (y := P 51 xo) rfl ?_
    refine lv_iload_n hx hb dX2_isFrom_16 rfl (lv_at hl 3 rfl) ?_
    refine lv_icmp_ne (tgt := 24) hx hb dX2_isFrom_17 (by decide) (fun c_2 => ?_) (fun c_2 => ?_)
    · refine lv_iconst (v := 0) hx hb dX2_isFrom_24 (by decide) ?_
      exact W.zret (ty := .boolean) (v := 0) hx hb hr (by decide) (fun t ht hW => ⟨0, rfl, (show (0 : Int32) = sg_isFrom P xo x y from by rw [sg_isFrom, if_pos c_1, if_neg c_2]), ht⟩) hL dX2_isFrom_25
    · refine lv_iconst (v := 1) hx hb dX2_isFrom_20 (by decide) ?_
      refine lv_goto (tgt := 25) hx hb dX2_isFrom_21 (by decide) ?_
      exact W.zret (ty := .boolean) (v := 1) hx hb hr (by decide) (fun t ht hW => ⟨1, rfl, (show (1 : Int32) = sg_isFrom P xo x y from by rw [sg_isFrom, if_pos c_1, if_pos c_2]), ht⟩) hL dX2_isFrom_25

def sg_comesAhead (P : sg_Pic) (xo : Nat) (xl : Nat) : Int32 := (if (P 55 xo) = (P 55 xl) then (if (P 54 xo) = (P 54 xl) then (if (nI xl) ≤ (nI xo) then 0 else 1) else (if (P 54 xl) ≤ (P 54 xo) then 0 else 1)) else (if (P 55 xl) ≤ (P 55 xo) then 0 else 1))

set_option maxHeartbeats 4000000 in
set_option maxRecDepth 100000 in
/-- X2_comesAhead -/
theorem c_comesAhead (l : Launch) (D : va_G) (cI cZ cJ : ClassId) (lo sz : Nat) (a : Nat → Nat) (P : sg_Pic) (xo : Nat) (xl : Nat) (ho : xo < 60) (ho2 : xl < 60) : Met l yX2_comesAhead wsX2_comesAhead ({ frames := 0, cells := 0, slots := 0, locals := 0 }) (Pre lo D cI cZ cJ [.ref (a 5), .int (nI xo), .int (nI xl)] sz [(a 5, .inr (2, [.int (P 0 4), .ref (a 50), .ref (a 51), .ref (a 52), .ref (a 53), .ref (a 54), .ref (a 55), .ref (a 56), .ref (a 57), .ref (a 58), .ref (a 59)])), (a 54, .inl (cI, 60, .inl (P 54))), (a 55, .inl (cI, 60, .inl (P 55)))]) (vp_Si (fun r => r = sg_comesAhead P xo xl)) 0 0 (fun _ => False) := by
  refine Met.ofW (cc := cX2_comesAhead) (maxL := 3) (ret := (some .boolean)) (by decide) rfl ?_
  intro p e s m args below meth c s₁ B hml hv
  obtain ⟨rfl, hsz, hP, hD0, hC⟩ := hv
  have hx := B.exec
  have hb := B.bytes
  have hr := B.returns
  have hts := atoms_spec (ws := wsX2_comesAhead) B.pre
  have hown : s.vm.findClass RX2 = some m.cls := findClass_of_methodNamed B.named
  have hlocks := B.notSynchronized
  subst hsz
  have hK := hC.K
  have hD := hD0
  have hS : va_S (fun q => lo ≤ q) s.heap s.heap [] := va_S.rf
  have hAlo : ∀ q, (fun q => lo ≤ q) q → lo ≤ q := fun _ h => h
  have hL : ∀ q ∈ ([] : List Loc), (fun _ : Addr => False) q.base := fun q h => by cases h
  have hP : va_P D vwCl [(a 5, .inr (2, [.int (P 0 4), .ref (a 50), .ref (a 51), .ref (a 52), .ref (a 53), .ref (a 54), .ref (a 55), .ref (a 56), .ref (a 57), .ref (a 58), .ref (a 59)])), (a 54, .inl (cI, 60, .inl (P 54))), (a 55, .inl (cI, 60, .inl (P 55)))] s.heap := hP
  have hl := lv_entry ([.ref (a 5), .int (nI xo), .int (nI xl)]) (n := 3) (Nat.le_of_ble_eq_true rfl)
  rw [lg_entry_eq]
  generalize (lg_sl ([.ref (a 5), .int (nI xo), .int (nI xl)]) ++ List.replicate (3 - (lg_sl ([.ref (a 5), .int (nI xo), .int (nI xl)])).length) Slot.unset).toArray = ls at hl ⊢
  have hl : lv_has ls 3 [(0, .ref (a 5)), (1, .int (nI xo)), (2, .int (nI xl))] := hl
  have in2 : ∀ w ∈ u_ws RX2 TX2 11, w ∈ wsX2_comesAhead := by decide +kernel
  refine lv_aload_n hx hb dX2_comesAhead_0 rfl (lv_at hl 0 rfl) ?_
  refine va_get (D := D) (ci := 2) (v := .ref (a 55)) (C := RX2) (T := TX2) (N := 11) hx hb hts in2 hown hK hP 0 rfl rfl 6 (by decide) (hts (.fieldLink RX2 27 "Granary$Orders" "rank" "[I") (by decide +kernel)) (fun _ h9 => h9) rfl dX2_comesAhead_1 ?_
  refine lv_iload_n hx hb dX2_comesAhead_4 rfl (lv_at hl 1 rfl) ?_
  refine sg_iald hx hb hK hP 2 0 rfl rfl (j := xo) rfl (by omega) (Nat.le_of_ble_eq_true rfl) dX2_comesAhead_5 ?_
  refine lv_toi (y := P 55 xo) rfl ?_
  refine lv_aload_n hx hb dX2_comesAhead_6 rfl (lv_at hl 0 rfl) ?_
  refine va_get (D := D) (ci := 2) (v := .ref (a 55)) (C := RX2) (T := TX2) (N := 11) hx hb hts in2 hown hK hP 0 rfl rfl 6 (by decide) (hts (.fieldLink RX2 27 "Granary$Orders" "rank" "[I") (by decide +kernel)) (fun _ h9 => h9) rfl dX2_comesAhead_7 ?_
  refine lv_iload_n hx hb dX2_comesAhead_10 rfl (lv_at hl 2 rfl) ?_
  refine sg_iald hx hb hK hP 2 0 rfl rfl (j := xl) rfl (by omega) (Nat.le_of_ble_eq_true rfl) dX2_comesAhead_11 ?_
  refine lv_toi (y := P 55 xl) rfl ?_
  refine lv_icmp_eq (tgt := 36) hx hb dX2_comesAhead_12 (by decide) (fun c_1 => ?_) (fun c_1 => ?_)
  · refine lv_aload_n hx hb dX2_comesAhead_36 rfl (lv_at hl 0 rfl) ?_
    refine va_get (D := D) (ci := 2) (v := .ref (a 54)) (C := RX2) (T := TX2) (N := 11) hx hb hts in2 hown hK hP 0 rfl rfl 5 (by decide) (hts (.fieldLink RX2 24 "Granary$Orders" "due" "[I") (by decide +kernel)) (fun _ h9 => h9) rfl dX2_comesAhead_37 ?_
    refine lv_iload_n hx hb dX2_comesAhead_40 rfl (lv_at hl 1 rfl) ?_
    refine sg_iald hx hb hK hP 1 0 rfl rfl (j := xo) rfl (by omega) (Nat.le_of_ble_eq_true rfl) dX2_comesAhead_41 ?_
    refine lv_toi (y := P 54 xo) rfl ?_
    refine lv_aload_n hx hb dX2_comesAhead_42 rfl (lv_at hl 0 rfl) ?_
    refine va_get (D := D) (ci := 2) (v := .ref (a 54)) (C := RX2) (T := TX2) (N := 11) hx hb hts in2 hown hK hP 0 rfl rfl 5 (by decide) (hts (.fieldLink RX2 24 "Granary$Orders" "due" "[I") (by decide +kernel)) (fun _ h9 => h9) rfl dX2_comesAhead_43 ?_
    refine lv_iload_n hx hb dX2_comesAhead_46 rfl (lv_at hl 2 rfl) ?_
    refine sg_iald hx hb hK hP 1 0 rfl rfl (j := xl) rfl (by omega) (Nat.le_of_ble_eq_true rfl) dX2_comesAhead_47 ?_
    refine lv_toi (y := P 54 xl) rfl ?_
    refine lv_icmp_eq (tgt := 72) hx hb dX2_comesAhead_48 (by decide) (fun c_2 => ?_) (fun c_2 => ?_)
    · refine lv_iload_n hx hb dX2_comesAhead_72 rfl (lv_at hl 1 rfl) ?_
      refine lv_iload_n hx hb dX2_comesAhead_73 rfl (lv_at hl 2 rfl) ?_
      refine lv_icmp_ge (tgt := 81) hx hb dX2_comesAhead_74 (by decide) (fun c_3 => ?_) (fun c_3 => ?_)
      · refine lv_iconst (v := 0) hx hb dX2_comesAhead_81 (by decide) ?_
        exact W.zret (ty := .boolean) (v := 0) hx hb hr (by decide) (fun t ht hW => ⟨0, rfl, (show (0 : Int32) = sg_comesAhead P xo xl from by rw [sg_comesAhead, if_pos c_1, if_pos c_2, if_pos c_3]), ht⟩) hL dX2_comesAhead_82
      · refine lv_iconst (v := 1) hx hb dX2_comesAhead_77 (by decide) ?_
        refine lv_goto (tgt := 82) hx hb dX2_comesAhead_78 (by decide) ?_
        exact W.zret (ty := .boolean) (v := 1) hx hb hr (by decide) (fun t ht hW => ⟨1, rfl, (show (1 : Int32) = sg_comesAhead P xo xl from by rw [sg_comesAhead, if_pos c_1, if_pos c_2, if_neg c_3]), ht⟩) hL dX2_comesAhead_82
    · refine lv_aload_n hx hb dX2_comesAhead_51 rfl (lv_at hl 0 rfl) ?_
      refine va_get (D := D) (ci := 2) (v := .ref (a 54)) (C := RX2) (T := TX2) (N := 11) hx hb hts in2 hown hK hP 0 rfl rfl 5 (by decide) (hts (.fieldLink RX2 24 "Granary$Orders" "due" "[I") (by decide +kernel)) (fun _ h9 => h9) rfl dX2_comesAhead_52 ?_
      refine lv_iload_n hx hb dX2_comesAhead_55 rfl (lv_at hl 1 rfl) ?_
      refine sg_iald hx hb hK hP 1 0 rfl rfl (j := xo) rfl (by omega) (Nat.le_of_ble_eq_true rfl) dX2_comesAhead_56 ?_
      refine lv_toi (y := P 54 xo) rfl ?_
      refine lv_aload_n hx hb dX2_comesAhead_57 rfl (lv_at hl 0 rfl) ?_
      refine va_get (D := D) (ci := 2) (v := .ref (a 54)) (C := RX2) (T := TX2) (N := 11) hx hb hts in2 hown hK hP 0 rfl rfl 5 (by decide) (hts (.fieldLink RX2 24 "Granary$Orders" "due" "[I") (by decide +kernel)) (fun _ h9 => h9) rfl dX2_comesAhead_58 ?_
      refine lv_iload_n hx hb dX2_comesAhead_61 rfl (lv_at hl 2 rfl) ?_
      refine sg_iald hx hb hK hP 1 0 rfl rfl (j := xl) rfl (by omega) (Nat.le_of_ble_eq_true rfl) dX2_comesAhead_62 ?_
      refine lv_toi (y := P 54 xl) rfl ?_
      refine lv_icmp_ge (tgt := 70) hx hb dX2_comesAhead_63 (by decide) (fun c_4 => ?_) (fun c_4 => ?_)
      · refine lv_iconst (v := 0) hx hb dX2_comesAhead_70 (by decide) ?_
        exact W.zret (ty := .boolean) (v := 0) hx hb hr (by decide) (fun t ht hW => ⟨0, rfl, (show (0 : Int32) = sg_comesAhead P xo xl from by rw [sg_comesAhead, if_pos c_1, if_neg c_2, if_pos c_4]), ht⟩) hL dX2_comesAhead_71
      · refine lv_iconst (v := 1) hx hb dX2_comesAhead_66 (by decide) ?_
        refine lv_goto (tgt := 71) hx hb dX2_comesAhead_67 (by decide) ?_
        exact W.zret (ty := .boolean) (v := 1) hx hb hr (by decide) (fun t ht hW => ⟨1, rfl, (show (1 : Int32) = sg_comesAhead P xo xl from by rw [sg_comesAhead, if_pos c_1, if_neg c_2, if_neg c_4]), ht⟩) hL dX2_comesAhead_71
  · refine lv_aload_n hx hb dX2_comesAhead_15 rfl (lv_at hl 0 rfl) ?_
    refine va_get (D := D) (ci := 2) (v := .ref (a 55)) (C := RX2) (T := TX2) (N := 11) hx hb hts in2 hown hK hP 0 rfl rfl 6 (by decide) (hts (.fieldLink RX2 27 "Granary$Orders" "rank" "[I") (by decide +kernel)) (fun _ h9 => h9) rfl dX2_comesAhead_16 ?_
    refine lv_iload_n hx hb dX2_comesAhead_19 rfl (lv_at hl 1 rfl) ?_
    refine sg_iald hx hb hK hP 2 0 rfl rfl (j := xo) rfl (by omega) (Nat.le_of_ble_eq_true rfl) dX2_comesAhead_20 ?_
    refine lv_toi (y := P 55 xo) rfl ?_
    refine lv_aload_n hx hb dX2_comesAhead_21 rfl (lv_at hl 0 rfl) ?_
    refine va_get (D := D) (ci := 2) (v := .ref (a 55)) (C := RX2) (T := TX2) (N := 11) hx hb hts in2 hown hK hP 0 rfl rfl 6 (by decide) (hts (.fieldLink RX2 27 "Granary$Orders" "rank" "[I") (by decide +kernel)) (fun _ h9 => h9) rfl dX2_comesAhead_22 ?_
    refine lv_iload_n hx hb dX2_comesAhead_25 rfl (lv_at hl 2 rfl) ?_
    refine sg_iald hx hb hK hP 2 0 rfl rfl (j := xl) rfl (by omega) (Nat.le_of_ble_eq_true rfl) dX2_comesAhead_26 ?_
    refine lv_toi (y := P 55 xl) rfl ?_
    refine lv_icmp_ge (tgt := 34) hx hb dX2_comesAhead_27 (by decide) (fun c_5 => ?_) (fun c_5 => ?_)
    · refine lv_iconst (v := 0) hx hb dX2_comesAhead_34 (by decide) ?_
      exact W.zret (ty := .boolean) (v := 0) hx hb hr (by decide) (fun t ht hW => ⟨0, rfl, (show (0 : Int32) = sg_comesAhead P xo xl from by rw [sg_comesAhead, if_neg c_1, if_pos c_5]), ht⟩) hL dX2_comesAhead_35
    · refine lv_iconst (v := 1) hx hb dX2_comesAhead_30 (by decide) ?_
      refine lv_goto (tgt := 35) hx hb dX2_comesAhead_31 (by decide) ?_
      exact W.zret (ty := .boolean) (v := 1) hx hb hr (by decide) (fun t ht hW => ⟨1, rfl, (show (1 : Int32) = sg_comesAhead P xo xl from by rw [sg_comesAhead, if_neg c_1, if_neg c_5]), ht⟩) hL dX2_comesAhead_35

def sg_freeOf (P : sg_Pic) (xl : Nat) : Int32 := ((P 42 xl) - (P 43 xl))

set_option maxHeartbeats 4000000 in
set_option maxRecDepth 100000 in
/-- X1_freeOf -/
theorem c_freeOf (l : Launch) (D : va_G) (cI cZ cJ : ClassId) (lo sz : Nat) (a : Nat → Nat) (P : sg_Pic) (xl : Nat) (hl0 : xl < 200) : Met l yX1_freeOf wsX1_freeOf ({ frames := 0, cells := 0, slots := 0, locals := 0 }) (Pre lo D cI cZ cJ [.ref (a 4), .int (nI xl)] sz [(a 4, .inr (1, [.int (P 0 3), .ref (a 40), .ref (a 41), .ref (a 42), .ref (a 43), .ref (a 44)])), (a 42, .inl (cI, 200, .inl (P 42))), (a 43, .inl (cI, 200, .inl (P 43)))]) (vp_Si (fun r => r = sg_freeOf P xl)) 0 0 (fun _ => False) := by
  refine Met.ofW (cc := cX1_freeOf) (maxL := 2) (ret := (some .int)) (by decide) rfl ?_
  intro p e s m args below meth c s₁ B hml hv
  obtain ⟨rfl, hsz, hP, hD0, hC⟩ := hv
  have hx := B.exec
  have hb := B.bytes
  have hr := B.returns
  have hts := atoms_spec (ws := wsX1_freeOf) B.pre
  have hown : s.vm.findClass RX1 = some m.cls := findClass_of_methodNamed B.named
  have hlocks := B.notSynchronized
  subst hsz
  have hK := hC.K
  have hD := hD0
  have hS : va_S (fun q => lo ≤ q) s.heap s.heap [] := va_S.rf
  have hAlo : ∀ q, (fun q => lo ≤ q) q → lo ≤ q := fun _ h => h
  have hL : ∀ q ∈ ([] : List Loc), (fun _ : Addr => False) q.base := fun q h => by cases h
  have hP : va_P D vwCl [(a 4, .inr (1, [.int (P 0 3), .ref (a 40), .ref (a 41), .ref (a 42), .ref (a 43), .ref (a 44)])), (a 42, .inl (cI, 200, .inl (P 42))), (a 43, .inl (cI, 200, .inl (P 43)))] s.heap := hP
  have hl := lv_entry ([.ref (a 4), .int (nI xl)]) (n := 2) (Nat.le_of_ble_eq_true rfl)
  rw [lg_entry_eq]
  generalize (lg_sl ([.ref (a 4), .int (nI xl)]) ++ List.replicate (2 - (lg_sl ([.ref (a 4), .int (nI xl)])).length) Slot.unset).toArray = ls at hl ⊢
  have hl : lv_has ls 2 [(0, .ref (a 4)), (1, .int (nI xl))] := hl
  have in1 : ∀ w ∈ u_ws RX1 TX1 6, w ∈ wsX1_freeOf := by decide +kernel
  refine lv_aload_n hx hb dX1_freeOf_0 rfl (lv_at hl 0 rfl) ?_
  refine va_get (D := D) (ci := 1) (v := .ref (a 42)) (C := RX1) (T := TX1) (N := 6) hx hb hts in1 hown hK hP 0 rfl rfl 3 (by decide) (hts (.fieldLink RX1 18 "Granary$Lots" "units" "[I") (by decide +kernel)) (fun _ h9 => h9) rfl dX1_freeOf_1 ?_
  refine lv_iload_n hx hb dX1_freeOf_4 rfl (lv_at hl 1 rfl) ?_
  refine sg_iald hx hb hK hP 1 0 rfl rfl (j := xl) rfl (by omega) (Nat.le_of_ble_eq_true rfl) dX1_freeOf_5 ?_
  refine lv_toi (y := P 42 xl) rfl ?_
  refine lv_aload_n hx hb dX1_freeOf_6 rfl (lv_at hl 0 rfl) ?_
  refine va_get (D := D) (ci := 1) (v := .ref (a 43)) (C := RX1) (T := TX1) (N := 6) hx hb hts in1 hown hK hP 0 rfl rfl 4 (by decide) (hts (.fieldLink RX1 21 "Granary$Lots" "reserved" "[I") (by decide +kernel)) (fun _ h9 => h9) rfl dX1_freeOf_7 ?_
  refine lv_iload_n hx hb dX1_freeOf_10 rfl (lv_at hl 1 rfl) ?_
  refine sg_iald hx hb hK hP 2 0 rfl rfl (j := xl) rfl (by omega) (Nat.le_of_ble_eq_true rfl) dX1_freeOf_11 ?_
  refine lv_toi (y := P 43 xl) rfl ?_
  refine lv_isub hx hb dX1_freeOf_12 ?_
  exact W.iret (v := ((P 42 xl) - (P 43 xl))) hx hb hr (fun t ht hW => ⟨((P 42 xl) - (P 43 xl)), rfl, rfl, ht⟩) hL dX1_freeOf_13

set_option maxHeartbeats 4000000 in
set_option maxRecDepth 100000 in
/-- X8_pair -/
theorem c_pair (l : Launch) (D : va_G) (cI cZ cJ : ClassId) (lo sz : Nat) (xi : Nat) (xs : Nat) : Met l yX8_pair wsX8_pair ({ frames := 0, cells := 0, slots := 0, locals := 0 }) (Pre lo D cI cZ cJ [.int (nI xi), .int (nI xs)] sz []) (vp_Si (fun r => r = nI ((xi * 5) + xs))) 0 0 (fun _ => False) := by
  refine Met.ofW (cc := cX8_pair) (maxL := 2) (ret := (some .int)) (by decide) rfl ?_
  intro p e s m args below meth c s₁ B hml hv
  obtain ⟨rfl, hsz, hP, hD0, hC⟩ := hv
  have hx := B.exec
  have hb := B.bytes
  have hr := B.returns
  have hts := atoms_spec (ws := wsX8_pair) B.pre
  have hown : s.vm.findClass RX8 = some m.cls := findClass_of_methodNamed B.named
  have hlocks := B.notSynchronized
  subst hsz
  have hK := hC.K
  have hD := hD0
  have hS : va_S (fun q => lo ≤ q) s.heap s.heap [] := va_S.rf
  have hAlo : ∀ q, (fun q => lo ≤ q) q → lo ≤ q := fun _ h => h
  have hL : ∀ q ∈ ([] : List Loc), (fun _ : Addr => False) q.base := fun q h => by cases h
  have hP : va_P D vwCl [] s.heap := hP
  have hl := lv_entry ([.int (nI xi), .int (nI xs)]) (n := 2) (Nat.le_of_ble_eq_true rfl)
  rw [lg_entry_eq]
  generalize (lg_sl ([.int (nI xi), .int (nI xs)]) ++ List.replicate (2 - (lg_sl ([.int (nI xi), .int (nI xs)])).length) Slot.unset).toArray = ls at hl ⊢
  have hl : lv_has ls 2 [(0, .int (nI xi)), (1, .int (nI xs))] := hl
  refine lv_iload_n hx hb dX8_pair_0 rfl (lv_at hl 0 rfl) ?_
  refine lv_iconst (v := 5) hx hb dX8_pair_1 (by decide) ?_
  refine lv_imul hx hb dX8_pair_2 ?_
  refine lv_toi (y := nI (xi * 5)) (sg_mulN xi 5) ?_
  refine lv_iload_n hx hb dX8_pair_3 rfl (lv_at hl 1 rfl) ?_
  refine lv_iadd hx hb dX8_pair_4 ?_
  refine lv_toi (y := nI ((xi * 5) + xs)) (nI_add (xi * 5) xs) ?_
  exact W.iret (v := (nI ((xi * 5) + xs))) hx hb hr (fun t ht hW => ⟨(nI ((xi * 5) + xs)), rfl, rfl, ht⟩) hL dX8_pair_5

def sg_unitsUpTo_6 (P : sg_Pic) (x : Int32) (y : Int32) (z : Int32) : Nat → Int32
  | 0 => 0
  | j6 + 1 => (if (P 40 j6) = x then (if (P 41 j6) = y then (if z < (P 44 j6) then (sg_unitsUpTo_6 P x y z j6) else ((sg_unitsUpTo_6 P x y z j6) + (P 42 j6))) else (sg_unitsUpTo_6 P x y z j6)) else (sg_unitsUpTo_6 P x y z j6))

def sg_unitsUpTo (P : sg_Pic) (x : Int32) (y : Int32) (z : Int32) : Int32 := (sg_unitsUpTo_6 P x y z (sg_cn P 3))

set_option maxHeartbeats 4000000 in
set_option maxRecDepth 100000 in
/-- X1_unitsUpTo -/
theorem c_unitsUpTo (l : Launch) (D : va_G) (cI cZ cJ : ClassId) (lo sz : Nat) (a : Nat → Nat) (P : sg_Pic) (x : Int32) (y : Int32) (z : Int32) (hw : sg_W P) : Met l yX1_unitsUpTo wsX1_unitsUpTo ({ frames := 0, cells := 0, slots := 0, locals := 0 }) (Pre lo D cI cZ cJ [.ref (a 4), .int x, .int y, .int z] sz [(a 4, .inr (1, [.int (P 0 3), .ref (a 40), .ref (a 41), .ref (a 42), .ref (a 43), .ref (a 44)])), (a 40, .inl (cI, 200, .inl (P 40))), (a 41, .inl (cI, 200, .inl (P 41))), (a 42, .inl (cI, 200, .inl (P 42))), (a 43, .inl (cI, 200, .inl (P 43))), (a 44, .inl (cI, 200, .inl (P 44)))]) (vp_Si (fun r => r = sg_unitsUpTo P x y z)) 0 0 (fun _ => False) := by
  refine Met.ofW (cc := cX1_unitsUpTo) (maxL := 6) (ret := (some .int)) (by decide) rfl ?_
  intro p e s m args below meth c s₁ B hml hv
  obtain ⟨rfl, hsz, hP, hD0, hC⟩ := hv
  have hx := B.exec
  have hb := B.bytes
  have hr := B.returns
  have hts := atoms_spec (ws := wsX1_unitsUpTo) B.pre
  have hown : s.vm.findClass RX1 = some m.cls := findClass_of_methodNamed B.named
  have hlocks := B.notSynchronized
  subst hsz
  have hn1 : sg_cn P 1 ≤ 6 := hw.n1
  have hn2 : sg_cn P 2 ≤ 5 := hw.n2
  have hn3 : sg_cn P 3 ≤ 200 := hw.n3
  have hn4 : sg_cn P 4 ≤ 60 := hw.n4
  have hn5 : sg_cn P 5 ≤ 90 := hw.n5
  have hK := hC.K
  have hD := hD0
  have hS : va_S (fun q => lo ≤ q) s.heap s.heap [] := va_S.rf
  have hAlo : ∀ q, (fun q => lo ≤ q) q → lo ≤ q := fun _ h => h
  have hL : ∀ q ∈ ([] : List Loc), (fun _ : Addr => False) q.base := fun q h => by cases h
  have hP : va_P D vwCl [(a 4, .inr (1, [.int (P 0 3), .ref (a 40), .ref (a 41), .ref (a 42), .ref (a 43), .ref (a 44)])), (a 40, .inl (cI, 200, .inl (P 40))), (a 41, .inl (cI, 200, .inl (P 41))), (a 42, .inl (cI, 200, .inl (P 42))), (a 43, .inl (cI, 200, .inl (P 43))), (a 44, .inl (cI, 200, .inl (P 44)))] s.heap := hP
  have hl := lv_entry ([.ref (a 4), .int x, .int y, .int z]) (n := 6) (Nat.le_of_ble_eq_true rfl)
  rw [lg_entry_eq]
  generalize (lg_sl ([.ref (a 4), .int x, .int y, .int z]) ++ List.replicate (6 - (lg_sl ([.ref (a 4), .int x, .int y, .int z])).length) Slot.unset).toArray = ls at hl ⊢
  have hl : lv_has ls 6 [(0, .ref (a 4)), (1, .int x), (2, .int y), (3, .int z)] := hl
  have in1 : ∀ w ∈ u_ws RX1 TX1 6, w ∈ wsX1_unitsUpTo := by decide +kernel
  refine lv_iconst (v := 0) hx hb dX1_unitsUpTo_0 (by decide) ?_
  refine lv_istore (lv' := [(4, .int 0), (0, .ref (a 4)), (1, .int x), (2, .int y), (3, .int z)]) hx hb dX1_unitsUpTo_1 hl (by decide) rfl (fun ls hl => ?_)
  refine lv_iconst (v := 0) hx hb dX1_unitsUpTo_3 (by decide) ?_
  refine lv_istore (lv' := [(5, .int 0), (4, .int 0), (0, .ref (a 4)), (1, .int x), (2, .int y), (3, .int z)]) hx hb dX1_unitsUpTo_4 hl (by decide) rfl (fun ls hl => ?_)
  obtain ⟨j6, h0j6⟩ : ∃ j : Nat, j = 0 := ⟨_, rfl⟩
  obtain ⟨x6_4, hx6_4⟩ : ∃ z9 : Int32, z9 = sg_unitsUpTo_6 P x y z j6 := ⟨_, rfl⟩
  replace hl : lv_has ls 6 [(5, .int (nI j6)), (4, .int x6_4), (0, .ref (a 4)), (1, .int x), (2, .int y), (3, .int z)] := by rw [hx6_4, h0j6]; exact hl
  have hjj6 : j6 ≤ sg_cn P 3 := by omega
  clear h0j6
  obtain ⟨n6, hn6⟩ : ∃ n : Nat, sg_cn P 3 < j6 + n := ⟨sg_cn P 3 + 1, by omega⟩
  revert hl
  revert hn6
  revert hjj6
  revert hx6_4
  revert ls
  revert x6_4
  revert j6
  induction n6 with
  | zero =>
    intro j6 x6_4 ls hx6_4 hjj6 hn6 hl
    exact absurd hn6 (by omega)
  | succ n6 ih6 =>
    intro j6 x6_4 ls hx6_4 hjj6 hn6 hl
    refine lv_iload hx hb dX1_unitsUpTo_6 (lv_at hl 0 rfl) ?_
    refine lv_aload_n hx hb dX1_unitsUpTo_8 rfl (lv_at hl 2 rfl) ?_
    refine va_get (D := D) (ci := 1) (v := .int (P 0 3)) (C := RX1) (T := TX1) (N := 6) hx hb hts in1 hown hK hP 0 rfl rfl 0 (by decide) (hts (.fieldLink RX1 27 "Granary$Lots" "count" "I") (by decide +kernel)) (fun _ h9 => h9) rfl dX1_unitsUpTo_9 ?_
    have hB6 : ((P 0 3) : Int32) = nI (sg_cn P 3) := (hw.e3)
    refine lv_icmp_ge (tgt := 66) hx hb dX1_unitsUpTo_12 (by decide) (fun c_1 => ?_) (fun c_1 => ?_)
    · have hE6 : sg_cn P 3 = j6 := (sg_eq hB6 c_1 hjj6 (by omega)).symm
      clear ih6 hn6
      subst hE6
      subst hx6_4
      refine lv_iload hx hb dX1_unitsUpTo_66 (lv_at hl 1 rfl) ?_
      exact W.iret (v := (sg_unitsUpTo_6 P x y z (sg_cn P 3))) hx hb hr (fun t ht hW => ⟨(sg_unitsUpTo_6 P x y z (sg_cn P 3)), rfl, rfl, ht⟩) hL dX1_unitsUpTo_68
    · have hL6 : j6 < sg_cn P 3 := sg_lt hB6 c_1 (by omega)
      refine lv_aload_n hx hb dX1_unitsUpTo_15 rfl (lv_at hl 2 rfl) ?_
      refine va_get (D := D) (ci := 1) (v := .ref (a 40)) (C := RX1) (T := TX1) (N := 6) hx hb hts in1 hown hK hP 0 rfl rfl 1 (by decide) (hts (.fieldLink RX1 9 "Granary$Lots" "item" "[I") (by decide +kernel)) (fun _ h9 => h9) rfl dX1_unitsUpTo_16 ?_
      refine lv_iload hx hb dX1_unitsUpTo_19 (lv_at hl 0 rfl) ?_
      refine sg_iald hx hb hK hP 1 0 rfl rfl (j := j6) rfl (by omega) (Nat.le_of_ble_eq_true rfl) dX1_unitsUpTo_21 ?_
      refine lv_toi (y := P 40 j6) rfl ?_
      refine lv_iload_n hx hb dX1_unitsUpTo_22 rfl (lv_at hl 3 rfl) ?_
      refine lv_icmp_ne (tgt := 60) hx hb dX1_unitsUpTo_23 (by decide) (fun c_2 => ?_) (fun c_2 => ?_)
      · refine lv_iinc (v := nI (j6 + 1)) (lv' := [(5, .int (nI (j6 + 1))), (4, .int x6_4), (0, .ref (a 4)), (1, .int x), (2, .int y), (3, .int z)]) hx hb dX1_unitsUpTo_60 hl (k := 0) rfl (nI_1 j6) (by decide) rfl (fun ls hl => ?_)
        refine lv_goto (tgt := 6) hx hb dX1_unitsUpTo_63 (by decide) ?_
        have hl8 := hl
        subst hx6_4
        exact ih6 (j6 + 1) (sg_unitsUpTo_6 P x y z j6) _ (show ((sg_unitsUpTo_6 P x y z j6) : Int32) = sg_unitsUpTo_6 P x y z (j6 + 1) from by rw [sg_unitsUpTo_6, if_neg c_2]) (by omega) (by omega) (lv_sub hl8 [0, 1, 2, 3, 4, 5] rfl)
      · refine lv_aload_n hx hb dX1_unitsUpTo_26 rfl (lv_at hl 2 rfl) ?_
        refine va_get (D := D) (ci := 1) (v := .ref (a 41)) (C := RX1) (T := TX1) (N := 6) hx hb hts in1 hown hK hP 0 rfl rfl 2 (by decide) (hts (.fieldLink RX1 15 "Granary$Lots" "site" "[I") (by decide +kernel)) (fun _ h9 => h9) rfl dX1_unitsUpTo_27 ?_
        refine lv_iload hx hb dX1_unitsUpTo_30 (lv_at hl 0 rfl) ?_
        refine sg_iald hx hb hK hP 2 0 rfl rfl (j := j6) rfl (by omega) (Nat.le_of_ble_eq_true rfl) dX1_unitsUpTo_32 ?_
        refine lv_toi (y := P 41 j6) rfl ?_
        refine lv_iload_n hx hb dX1_unitsUpTo_33 rfl (lv_at hl 4 rfl) ?_
        refine lv_icmp_ne (tgt := 60) hx hb dX1_unitsUpTo_34 (by decide) (fun c_3 => ?_) (fun c_3 => ?_)
        · refine lv_iinc (v := nI (j6 + 1)) (lv' := [(5, .int (nI (j6 + 1))), (4, .int x6_4), (0, .ref (a 4)), (1, .int x), (2, .int y), (3, .int z)]) hx hb dX1_unitsUpTo_60 hl (k := 0) rfl (nI_1 j6) (by decide) rfl (fun ls hl => ?_)
          refine lv_goto (tgt := 6) hx hb dX1_unitsUpTo_63 (by decide) ?_
          have hl8 := hl
          subst hx6_4
          exact ih6 (j6 + 1) (sg_unitsUpTo_6 P x y z j6) _ (show ((sg_unitsUpTo_6 P x y z j6) : Int32) = sg_unitsUpTo_6 P x y z (j6 + 1) from by rw [sg_unitsUpTo_6, if_pos c_2, if_neg c_3]) (by omega) (by omega) (lv_sub hl8 [0, 1, 2, 3, 4, 5] rfl)
        · refine lv_aload_n hx hb dX1_unitsUpTo_37 rfl (lv_at hl 2 rfl) ?_
          refine va_get (D := D) (ci := 1) (v := .ref (a 44)) (C := RX1) (T := TX1) (N := 6) hx hb hts in1 hown hK hP 0 rfl rfl 5 (by decide) (hts (.fieldLink RX1 24 "Granary$Lots" "last" "[I") (by decide +kernel)) (fun _ h9 => h9) rfl dX1_unitsUpTo_38 ?_
          refine lv_iload hx hb dX1_unitsUpTo_41 (lv_at hl 0 rfl) ?_
          refine sg_iald hx hb hK hP 5 0 rfl rfl (j := j6) rfl (by omega) (Nat.le_of_ble_eq_true rfl) dX1_unitsUpTo_43 ?_
          refine lv_toi (y := P 44 j6) rfl ?_
          refine lv_iload_n hx hb dX1_unitsUpTo_44 rfl (lv_at hl 5 rfl) ?_
          refine lv_icmp_gt (tgt := 60) hx hb dX1_unitsUpTo_45 (by decide) (fun c_4 => ?_) (fun c_4 => ?_)
          · refine lv_iinc (v := nI (j6 + 1)) (lv' := [(5, .int (nI (j6 + 1))), (4, .int x6_4), (0, .ref (a 4)), (1, .int x), (2, .int y), (3, .int z)]) hx hb dX1_unitsUpTo_60 hl (k := 0) rfl (nI_1 j6) (by decide) rfl (fun ls hl => ?_)
            refine lv_goto (tgt := 6) hx hb dX1_unitsUpTo_63 (by decide) ?_
            have hl8 := hl
            subst hx6_4
            exact ih6 (j6 + 1) (sg_unitsUpTo_6 P x y z j6) _ (show ((sg_unitsUpTo_6 P x y z j6) : Int32) = sg_unitsUpTo_6 P x y z (j6 + 1) from by rw [sg_unitsUpTo_6, if_pos c_2, if_pos c_3, if_pos c_4]) (by omega) (by omega) (lv_sub hl8 [0, 1, 2, 3, 4, 5] rfl)
          · refine lv_iload hx hb dX1_unitsUpTo_48 (lv_at hl 1 rfl) ?_
            refine lv_aload_n hx hb dX1_unitsUpTo_50 rfl (lv_at hl 2 rfl) ?_
            refine va_get (D := D) (ci := 1) (v := .ref (a 42)) (C := RX1) (T := TX1) (N := 6) hx hb hts in1 hown hK hP 0 rfl rfl 3 (by decide) (hts (.fieldLink RX1 18 "Granary$Lots" "units" "[I") (by decide +kernel)) (fun _ h9 => h9) rfl dX1_unitsUpTo_51 ?_
            refine lv_iload hx hb dX1_unitsUpTo_54 (lv_at hl 0 rfl) ?_
            refine sg_iald hx hb hK hP 3 0 rfl rfl (j := j6) rfl (by omega) (Nat.le_of_ble_eq_true rfl) dX1_unitsUpTo_56 ?_
            refine lv_toi (y := P 42 j6) rfl ?_
            refine lv_iadd hx hb dX1_unitsUpTo_57 ?_
            refine lv_istore (lv' := [(4, .int (x6_4 + (P 42 j6))), (5, .int (nI j6)), (0, .ref (a 4)), (1, .int x), (2, .int y), (3, .int z)]) hx hb dX1_unitsUpTo_58 hl (by decide) rfl (fun ls hl => ?_)
            refine lv_iinc (v := nI (j6 + 1)) (lv' := [(5, .int (nI (j6 + 1))), (4, .int (x6_4 + (P 42 j6))), (0, .ref (a 4)), (1, .int x), (2, .int y), (3, .int z)]) hx hb dX1_unitsUpTo_60 hl (k := 1) rfl (nI_1 j6) (by decide) rfl (fun ls hl => ?_)
            refine lv_goto (tgt := 6) hx hb dX1_unitsUpTo_63 (by decide) ?_
            have hl8 := hl
            subst hx6_4
            exact ih6 (j6 + 1) ((sg_unitsUpTo_6 P x y z j6) + (P 42 j6)) _ (show ((sg_unitsUpTo_6 P x y z j6) + (P 42 j6) : Int32) = sg_unitsUpTo_6 P x y z (j6 + 1) from by rw [sg_unitsUpTo_6, if_pos c_2, if_pos c_3, if_neg c_4]) (by omega) (by omega) (lv_sub hl8 [0, 1, 2, 3, 4, 5] rfl)

def sg_freeFrom_6 (P : sg_Pic) (x : Int32) (y : Int32) (z : Int32) : Nat → Int32
  | 0 => 0
  | j6 + 1 => (if (P 40 j6) = x then (if (P 41 j6) = y then (if (P 44 j6) < z then (sg_freeFrom_6 P x y z j6) else ((sg_freeFrom_6 P x y z j6) + (sg_freeOf P j6))) else (sg_freeFrom_6 P x y z j6)) else (sg_freeFrom_6 P x y z j6))

def sg_freeFrom (P : sg_Pic) (x : Int32) (y : Int32) (z : Int32) : Int32 := (sg_freeFrom_6 P x y z (sg_cn P 3))

set_option maxHeartbeats 4000000 in
set_option maxRecDepth 100000 in
/-- X1_freeFrom -/
theorem c_freeFrom (l : Launch) (D : va_G) (cI cZ cJ : ClassId) (lo sz : Nat) (a : Nat → Nat) (P : sg_Pic) (x : Int32) (y : Int32) (z : Int32) (hw : sg_W P) : Met l yX1_freeFrom wsX1_freeFrom ({ frames := 1, cells := 0, slots := 0, locals := 21 }) (Pre lo D cI cZ cJ [.ref (a 4), .int x, .int y, .int z] sz [(a 4, .inr (1, [.int (P 0 3), .ref (a 40), .ref (a 41), .ref (a 42), .ref (a 43), .ref (a 44)])), (a 40, .inl (cI, 200, .inl (P 40))), (a 41, .inl (cI, 200, .inl (P 41))), (a 42, .inl (cI, 200, .inl (P 42))), (a 43, .inl (cI, 200, .inl (P 43))), (a 44, .inl (cI, 200, .inl (P 44)))]) (vp_Si (fun r => r = sg_freeFrom P x y z)) 0 0 (fun _ => False) := by
  refine Met.ofW (cc := cX1_freeFrom) (maxL := 6) (ret := (some .int)) (by decide) rfl ?_
  intro p e s m args below meth c s₁ B hml hv
  obtain ⟨rfl, hsz, hP, hD0, hC⟩ := hv
  have hx := B.exec
  have hb := B.bytes
  have hr := B.returns
  have hts := atoms_spec (ws := wsX1_freeFrom) B.pre
  have hown : s.vm.findClass RX1 = some m.cls := findClass_of_methodNamed B.named
  have hlocks := B.notSynchronized
  subst hsz
  have hn1 : sg_cn P 1 ≤ 6 := hw.n1
  have hn2 : sg_cn P 2 ≤ 5 := hw.n2
  have hn3 : sg_cn P 3 ≤ 200 := hw.n3
  have hn4 : sg_cn P 4 ≤ 60 := hw.n4
  have hn5 : sg_cn P 5 ≤ 90 := hw.n5
  have hK := hC.K
  have hD := hD0
  have hS : va_S (fun q => lo ≤ q) s.heap s.heap [] := va_S.rf
  have hAlo : ∀ q, (fun q => lo ≤ q) q → lo ≤ q := fun _ h => h
  have hL : ∀ q ∈ ([] : List Loc), (fun _ : Addr => False) q.base := fun q h => by cases h
  have hP : va_P D vwCl [(a 4, .inr (1, [.int (P 0 3), .ref (a 40), .ref (a 41), .ref (a 42), .ref (a 43), .ref (a 44)])), (a 40, .inl (cI, 200, .inl (P 40))), (a 41, .inl (cI, 200, .inl (P 41))), (a 42, .inl (cI, 200, .inl (P 42))), (a 43, .inl (cI, 200, .inl (P 43))), (a 44, .inl (cI, 200, .inl (P 44)))] s.heap := hP
  have hl := lv_entry ([.ref (a 4), .int x, .int y, .int z]) (n := 6) (Nat.le_of_ble_eq_true rfl)
  rw [lg_entry_eq]
  generalize (lg_sl ([.ref (a 4), .int x, .int y, .int z]) ++ List.replicate (6 - (lg_sl ([.ref (a 4), .int x, .int y, .int z])).length) Slot.unset).toArray = ls at hl ⊢
  have hl : lv_has ls 6 [(0, .ref (a 4)), (1, .int x), (2, .int y), (3, .int z)] := hl
  have in1 : ∀ w ∈ u_ws RX1 TX1 6, w ∈ wsX1_freeFrom := by decide +kernel
  refine lv_iconst (v := 0) hx hb dX1_freeFrom_0 (by decide) ?_
  refine lv_istore (lv' := [(4, .int 0), (0, .ref (a 4)), (1, .int x), (2, .int y), (3, .int z)]) hx hb dX1_freeFrom_1 hl (by decide) rfl (fun ls hl => ?_)
  refine lv_iconst (v := 0) hx hb dX1_freeFrom_3 (by decide) ?_
  refine lv_istore (lv' := [(5, .int 0), (4, .int 0), (0, .ref (a 4)), (1, .int x), (2, .int y), (3, .int z)]) hx hb dX1_freeFrom_4 hl (by decide) rfl (fun ls hl => ?_)
  obtain ⟨j6, h0j6⟩ : ∃ j : Nat, j = 0 := ⟨_, rfl⟩
  obtain ⟨x6_4, hx6_4⟩ : ∃ z9 : Int32, z9 = sg_freeFrom_6 P x y z j6 := ⟨_, rfl⟩
  replace hl : lv_has ls 6 [(5, .int (nI j6)), (4, .int x6_4), (0, .ref (a 4)), (1, .int x), (2, .int y), (3, .int z)] := by rw [hx6_4, h0j6]; exact hl
  have hjj6 : j6 ≤ sg_cn P 3 := by omega
  clear h0j6
  obtain ⟨n6, hn6⟩ : ∃ n : Nat, sg_cn P 3 < j6 + n := ⟨sg_cn P 3 + 1, by omega⟩
  revert hl
  revert hn6
  revert hjj6
  revert hx6_4
  revert ls
  revert x6_4
  revert j6
  induction n6 with
  | zero =>
    intro j6 x6_4 ls hx6_4 hjj6 hn6 hl
    exact absurd hn6 (by omega)
  | succ n6 ih6 =>
    intro j6 x6_4 ls hx6_4 hjj6 hn6 hl
    refine lv_iload hx hb dX1_freeFrom_6 (lv_at hl 0 rfl) ?_
    refine lv_aload_n hx hb dX1_freeFrom_8 rfl (lv_at hl 2 rfl) ?_
    refine va_get (D := D) (ci := 1) (v := .int (P 0 3)) (C := RX1) (T := TX1) (N := 6) hx hb hts in1 hown hK hP 0 rfl rfl 0 (by decide) (hts (.fieldLink RX1 27 "Granary$Lots" "count" "I") (by decide +kernel)) (fun _ h9 => h9) rfl dX1_freeFrom_9 ?_
    have hB6 : ((P 0 3) : Int32) = nI (sg_cn P 3) := (hw.e3)
    refine lv_icmp_ge (tgt := 65) hx hb dX1_freeFrom_12 (by decide) (fun c_1 => ?_) (fun c_1 => ?_)
    · have hE6 : sg_cn P 3 = j6 := (sg_eq hB6 c_1 hjj6 (by omega)).symm
      clear ih6 hn6
      subst hE6
      subst hx6_4
      refine lv_iload hx hb dX1_freeFrom_65 (lv_at hl 1 rfl) ?_
      exact W.iret (v := (sg_freeFrom_6 P x y z (sg_cn P 3))) hx hb hr (fun t ht hW => ⟨(sg_freeFrom_6 P x y z (sg_cn P 3)), rfl, rfl, ht⟩) hL dX1_freeFrom_67
    · have hL6 : j6 < sg_cn P 3 := sg_lt hB6 c_1 (by omega)
      refine lv_aload_n hx hb dX1_freeFrom_15 rfl (lv_at hl 2 rfl) ?_
      refine va_get (D := D) (ci := 1) (v := .ref (a 40)) (C := RX1) (T := TX1) (N := 6) hx hb hts in1 hown hK hP 0 rfl rfl 1 (by decide) (hts (.fieldLink RX1 9 "Granary$Lots" "item" "[I") (by decide +kernel)) (fun _ h9 => h9) rfl dX1_freeFrom_16 ?_
      refine lv_iload hx hb dX1_freeFrom_19 (lv_at hl 0 rfl) ?_
      refine sg_iald hx hb hK hP 1 0 rfl rfl (j := j6) rfl (by omega) (Nat.le_of_ble_eq_true rfl) dX1_freeFrom_21 ?_
      refine lv_toi (y := P 40 j6) rfl ?_
      refine lv_iload_n hx hb dX1_freeFrom_22 rfl (lv_at hl 3 rfl) ?_
      refine lv_icmp_ne (tgt := 59) hx hb dX1_freeFrom_23 (by decide) (fun c_2 => ?_) (fun c_2 => ?_)
      · refine lv_iinc (v := nI (j6 + 1)) (lv' := [(5, .int (nI (j6 + 1))), (4, .int x6_4), (0, .ref (a 4)), (1, .int x), (2, .int y), (3, .int z)]) hx hb dX1_freeFrom_59 hl (k := 0) rfl (nI_1 j6) (by decide) rfl (fun ls hl => ?_)
        refine lv_goto (tgt := 6) hx hb dX1_freeFrom_62 (by decide) ?_
        have hl8 := hl
        subst hx6_4
        exact ih6 (j6 + 1) (sg_freeFrom_6 P x y z j6) _ (show ((sg_freeFrom_6 P x y z j6) : Int32) = sg_freeFrom_6 P x y z (j6 + 1) from by rw [sg_freeFrom_6, if_neg c_2]) (by omega) (by omega) (lv_sub hl8 [0, 1, 2, 3, 4, 5] rfl)
      · refine lv_aload_n hx hb dX1_freeFrom_26 rfl (lv_at hl 2 rfl) ?_
        refine va_get (D := D) (ci := 1) (v := .ref (a 41)) (C := RX1) (T := TX1) (N := 6) hx hb hts in1 hown hK hP 0 rfl rfl 2 (by decide) (hts (.fieldLink RX1 15 "Granary$Lots" "site" "[I") (by decide +kernel)) (fun _ h9 => h9) rfl dX1_freeFrom_27 ?_
        refine lv_iload hx hb dX1_freeFrom_30 (lv_at hl 0 rfl) ?_
        refine sg_iald hx hb hK hP 2 0 rfl rfl (j := j6) rfl (by omega) (Nat.le_of_ble_eq_true rfl) dX1_freeFrom_32 ?_
        refine lv_toi (y := P 41 j6) rfl ?_
        refine lv_iload_n hx hb dX1_freeFrom_33 rfl (lv_at hl 4 rfl) ?_
        refine lv_icmp_ne (tgt := 59) hx hb dX1_freeFrom_34 (by decide) (fun c_3 => ?_) (fun c_3 => ?_)
        · refine lv_iinc (v := nI (j6 + 1)) (lv' := [(5, .int (nI (j6 + 1))), (4, .int x6_4), (0, .ref (a 4)), (1, .int x), (2, .int y), (3, .int z)]) hx hb dX1_freeFrom_59 hl (k := 0) rfl (nI_1 j6) (by decide) rfl (fun ls hl => ?_)
          refine lv_goto (tgt := 6) hx hb dX1_freeFrom_62 (by decide) ?_
          have hl8 := hl
          subst hx6_4
          exact ih6 (j6 + 1) (sg_freeFrom_6 P x y z j6) _ (show ((sg_freeFrom_6 P x y z j6) : Int32) = sg_freeFrom_6 P x y z (j6 + 1) from by rw [sg_freeFrom_6, if_pos c_2, if_neg c_3]) (by omega) (by omega) (lv_sub hl8 [0, 1, 2, 3, 4, 5] rfl)
        · refine lv_aload_n hx hb dX1_freeFrom_37 rfl (lv_at hl 2 rfl) ?_
          refine va_get (D := D) (ci := 1) (v := .ref (a 44)) (C := RX1) (T := TX1) (N := 6) hx hb hts in1 hown hK hP 0 rfl rfl 5 (by decide) (hts (.fieldLink RX1 24 "Granary$Lots" "last" "[I") (by decide +kernel)) (fun _ h9 => h9) rfl dX1_freeFrom_38 ?_
          refine lv_iload hx hb dX1_freeFrom_41 (lv_at hl 0 rfl) ?_
          refine sg_iald hx hb hK hP 5 0 rfl rfl (j := j6) rfl (by omega) (Nat.le_of_ble_eq_true rfl) dX1_freeFrom_43 ?_
          refine lv_toi (y := P 44 j6) rfl ?_
          refine lv_iload_n hx hb dX1_freeFrom_44 rfl (lv_at hl 5 rfl) ?_
          refine lv_icmp_lt (tgt := 59) hx hb dX1_freeFrom_45 (by decide) (fun c_4 => ?_) (fun c_4 => ?_)
          · refine lv_iinc (v := nI (j6 + 1)) (lv' := [(5, .int (nI (j6 + 1))), (4, .int x6_4), (0, .ref (a 4)), (1, .int x), (2, .int y), (3, .int z)]) hx hb dX1_freeFrom_59 hl (k := 0) rfl (nI_1 j6) (by decide) rfl (fun ls hl => ?_)
            refine lv_goto (tgt := 6) hx hb dX1_freeFrom_62 (by decide) ?_
            have hl8 := hl
            subst hx6_4
            exact ih6 (j6 + 1) (sg_freeFrom_6 P x y z j6) _ (show ((sg_freeFrom_6 P x y z j6) : Int32) = sg_freeFrom_6 P x y z (j6 + 1) from by rw [sg_freeFrom_6, if_pos c_2, if_pos c_3, if_pos c_4]) (by omega) (by omega) (lv_sub hl8 [0, 1, 2, 3, 4, 5] rfl)
          · refine lv_iload hx hb dX1_freeFrom_48 (lv_at hl 1 rfl) ?_
            refine lv_aload_n hx hb dX1_freeFrom_50 rfl (lv_at hl 2 rfl) ?_
            refine lv_iload hx hb dX1_freeFrom_51 (lv_at hl 0 rfl) ?_
            have hPc := hP.sub (ws' := [(a 4, .inr (1, [.int (P 0 3), .ref (a 40), .ref (a 41), .ref (a 42), .ref (a 43), .ref (a 44)])), (a 42, .inl (cI, 200, .inl (P 42))), (a 43, .inl (cI, 200, .inl (P 43)))]) [0, 3, 4] rfl
            have hDc := hD.sub (ws' := [(a 4, .inr (1, [.int (P 0 3), .ref (a 40), .ref (a 41), .ref (a 42), .ref (a 43), .ref (a 44)])), (a 42, .inl (cI, 200, .inl (P 42))), (a 43, .inl (cI, 200, .inl (P 43)))]) [0, 3, 4] (by decide) rfl
            refine vp_callSi (W.runV (As := [.int (nI j6)]) (rest := [.int x6_4]) ⟨hx, hb, hml, hown, hts⟩ (c_freeOf l D cI cZ cJ lo s.heap.size a P j6 (by omega)) (cwV 1 hts gX1_freeFrom_X1_freeOf rfl rfl rfl (by decide +kernel) ⟨(Nat.le_of_ble_eq_true rfl), (Nat.le_of_ble_eq_true rfl)⟩) ⟨Pre.blind, va_recv hK hP (ci := 1) (q0 := 0) rfl rfl, Pre.mk hPc (hDc.weaken (fun _ _ _ h => hAlo _ h)) hC hS hAlo⟩ rfl rfl hl.1 rfl (lv_room (Nat.le_of_ble_eq_true rfl)) dX1_freeFrom_53 ⟨(Nat.le_of_ble_eq_true rfl), (Nat.le_of_ble_eq_true rfl)⟩) (fun r_5 e_6 => ?_)
            clear hPc hDc
            have e_6 : sg_freeOf P j6 = r_5 := Eq.symm e_6
            subst e_6
            refine lv_iadd hx hb dX1_freeFrom_56 ?_
            refine lv_istore (lv' := [(4, .int (x6_4 + (sg_freeOf P j6))), (5, .int (nI j6)), (0, .ref (a 4)), (1, .int x), (2, .int y), (3, .int z)]) hx hb dX1_freeFrom_57 hl (by decide) rfl (fun ls hl => ?_)
            refine lv_iinc (v := nI (j6 + 1)) (lv' := [(5, .int (nI (j6 + 1))), (4, .int (x6_4 + (sg_freeOf P j6))), (0, .ref (a 4)), (1, .int x), (2, .int y), (3, .int z)]) hx hb dX1_freeFrom_59 hl (k := 1) rfl (nI_1 j6) (by decide) rfl (fun ls hl => ?_)
            refine lv_goto (tgt := 6) hx hb dX1_freeFrom_62 (by decide) ?_
            have hl8 := hl
            subst hx6_4
            exact ih6 (j6 + 1) ((sg_freeFrom_6 P x y z j6) + (sg_freeOf P j6)) _ (show ((sg_freeFrom_6 P x y z j6) + (sg_freeOf P j6) : Int32) = sg_freeFrom_6 P x y z (j6 + 1) from by rw [sg_freeFrom_6, if_pos c_2, if_pos c_3, if_neg c_4]) (by omega) (by omega) (lv_sub hl8 [0, 1, 2, 3, 4, 5] rfl)

def sg_allUnitsAt_4 (P : sg_Pic) (x : Int32) : Nat → Int32
  | 0 => 0
  | j4 + 1 => (if (P 41 j4) = x then ((sg_allUnitsAt_4 P x j4) + (P 42 j4)) else (sg_allUnitsAt_4 P x j4))

def sg_allUnitsAt (P : sg_Pic) (x : Int32) : Int32 := (sg_allUnitsAt_4 P x (sg_cn P 3))

set_option maxHeartbeats 4000000 in
set_option maxRecDepth 100000 in
/-- X1_allUnitsAt -/
theorem c_allUnitsAt (l : Launch) (D : va_G) (cI cZ cJ : ClassId) (lo sz : Nat) (a : Nat → Nat) (P : sg_Pic) (x : Int32) (hw : sg_W P) : Met l yX1_allUnitsAt wsX1_allUnitsAt ({ frames := 0, cells := 0, slots := 0, locals := 0 }) (Pre lo D cI cZ cJ [.ref (a 4), .int x] sz [(a 4, .inr (1, [.int (P 0 3), .ref (a 40), .ref (a 41), .ref (a 42), .ref (a 43), .ref (a 44)])), (a 40, .inl (cI, 200, .inl (P 40))), (a 41, .inl (cI, 200, .inl (P 41))), (a 42, .inl (cI, 200, .inl (P 42))), (a 43, .inl (cI, 200, .inl (P 43))), (a 44, .inl (cI, 200, .inl (P 44)))]) (vp_Si (fun r => r = sg_allUnitsAt P x)) 0 0 (fun _ => False) := by
  refine Met.ofW (cc := cX1_allUnitsAt) (maxL := 4) (ret := (some .int)) (by decide) rfl ?_
  intro p e s m args below meth c s₁ B hml hv
  obtain ⟨rfl, hsz, hP, hD0, hC⟩ := hv
  have hx := B.exec
  have hb := B.bytes
  have hr := B.returns
  have hts := atoms_spec (ws := wsX1_allUnitsAt) B.pre
  have hown : s.vm.findClass RX1 = some m.cls := findClass_of_methodNamed B.named
  have hlocks := B.notSynchronized
  subst hsz
  have hn1 : sg_cn P 1 ≤ 6 := hw.n1
  have hn2 : sg_cn P 2 ≤ 5 := hw.n2
  have hn3 : sg_cn P 3 ≤ 200 := hw.n3
  have hn4 : sg_cn P 4 ≤ 60 := hw.n4
  have hn5 : sg_cn P 5 ≤ 90 := hw.n5
  have hK := hC.K
  have hD := hD0
  have hS : va_S (fun q => lo ≤ q) s.heap s.heap [] := va_S.rf
  have hAlo : ∀ q, (fun q => lo ≤ q) q → lo ≤ q := fun _ h => h
  have hL : ∀ q ∈ ([] : List Loc), (fun _ : Addr => False) q.base := fun q h => by cases h
  have hP : va_P D vwCl [(a 4, .inr (1, [.int (P 0 3), .ref (a 40), .ref (a 41), .ref (a 42), .ref (a 43), .ref (a 44)])), (a 40, .inl (cI, 200, .inl (P 40))), (a 41, .inl (cI, 200, .inl (P 41))), (a 42, .inl (cI, 200, .inl (P 42))), (a 43, .inl (cI, 200, .inl (P 43))), (a 44, .inl (cI, 200, .inl (P 44)))] s.heap := hP
  have hl := lv_entry ([.ref (a 4), .int x]) (n := 4) (Nat.le_of_ble_eq_true rfl)
  rw [lg_entry_eq]
  generalize (lg_sl ([.ref (a 4), .int x]) ++ List.replicate (4 - (lg_sl ([.ref (a 4), .int x])).length) Slot.unset).toArray = ls at hl ⊢
  have hl : lv_has ls 4 [(0, .ref (a 4)), (1, .int x)] := hl
  have in1 : ∀ w ∈ u_ws RX1 TX1 6, w ∈ wsX1_allUnitsAt := by decide +kernel
  refine lv_iconst (v := 0) hx hb dX1_allUnitsAt_0 (by decide) ?_
  refine lv_istore_n (lv' := [(2, .int 0), (0, .ref (a 4)), (1, .int x)]) hx hb dX1_allUnitsAt_1 rfl hl (by decide) rfl (fun ls hl => ?_)
  refine lv_iconst (v := 0) hx hb dX1_allUnitsAt_2 (by decide) ?_
  refine lv_istore_n (lv' := [(3, .int 0), (2, .int 0), (0, .ref (a 4)), (1, .int x)]) hx hb dX1_allUnitsAt_3 rfl hl (by decide) rfl (fun ls hl => ?_)
  obtain ⟨j4, h0j4⟩ : ∃ j : Nat, j = 0 := ⟨_, rfl⟩
  obtain ⟨x4_2, hx4_2⟩ : ∃ z9 : Int32, z9 = sg_allUnitsAt_4 P x j4 := ⟨_, rfl⟩
  replace hl : lv_has ls 4 [(3, .int (nI j4)), (2, .int x4_2), (0, .ref (a 4)), (1, .int x)] := by rw [hx4_2, h0j4]; exact hl
  have hjj4 : j4 ≤ sg_cn P 3 := by omega
  clear h0j4
  obtain ⟨n4, hn4⟩ : ∃ n : Nat, sg_cn P 3 < j4 + n := ⟨sg_cn P 3 + 1, by omega⟩
  revert hl
  revert hn4
  revert hjj4
  revert hx4_2
  revert ls
  revert x4_2
  revert j4
  induction n4 with
  | zero =>
    intro j4 x4_2 ls hx4_2 hjj4 hn4 hl
    exact absurd hn4 (by omega)
  | succ n4 ih4 =>
    intro j4 x4_2 ls hx4_2 hjj4 hn4 hl
    refine lv_iload_n hx hb dX1_allUnitsAt_4 rfl (lv_at hl 0 rfl) ?_
    refine lv_aload_n hx hb dX1_allUnitsAt_5 rfl (lv_at hl 2 rfl) ?_
    refine va_get (D := D) (ci := 1) (v := .int (P 0 3)) (C := RX1) (T := TX1) (N := 6) hx hb hts in1 hown hK hP 0 rfl rfl 0 (by decide) (hts (.fieldLink RX1 27 "Granary$Lots" "count" "I") (by decide +kernel)) (fun _ h9 => h9) rfl dX1_allUnitsAt_6 ?_
    have hB4 : ((P 0 3) : Int32) = nI (sg_cn P 3) := (hw.e3)
    refine lv_icmp_ge (tgt := 37) hx hb dX1_allUnitsAt_9 (by decide) (fun c_1 => ?_) (fun c_1 => ?_)
    · have hE4 : sg_cn P 3 = j4 := (sg_eq hB4 c_1 hjj4 (by omega)).symm
      clear ih4 hn4
      subst hE4
      subst hx4_2
      refine lv_iload_n hx hb dX1_allUnitsAt_37 rfl (lv_at hl 1 rfl) ?_
      exact W.iret (v := (sg_allUnitsAt_4 P x (sg_cn P 3))) hx hb hr (fun t ht hW => ⟨(sg_allUnitsAt_4 P x (sg_cn P 3)), rfl, rfl, ht⟩) hL dX1_allUnitsAt_38
    · have hL4 : j4 < sg_cn P 3 := sg_lt hB4 c_1 (by omega)
      refine lv_aload_n hx hb dX1_allUnitsAt_12 rfl (lv_at hl 2 rfl) ?_
      refine va_get (D := D) (ci := 1) (v := .ref (a 41)) (C := RX1) (T := TX1) (N := 6) hx hb hts in1 hown hK hP 0 rfl rfl 2 (by decide) (hts (.fieldLink RX1 15 "Granary$Lots" "site" "[I") (by decide +kernel)) (fun _ h9 => h9) rfl dX1_allUnitsAt_13 ?_
      refine lv_iload_n hx hb dX1_allUnitsAt_16 rfl (lv_at hl 0 rfl) ?_
      refine sg_iald hx hb hK hP 2 0 rfl rfl (j := j4) rfl (by omega) (Nat.le_of_ble_eq_true rfl) dX1_allUnitsAt_17 ?_
      refine lv_toi (y := P 41 j4) rfl ?_
      refine lv_iload_n hx hb dX1_allUnitsAt_18 rfl (lv_at hl 3 rfl) ?_
      refine lv_icmp_ne (tgt := 31) hx hb dX1_allUnitsAt_19 (by decide) (fun c_2 => ?_) (fun c_2 => ?_)
      · refine lv_iinc (v := nI (j4 + 1)) (lv' := [(3, .int (nI (j4 + 1))), (2, .int x4_2), (0, .ref (a 4)), (1, .int x)]) hx hb dX1_allUnitsAt_31 hl (k := 0) rfl (nI_1 j4) (by decide) rfl (fun ls hl => ?_)
        refine lv_goto (tgt := 4) hx hb dX1_allUnitsAt_34 (by decide) ?_
        have hl8 := hl
        subst hx4_2
        exact ih4 (j4 + 1) (sg_allUnitsAt_4 P x j4) _ (show ((sg_allUnitsAt_4 P x j4) : Int32) = sg_allUnitsAt_4 P x (j4 + 1) from by rw [sg_allUnitsAt_4, if_neg c_2]) (by omega) (by omega) (lv_sub hl8 [0, 1, 2, 3] rfl)
      · refine lv_iload_n hx hb dX1_allUnitsAt_22 rfl (lv_at hl 1 rfl) ?_
        refine lv_aload_n hx hb dX1_allUnitsAt_23 rfl (lv_at hl 2 rfl) ?_
        refine va_get (D := D) (ci := 1) (v := .ref (a 42)) (C := RX1) (T := TX1) (N := 6) hx hb hts in1 hown hK hP 0 rfl rfl 3 (by decide) (hts (.fieldLink RX1 18 "Granary$Lots" "units" "[I") (by decide +kernel)) (fun _ h9 => h9) rfl dX1_allUnitsAt_24 ?_
        refine lv_iload_n hx hb dX1_allUnitsAt_27 rfl (lv_at hl 0 rfl) ?_
        refine sg_iald hx hb hK hP 3 0 rfl rfl (j := j4) rfl (by omega) (Nat.le_of_ble_eq_true rfl) dX1_allUnitsAt_28 ?_
        refine lv_toi (y := P 42 j4) rfl ?_
        refine lv_iadd hx hb dX1_allUnitsAt_29 ?_
        refine lv_istore_n (lv' := [(2, .int (x4_2 + (P 42 j4))), (3, .int (nI j4)), (0, .ref (a 4)), (1, .int x)]) hx hb dX1_allUnitsAt_30 rfl hl (by decide) rfl (fun ls hl => ?_)
        refine lv_iinc (v := nI (j4 + 1)) (lv' := [(3, .int (nI (j4 + 1))), (2, .int (x4_2 + (P 42 j4))), (0, .ref (a 4)), (1, .int x)]) hx hb dX1_allUnitsAt_31 hl (k := 1) rfl (nI_1 j4) (by decide) rfl (fun ls hl => ?_)
        refine lv_goto (tgt := 4) hx hb dX1_allUnitsAt_34 (by decide) ?_
        have hl8 := hl
        subst hx4_2
        exact ih4 (j4 + 1) ((sg_allUnitsAt_4 P x j4) + (P 42 j4)) _ (show ((sg_allUnitsAt_4 P x j4) + (P 42 j4) : Int32) = sg_allUnitsAt_4 P x (j4 + 1) from by rw [sg_allUnitsAt_4, if_pos c_2]) (by omega) (by omega) (lv_sub hl8 [0, 1, 2, 3] rfl)

def sg_openUnitsFrom_5 (P : sg_Pic) (x : Int32) (y : Int32) : Nat → Int32
  | 0 => 0
  | j5 + 1 => (if (P 57 j5) = 0 then (if (sg_isFrom P j5 x y) = 0 then (sg_openUnitsFrom_5 P x y j5) else ((sg_openUnitsFrom_5 P x y j5) + (P 52 j5))) else (sg_openUnitsFrom_5 P x y j5))

def sg_openUnitsFrom (P : sg_Pic) (x : Int32) (y : Int32) : Int32 := (sg_openUnitsFrom_5 P x y (sg_cn P 4))

set_option maxHeartbeats 4000000 in
set_option maxRecDepth 100000 in
/-- X2_openUnitsFrom -/
theorem c_openUnitsFrom (l : Launch) (D : va_G) (cI cZ cJ : ClassId) (lo sz : Nat) (a : Nat → Nat) (P : sg_Pic) (x : Int32) (y : Int32) (hw : sg_W P) : Met l yX2_openUnitsFrom wsX2_openUnitsFrom ({ frames := 1, cells := 0, slots := 0, locals := 23 }) (Pre lo D cI cZ cJ [.ref (a 5), .int x, .int y] sz [(a 5, .inr (2, [.int (P 0 4), .ref (a 50), .ref (a 51), .ref (a 52), .ref (a 53), .ref (a 54), .ref (a 55), .ref (a 56), .ref (a 57), .ref (a 58), .ref (a 59)])), (a 50, .inl (cI, 60, .inl (P 50))), (a 51, .inl (cI, 60, .inl (P 51))), (a 52, .inl (cI, 60, .inl (P 52))), (a 53, .inl (cI, 60, .inl (P 53))), (a 54, .inl (cI, 60, .inl (P 54))), (a 55, .inl (cI, 60, .inl (P 55))), (a 56, .inl (cI, 60, .inl (P 56))), (a 57, .inl (cI, 60, .inl (P 57))), (a 58, .inl (cI, 60, .inl (P 58))), (a 59, .inl (cI, 12000, .inl (P 59)))]) (vp_Si (fun r => r = sg_openUnitsFrom P x y)) 0 0 (fun _ => False) := by
  refine Met.ofW (cc := cX2_openUnitsFrom) (maxL := 5) (ret := (some .int)) (by decide) rfl ?_
  intro p e s m args below meth c s₁ B hml hv
  obtain ⟨rfl, hsz, hP, hD0, hC⟩ := hv
  have hx := B.exec
  have hb := B.bytes
  have hr := B.returns
  have hts := atoms_spec (ws := wsX2_openUnitsFrom) B.pre
  have hown : s.vm.findClass RX2 = some m.cls := findClass_of_methodNamed B.named
  have hlocks := B.notSynchronized
  subst hsz
  have hn1 : sg_cn P 1 ≤ 6 := hw.n1
  have hn2 : sg_cn P 2 ≤ 5 := hw.n2
  have hn3 : sg_cn P 3 ≤ 200 := hw.n3
  have hn4 : sg_cn P 4 ≤ 60 := hw.n4
  have hn5 : sg_cn P 5 ≤ 90 := hw.n5
  have hK := hC.K
  have hD := hD0
  have hS : va_S (fun q => lo ≤ q) s.heap s.heap [] := va_S.rf
  have hAlo : ∀ q, (fun q => lo ≤ q) q → lo ≤ q := fun _ h => h
  have hL : ∀ q ∈ ([] : List Loc), (fun _ : Addr => False) q.base := fun q h => by cases h
  have hP : va_P D vwCl [(a 5, .inr (2, [.int (P 0 4), .ref (a 50), .ref (a 51), .ref (a 52), .ref (a 53), .ref (a 54), .ref (a 55), .ref (a 56), .ref (a 57), .ref (a 58), .ref (a 59)])), (a 50, .inl (cI, 60, .inl (P 50))), (a 51, .inl (cI, 60, .inl (P 51))), (a 52, .inl (cI, 60, .inl (P 52))), (a 53, .inl (cI, 60, .inl (P 53))), (a 54, .inl (cI, 60, .inl (P 54))), (a 55, .inl (cI, 60, .inl (P 55))), (a 56, .inl (cI, 60, .inl (P 56))), (a 57, .inl (cI, 60, .inl (P 57))), (a 58, .inl (cI, 60, .inl (P 58))), (a 59, .inl (cI, 12000, .inl (P 59)))] s.heap := hP
  have hl := lv_entry ([.ref (a 5), .int x, .int y]) (n := 5) (Nat.le_of_ble_eq_true rfl)
  rw [lg_entry_eq]
  generalize (lg_sl ([.ref (a 5), .int x, .int y]) ++ List.replicate (5 - (lg_sl ([.ref (a 5), .int x, .int y])).length) Slot.unset).toArray = ls at hl ⊢
  have hl : lv_has ls 5 [(0, .ref (a 5)), (1, .int x), (2, .int y)] := hl
  have in2 : ∀ w ∈ u_ws RX2 TX2 11, w ∈ wsX2_openUnitsFrom := by decide +kernel
  refine lv_iconst (v := 0) hx hb dX2_openUnitsFrom_0 (by decide) ?_
  refine lv_istore_n (lv' := [(3, .int 0), (0, .ref (a 5)), (1, .int x), (2, .int y)]) hx hb dX2_openUnitsFrom_1 rfl hl (by decide) rfl (fun ls hl => ?_)
  refine lv_iconst (v := 0) hx hb dX2_openUnitsFrom_2 (by decide) ?_
  refine lv_istore (lv' := [(4, .int 0), (3, .int 0), (0, .ref (a 5)), (1, .int x), (2, .int y)]) hx hb dX2_openUnitsFrom_3 hl (by decide) rfl (fun ls hl => ?_)
  obtain ⟨j5, h0j5⟩ : ∃ j : Nat, j = 0 := ⟨_, rfl⟩
  obtain ⟨x5_3, hx5_3⟩ : ∃ z9 : Int32, z9 = sg_openUnitsFrom_5 P x y j5 := ⟨_, rfl⟩
  replace hl : lv_has ls 5 [(4, .int (nI j5)), (3, .int x5_3), (0, .ref (a 5)), (1, .int x), (2, .int y)] := by rw [hx5_3, h0j5]; exact hl
  have hjj5 : j5 ≤ sg_cn P 4 := by omega
  clear h0j5
  obtain ⟨n5, hn5⟩ : ∃ n : Nat, sg_cn P 4 < j5 + n := ⟨sg_cn P 4 + 1, by omega⟩
  revert hl
  revert hn5
  revert hjj5
  revert hx5_3
  revert ls
  revert x5_3
  revert j5
  induction n5 with
  | zero =>
    intro j5 x5_3 ls hx5_3 hjj5 hn5 hl
    exact absurd hn5 (by omega)
  | succ n5 ih5 =>
    intro j5 x5_3 ls hx5_3 hjj5 hn5 hl
    refine lv_iload hx hb dX2_openUnitsFrom_5 (lv_at hl 0 rfl) ?_
    refine lv_aload_n hx hb dX2_openUnitsFrom_7 rfl (lv_at hl 2 rfl) ?_
    refine va_get (D := D) (ci := 2) (v := .int (P 0 4)) (C := RX2) (T := TX2) (N := 11) hx hb hts in2 hown hK hP 0 rfl rfl 0 (by decide) (hts (.fieldLink RX2 42 "Granary$Orders" "count" "I") (by decide +kernel)) (fun _ h9 => h9) rfl dX2_openUnitsFrom_8 ?_
    have hB5 : ((P 0 4) : Int32) = nI (sg_cn P 4) := (hw.e4)
    refine lv_icmp_ge (tgt := 51) hx hb dX2_openUnitsFrom_11 (by decide) (fun c_1 => ?_) (fun c_1 => ?_)
    · have hE5 : sg_cn P 4 = j5 := (sg_eq hB5 c_1 hjj5 (by omega)).symm
      clear ih5 hn5
      subst hE5
      subst hx5_3
      refine lv_iload_n hx hb dX2_openUnitsFrom_51 rfl (lv_at hl 1 rfl) ?_
      exact W.iret (v := (sg_openUnitsFrom_5 P x y (sg_cn P 4))) hx hb hr (fun t ht hW => ⟨(sg_openUnitsFrom_5 P x y (sg_cn P 4)), rfl, rfl, ht⟩) hL dX2_openUnitsFrom_52
    · have hL5 : j5 < sg_cn P 4 := sg_lt hB5 c_1 (by omega)
      refine lv_aload_n hx hb dX2_openUnitsFrom_14 rfl (lv_at hl 2 rfl) ?_
      refine va_get (D := D) (ci := 2) (v := .ref (a 57)) (C := RX2) (T := TX2) (N := 11) hx hb hts in2 hown hK hP 0 rfl rfl 8 (by decide) (hts (.fieldLink RX2 33 "Granary$Orders" "state" "[I") (by decide +kernel)) (fun _ h9 => h9) rfl dX2_openUnitsFrom_15 ?_
      refine lv_iload hx hb dX2_openUnitsFrom_18 (lv_at hl 0 rfl) ?_
      refine sg_iald hx hb hK hP 8 0 rfl rfl (j := j5) rfl (by omega) (Nat.le_of_ble_eq_true rfl) dX2_openUnitsFrom_20 ?_
      refine lv_toi (y := P 57 j5) rfl ?_
      refine lv_if_ne (tgt := 45) hx hb dX2_openUnitsFrom_21 (by decide) (fun c_2 => ?_) (fun c_2 => ?_)
      · refine lv_iinc (v := nI (j5 + 1)) (lv' := [(4, .int (nI (j5 + 1))), (3, .int x5_3), (0, .ref (a 5)), (1, .int x), (2, .int y)]) hx hb dX2_openUnitsFrom_45 hl (k := 0) rfl (nI_1 j5) (by decide) rfl (fun ls hl => ?_)
        refine lv_goto (tgt := 5) hx hb dX2_openUnitsFrom_48 (by decide) ?_
        have hl8 := hl
        subst hx5_3
        exact ih5 (j5 + 1) (sg_openUnitsFrom_5 P x y j5) _ (show ((sg_openUnitsFrom_5 P x y j5) : Int32) = sg_openUnitsFrom_5 P x y (j5 + 1) from by rw [sg_openUnitsFrom_5, if_neg c_2]) (by omega) (by omega) (lv_sub hl8 [0, 1, 2, 3, 4] rfl)
      · refine lv_aload_n hx hb dX2_openUnitsFrom_24 rfl (lv_at hl 2 rfl) ?_
        refine lv_iload hx hb dX2_openUnitsFrom_25 (lv_at hl 0 rfl) ?_
        refine lv_iload_n hx hb dX2_openUnitsFrom_27 rfl (lv_at hl 3 rfl) ?_
        refine lv_iload_n hx hb dX2_openUnitsFrom_28 rfl (lv_at hl 4 rfl) ?_
        have hPc := hP.sub (ws' := [(a 5, .inr (2, [.int (P 0 4), .ref (a 50), .ref (a 51), .ref (a 52), .ref (a 53), .ref (a 54), .ref (a 55), .ref (a 56), .ref (a 57), .ref (a 58), .ref (a 59)])), (a 50, .inl (cI, 60, .inl (P 50))), (a 51, .inl (cI, 60, .inl (P 51)))]) [0, 1, 2] rfl
        have hDc := hD.sub (ws' := [(a 5, .inr (2, [.int (P 0 4), .ref (a 50), .ref (a 51), .ref (a 52), .ref (a 53), .ref (a 54), .ref (a 55), .ref (a 56), .ref (a 57), .ref (a 58), .ref (a 59)])), (a 50, .inl (cI, 60, .inl (P 50))), (a 51, .inl (cI, 60, .inl (P 51)))]) [0, 1, 2] (by decide) rfl
        refine vp_callSi (W.runV (As := [.int (nI j5), .int x, .int y]) (rest := []) ⟨hx, hb, hml, hown, hts⟩ (c_isFrom l D cI cZ cJ lo s.heap.size a P j5 x y (by omega)) (cwV 3 hts gX2_openUnitsFrom_X2_isFrom rfl rfl rfl (by decide +kernel) ⟨(Nat.le_of_ble_eq_true rfl), (Nat.le_of_ble_eq_true rfl)⟩) ⟨Pre.blind, va_recv hK hP (ci := 2) (q0 := 0) rfl rfl, Pre.mk hPc (hDc.weaken (fun _ _ _ h => hAlo _ h)) hC hS hAlo⟩ rfl rfl hl.1 rfl (lv_room (Nat.le_of_ble_eq_true rfl)) dX2_openUnitsFrom_29 ⟨(Nat.le_of_ble_eq_true rfl), (Nat.le_of_ble_eq_true rfl)⟩) (fun r_3 e_4 => ?_)
        clear hPc hDc
        have e_4 : sg_isFrom P j5 x y = r_3 := Eq.symm e_4
        subst e_4
        refine lv_if_eq (tgt := 45) hx hb dX2_openUnitsFrom_32 (by decide) (fun c_5 => ?_) (fun c_5 => ?_)
        · refine lv_iinc (v := nI (j5 + 1)) (lv' := [(4, .int (nI (j5 + 1))), (3, .int x5_3), (0, .ref (a 5)), (1, .int x), (2, .int y)]) hx hb dX2_openUnitsFrom_45 hl (k := 0) rfl (nI_1 j5) (by decide) rfl (fun ls hl => ?_)
          refine lv_goto (tgt := 5) hx hb dX2_openUnitsFrom_48 (by decide) ?_
          have hl8 := hl
          subst hx5_3
          exact ih5 (j5 + 1) (sg_openUnitsFrom_5 P x y j5) _ (show ((sg_openUnitsFrom_5 P x y j5) : Int32) = sg_openUnitsFrom_5 P x y (j5 + 1) from by rw [sg_openUnitsFrom_5, if_pos c_2, if_pos c_5]) (by omega) (by omega) (lv_sub hl8 [0, 1, 2, 3, 4] rfl)
        · refine lv_iload_n hx hb dX2_openUnitsFrom_35 rfl (lv_at hl 1 rfl) ?_
          refine lv_aload_n hx hb dX2_openUnitsFrom_36 rfl (lv_at hl 2 rfl) ?_
          refine va_get (D := D) (ci := 2) (v := .ref (a 52)) (C := RX2) (T := TX2) (N := 11) hx hb hts in2 hown hK hP 0 rfl rfl 3 (by decide) (hts (.fieldLink RX2 18 "Granary$Orders" "units" "[I") (by decide +kernel)) (fun _ h9 => h9) rfl dX2_openUnitsFrom_37 ?_
          refine lv_iload hx hb dX2_openUnitsFrom_40 (lv_at hl 0 rfl) ?_
          refine sg_iald hx hb hK hP 3 0 rfl rfl (j := j5) rfl (by omega) (Nat.le_of_ble_eq_true rfl) dX2_openUnitsFrom_42 ?_
          refine lv_toi (y := P 52 j5) rfl ?_
          refine lv_iadd hx hb dX2_openUnitsFrom_43 ?_
          refine lv_istore_n (lv' := [(3, .int (x5_3 + (P 52 j5))), (4, .int (nI j5)), (0, .ref (a 5)), (1, .int x), (2, .int y)]) hx hb dX2_openUnitsFrom_44 rfl hl (by decide) rfl (fun ls hl => ?_)
          refine lv_iinc (v := nI (j5 + 1)) (lv' := [(4, .int (nI (j5 + 1))), (3, .int (x5_3 + (P 52 j5))), (0, .ref (a 5)), (1, .int x), (2, .int y)]) hx hb dX2_openUnitsFrom_45 hl (k := 1) rfl (nI_1 j5) (by decide) rfl (fun ls hl => ?_)
          refine lv_goto (tgt := 5) hx hb dX2_openUnitsFrom_48 (by decide) ?_
          have hl8 := hl
          subst hx5_3
          exact ih5 (j5 + 1) ((sg_openUnitsFrom_5 P x y j5) + (P 52 j5)) _ (show ((sg_openUnitsFrom_5 P x y j5) + (P 52 j5) : Int32) = sg_openUnitsFrom_5 P x y (j5 + 1) from by rw [sg_openUnitsFrom_5, if_pos c_2, if_neg c_5]) (by omega) (by omega) (lv_sub hl8 [0, 1, 2, 3, 4] rfl)

def sg_useWithin_6 (P : sg_Pic) (x : Int32) (y : Int32) (z : Int32) (v : Int32) : Nat → Int32
  | 0 => 0
  | j6 + 1 => (if (P 57 j6) = 2 then (sg_useWithin_6 P x y z v j6) else (if (sg_isFrom P j6 x y) = 0 then (sg_useWithin_6 P x y z v j6) else (if (P 54 j6) < z then (sg_useWithin_6 P x y z v j6) else (if v < (P 54 j6) then (sg_useWithin_6 P x y z v j6) else ((sg_useWithin_6 P x y z v j6) + (P 52 j6))))))

def sg_useWithin (P : sg_Pic) (x : Int32) (y : Int32) (z : Int32) (v : Int32) : Int32 := (sg_useWithin_6 P x y z v (sg_cn P 4))

set_option maxHeartbeats 4000000 in
set_option maxRecDepth 100000 in
/-- X2_useWithin -/
theorem c_useWithin (l : Launch) (D : va_G) (cI cZ cJ : ClassId) (lo sz : Nat) (a : Nat → Nat) (P : sg_Pic) (x : Int32) (y : Int32) (z : Int32) (v : Int32) (hw : sg_W P) : Met l yX2_useWithin wsX2_useWithin ({ frames := 1, cells := 0, slots := 0, locals := 23 }) (Pre lo D cI cZ cJ [.ref (a 5), .int x, .int y, .int z, .int v] sz [(a 5, .inr (2, [.int (P 0 4), .ref (a 50), .ref (a 51), .ref (a 52), .ref (a 53), .ref (a 54), .ref (a 55), .ref (a 56), .ref (a 57), .ref (a 58), .ref (a 59)])), (a 50, .inl (cI, 60, .inl (P 50))), (a 51, .inl (cI, 60, .inl (P 51))), (a 52, .inl (cI, 60, .inl (P 52))), (a 53, .inl (cI, 60, .inl (P 53))), (a 54, .inl (cI, 60, .inl (P 54))), (a 55, .inl (cI, 60, .inl (P 55))), (a 56, .inl (cI, 60, .inl (P 56))), (a 57, .inl (cI, 60, .inl (P 57))), (a 58, .inl (cI, 60, .inl (P 58))), (a 59, .inl (cI, 12000, .inl (P 59)))]) (vp_Si (fun r => r = sg_useWithin P x y z v)) 0 0 (fun _ => False) := by
  refine Met.ofW (cc := cX2_useWithin) (maxL := 7) (ret := (some .int)) (by decide) rfl ?_
  intro p e s m args below meth c s₁ B hml hv
  obtain ⟨rfl, hsz, hP, hD0, hC⟩ := hv
  have hx := B.exec
  have hb := B.bytes
  have hr := B.returns
  have hts := atoms_spec (ws := wsX2_useWithin) B.pre
  have hown : s.vm.findClass RX2 = some m.cls := findClass_of_methodNamed B.named
  have hlocks := B.notSynchronized
  subst hsz
  have hn1 : sg_cn P 1 ≤ 6 := hw.n1
  have hn2 : sg_cn P 2 ≤ 5 := hw.n2
  have hn3 : sg_cn P 3 ≤ 200 := hw.n3
  have hn4 : sg_cn P 4 ≤ 60 := hw.n4
  have hn5 : sg_cn P 5 ≤ 90 := hw.n5
  have hK := hC.K
  have hD := hD0
  have hS : va_S (fun q => lo ≤ q) s.heap s.heap [] := va_S.rf
  have hAlo : ∀ q, (fun q => lo ≤ q) q → lo ≤ q := fun _ h => h
  have hL : ∀ q ∈ ([] : List Loc), (fun _ : Addr => False) q.base := fun q h => by cases h
  have hP : va_P D vwCl [(a 5, .inr (2, [.int (P 0 4), .ref (a 50), .ref (a 51), .ref (a 52), .ref (a 53), .ref (a 54), .ref (a 55), .ref (a 56), .ref (a 57), .ref (a 58), .ref (a 59)])), (a 50, .inl (cI, 60, .inl (P 50))), (a 51, .inl (cI, 60, .inl (P 51))), (a 52, .inl (cI, 60, .inl (P 52))), (a 53, .inl (cI, 60, .inl (P 53))), (a 54, .inl (cI, 60, .inl (P 54))), (a 55, .inl (cI, 60, .inl (P 55))), (a 56, .inl (cI, 60, .inl (P 56))), (a 57, .inl (cI, 60, .inl (P 57))), (a 58, .inl (cI, 60, .inl (P 58))), (a 59, .inl (cI, 12000, .inl (P 59)))] s.heap := hP
  have hl := lv_entry ([.ref (a 5), .int x, .int y, .int z, .int v]) (n := 7) (Nat.le_of_ble_eq_true rfl)
  rw [lg_entry_eq]
  generalize (lg_sl ([.ref (a 5), .int x, .int y, .int z, .int v]) ++ List.replicate (7 - (lg_sl ([.ref (a 5), .int x, .int y, .int z, .int v])).length) Slot.unset).toArray = ls at hl ⊢
  have hl : lv_has ls 7 [(0, .ref (a 5)), (1, .int x), (2, .int y), (3, .int z), (4, .int v)] := hl
  have in2 : ∀ w ∈ u_ws RX2 TX2 11, w ∈ wsX2_useWithin := by decide +kernel
  refine lv_iconst (v := 0) hx hb dX2_useWithin_0 (by decide) ?_
  refine lv_istore (lv' := [(5, .int 0), (0, .ref (a 5)), (1, .int x), (2, .int y), (3, .int z), (4, .int v)]) hx hb dX2_useWithin_1 hl (by decide) rfl (fun ls hl => ?_)
  refine lv_iconst (v := 0) hx hb dX2_useWithin_3 (by decide) ?_
  refine lv_istore (lv' := [(6, .int 0), (5, .int 0), (0, .ref (a 5)), (1, .int x), (2, .int y), (3, .int z), (4, .int v)]) hx hb dX2_useWithin_4 hl (by decide) rfl (fun ls hl => ?_)
  obtain ⟨j6, h0j6⟩ : ∃ j : Nat, j = 0 := ⟨_, rfl⟩
  obtain ⟨x6_5, hx6_5⟩ : ∃ z9 : Int32, z9 = sg_useWithin_6 P x y z v j6 := ⟨_, rfl⟩
  replace hl : lv_has ls 7 [(6, .int (nI j6)), (5, .int x6_5), (0, .ref (a 5)), (1, .int x), (2, .int y), (3, .int z), (4, .int v)] := by rw [hx6_5, h0j6]; exact hl
  have hjj6 : j6 ≤ sg_cn P 4 := by omega
  clear h0j6
  obtain ⟨n6, hn6⟩ : ∃ n : Nat, sg_cn P 4 < j6 + n := ⟨sg_cn P 4 + 1, by omega⟩
  revert hl
  revert hn6
  revert hjj6
  revert hx6_5
  revert ls
  revert x6_5
  revert j6
  induction n6 with
  | zero =>
    intro j6 x6_5 ls hx6_5 hjj6 hn6 hl
    exact absurd hn6 (by omega)
  | succ n6 ih6 =>
    intro j6 x6_5 ls hx6_5 hjj6 hn6 hl
    refine lv_iload hx hb dX2_useWithin_6 (lv_at hl 0 rfl) ?_
    refine lv_aload_n hx hb dX2_useWithin_8 rfl (lv_at hl 2 rfl) ?_
    refine va_get (D := D) (ci := 2) (v := .int (P 0 4)) (C := RX2) (T := TX2) (N := 11) hx hb hts in2 hown hK hP 0 rfl rfl 0 (by decide) (hts (.fieldLink RX2 42 "Granary$Orders" "count" "I") (by decide +kernel)) (fun _ h9 => h9) rfl dX2_useWithin_9 ?_
    have hB6 : ((P 0 4) : Int32) = nI (sg_cn P 4) := (hw.e4)
    refine lv_icmp_ge (tgt := 78) hx hb dX2_useWithin_12 (by decide) (fun c_1 => ?_) (fun c_1 => ?_)
    · have hE6 : sg_cn P 4 = j6 := (sg_eq hB6 c_1 hjj6 (by omega)).symm
      clear ih6 hn6
      subst hE6
      subst hx6_5
      refine lv_iload hx hb dX2_useWithin_78 (lv_at hl 1 rfl) ?_
      exact W.iret (v := (sg_useWithin_6 P x y z v (sg_cn P 4))) hx hb hr (fun t ht hW => ⟨(sg_useWithin_6 P x y z v (sg_cn P 4)), rfl, rfl, ht⟩) hL dX2_useWithin_80
    · have hL6 : j6 < sg_cn P 4 := sg_lt hB6 c_1 (by omega)
      refine lv_aload_n hx hb dX2_useWithin_15 rfl (lv_at hl 2 rfl) ?_
      refine va_get (D := D) (ci := 2) (v := .ref (a 57)) (C := RX2) (T := TX2) (N := 11) hx hb hts in2 hown hK hP 0 rfl rfl 8 (by decide) (hts (.fieldLink RX2 33 "Granary$Orders" "state" "[I") (by decide +kernel)) (fun _ h9 => h9) rfl dX2_useWithin_16 ?_
      refine lv_iload hx hb dX2_useWithin_19 (lv_at hl 0 rfl) ?_
      refine sg_iald hx hb hK hP 8 0 rfl rfl (j := j6) rfl (by omega) (Nat.le_of_ble_eq_true rfl) dX2_useWithin_21 ?_
      refine lv_toi (y := P 57 j6) rfl ?_
      refine lv_iconst (v := 2) hx hb dX2_useWithin_22 (by decide) ?_
      refine lv_icmp_eq (tgt := 72) hx hb dX2_useWithin_23 (by decide) (fun c_2 => ?_) (fun c_2 => ?_)
      · refine lv_iinc (v := nI (j6 + 1)) (lv' := [(6, .int (nI (j6 + 1))), (5, .int x6_5), (0, .ref (a 5)), (1, .int x), (2, .int y), (3, .int z), (4, .int v)]) hx hb dX2_useWithin_72 hl (k := 0) rfl (nI_1 j6) (by decide) rfl (fun ls hl => ?_)
        refine lv_goto (tgt := 6) hx hb dX2_useWithin_75 (by decide) ?_
        have hl8 := hl
        subst hx6_5
        exact ih6 (j6 + 1) (sg_useWithin_6 P x y z v j6) _ (show ((sg_useWithin_6 P x y z v j6) : Int32) = sg_useWithin_6 P x y z v (j6 + 1) from by rw [sg_useWithin_6, if_pos c_2]) (by omega) (by omega) (lv_sub hl8 [0, 1, 2, 3, 4, 5, 6] rfl)
      · refine lv_aload_n hx hb dX2_useWithin_26 rfl (lv_at hl 2 rfl) ?_
        refine lv_iload hx hb dX2_useWithin_27 (lv_at hl 0 rfl) ?_
        refine lv_iload_n hx hb dX2_useWithin_29 rfl (lv_at hl 3 rfl) ?_
        refine lv_iload_n hx hb dX2_useWithin_30 rfl (lv_at hl 4 rfl) ?_
        have hPc := hP.sub (ws' := [(a 5, .inr (2, [.int (P 0 4), .ref (a 50), .ref (a 51), .ref (a 52), .ref (a 53), .ref (a 54), .ref (a 55), .ref (a 56), .ref (a 57), .ref (a 58), .ref (a 59)])), (a 50, .inl (cI, 60, .inl (P 50))), (a 51, .inl (cI, 60, .inl (P 51)))]) [0, 1, 2] rfl
        have hDc := hD.sub (ws' := [(a 5, .inr (2, [.int (P 0 4), .ref (a 50), .ref (a 51), .ref (a 52), .ref (a 53), .ref (a 54), .ref (a 55), .ref (a 56), .ref (a 57), .ref (a 58), .ref (a 59)])), (a 50, .inl (cI, 60, .inl (P 50))), (a 51, .inl (cI, 60, .inl (P 51)))]) [0, 1, 2] (by decide) rfl
        refine vp_callSi (W.runV (As := [.int (nI j6), .int x, .int y]) (rest := []) ⟨hx, hb, hml, hown, hts⟩ (c_isFrom l D cI cZ cJ lo s.heap.size a P j6 x y (by omega)) (cwV 3 hts gX2_useWithin_X2_isFrom rfl rfl rfl (by decide +kernel) ⟨(Nat.le_of_ble_eq_true rfl), (Nat.le_of_ble_eq_true rfl)⟩) ⟨Pre.blind, va_recv hK hP (ci := 2) (q0 := 0) rfl rfl, Pre.mk hPc (hDc.weaken (fun _ _ _ h => hAlo _ h)) hC hS hAlo⟩ rfl rfl hl.1 rfl (lv_room (Nat.le_of_ble_eq_true rfl)) dX2_useWithin_31 ⟨(Nat.le_of_ble_eq_true rfl), (Nat.le_of_ble_eq_true rfl)⟩) (fun r_3 e_4 => ?_)
        clear hPc hDc
        have e_4 : sg_isFrom P j6 x y = r_3 := Eq.symm e_4
        subst e_4
        refine lv_if_eq (tgt := 72) hx hb dX2_useWithin_34 (by decide) (fun c_5 => ?_) (fun c_5 => ?_)
        · refine lv_iinc (v := nI (j6 + 1)) (lv' := [(6, .int (nI (j6 + 1))), (5, .int x6_5), (0, .ref (a 5)), (1, .int x), (2, .int y), (3, .int z), (4, .int v)]) hx hb dX2_useWithin_72 hl (k := 0) rfl (nI_1 j6) (by decide) rfl (fun ls hl => ?_)
          refine lv_goto (tgt := 6) hx hb dX2_useWithin_75 (by decide) ?_
          have hl8 := hl
          subst hx6_5
          exact ih6 (j6 + 1) (sg_useWithin_6 P x y z v j6) _ (show ((sg_useWithin_6 P x y z v j6) : Int32) = sg_useWithin_6 P x y z v (j6 + 1) from by rw [sg_useWithin_6, if_neg c_2, if_pos c_5]) (by omega) (by omega) (lv_sub hl8 [0, 1, 2, 3, 4, 5, 6] rfl)
        · refine lv_aload_n hx hb dX2_useWithin_37 rfl (lv_at hl 2 rfl) ?_
          refine va_get (D := D) (ci := 2) (v := .ref (a 54)) (C := RX2) (T := TX2) (N := 11) hx hb hts in2 hown hK hP 0 rfl rfl 5 (by decide) (hts (.fieldLink RX2 24 "Granary$Orders" "due" "[I") (by decide +kernel)) (fun _ h9 => h9) rfl dX2_useWithin_38 ?_
          refine lv_iload hx hb dX2_useWithin_41 (lv_at hl 0 rfl) ?_
          refine sg_iald hx hb hK hP 5 0 rfl rfl (j := j6) rfl (by omega) (Nat.le_of_ble_eq_true rfl) dX2_useWithin_43 ?_
          refine lv_toi (y := P 54 j6) rfl ?_
          refine lv_iload_n hx hb dX2_useWithin_44 rfl (lv_at hl 5 rfl) ?_
          refine lv_icmp_lt (tgt := 72) hx hb dX2_useWithin_45 (by decide) (fun c_6 => ?_) (fun c_6 => ?_)
          · refine lv_iinc (v := nI (j6 + 1)) (lv' := [(6, .int (nI (j6 + 1))), (5, .int x6_5), (0, .ref (a 5)), (1, .int x), (2, .int y), (3, .int z), (4, .int v)]) hx hb dX2_useWithin_72 hl (k := 0) rfl (nI_1 j6) (by decide) rfl (fun ls hl => ?_)
            refine lv_goto (tgt := 6) hx hb dX2_useWithin_75 (by decide) ?_
            have hl8 := hl
            subst hx6_5
            exact ih6 (j6 + 1) (sg_useWithin_6 P x y z v j6) _ (show ((sg_useWithin_6 P x y z v j6) : Int32) = sg_useWithin_6 P x y z v (j6 + 1) from by rw [sg_useWithin_6, if_neg c_2, if_neg c_5, if_pos c_6]) (by omega) (by omega) (lv_sub hl8 [0, 1, 2, 3, 4, 5, 6] rfl)
          · refine lv_aload_n hx hb dX2_useWithin_48 rfl (lv_at hl 2 rfl) ?_
            refine va_get (D := D) (ci := 2) (v := .ref (a 54)) (C := RX2) (T := TX2) (N := 11) hx hb hts in2 hown hK hP 0 rfl rfl 5 (by decide) (hts (.fieldLink RX2 24 "Granary$Orders" "due" "[I") (by decide +kernel)) (fun _ h9 => h9) rfl dX2_useWithin_49 ?_
            refine lv_iload hx hb dX2_useWithin_52 (lv_at hl 0 rfl) ?_
            refine sg_iald hx hb hK hP 5 0 rfl rfl (j := j6) rfl (by omega) (Nat.le_of_ble_eq_true rfl) dX2_useWithin_54 ?_
            refine lv_toi (y := P 54 j6) rfl ?_
            refine lv_iload hx hb dX2_useWithin_55 (lv_at hl 6 rfl) ?_
            refine lv_icmp_gt (tgt := 72) hx hb dX2_useWithin_57 (by decide) (fun c_7 => ?_) (fun c_7 => ?_)
            · refine lv_iinc (v := nI (j6 + 1)) (lv' := [(6, .int (nI (j6 + 1))), (5, .int x6_5), (0, .ref (a 5)), (1, .int x), (2, .int y), (3, .int z), (4, .int v)]) hx hb dX2_useWithin_72 hl (k := 0) rfl (nI_1 j6) (by decide) rfl (fun ls hl => ?_)
              refine lv_goto (tgt := 6) hx hb dX2_useWithin_75 (by decide) ?_
              have hl8 := hl
              subst hx6_5
              exact ih6 (j6 + 1) (sg_useWithin_6 P x y z v j6) _ (show ((sg_useWithin_6 P x y z v j6) : Int32) = sg_useWithin_6 P x y z v (j6 + 1) from by rw [sg_useWithin_6, if_neg c_2, if_neg c_5, if_neg c_6, if_pos c_7]) (by omega) (by omega) (lv_sub hl8 [0, 1, 2, 3, 4, 5, 6] rfl)
            · refine lv_iload hx hb dX2_useWithin_60 (lv_at hl 1 rfl) ?_
              refine lv_aload_n hx hb dX2_useWithin_62 rfl (lv_at hl 2 rfl) ?_
              refine va_get (D := D) (ci := 2) (v := .ref (a 52)) (C := RX2) (T := TX2) (N := 11) hx hb hts in2 hown hK hP 0 rfl rfl 3 (by decide) (hts (.fieldLink RX2 18 "Granary$Orders" "units" "[I") (by decide +kernel)) (fun _ h9 => h9) rfl dX2_useWithin_63 ?_
              refine lv_iload hx hb dX2_useWithin_66 (lv_at hl 0 rfl) ?_
              refine sg_iald hx hb hK hP 3 0 rfl rfl (j := j6) rfl (by omega) (Nat.le_of_ble_eq_true rfl) dX2_useWithin_68 ?_
              refine lv_toi (y := P 52 j6) rfl ?_
              refine lv_iadd hx hb dX2_useWithin_69 ?_
              refine lv_istore (lv' := [(5, .int (x6_5 + (P 52 j6))), (6, .int (nI j6)), (0, .ref (a 5)), (1, .int x), (2, .int y), (3, .int z), (4, .int v)]) hx hb dX2_useWithin_70 hl (by decide) rfl (fun ls hl => ?_)
              refine lv_iinc (v := nI (j6 + 1)) (lv' := [(6, .int (nI (j6 + 1))), (5, .int (x6_5 + (P 52 j6))), (0, .ref (a 5)), (1, .int x), (2, .int y), (3, .int z), (4, .int v)]) hx hb dX2_useWithin_72 hl (k := 1) rfl (nI_1 j6) (by decide) rfl (fun ls hl => ?_)
              refine lv_goto (tgt := 6) hx hb dX2_useWithin_75 (by decide) ?_
              have hl8 := hl
              subst hx6_5
              exact ih6 (j6 + 1) ((sg_useWithin_6 P x y z v j6) + (P 52 j6)) _ (show ((sg_useWithin_6 P x y z v j6) + (P 52 j6) : Int32) = sg_useWithin_6 P x y z v (j6 + 1) from by rw [sg_useWithin_6, if_neg c_2, if_neg c_5, if_neg c_6, if_neg c_7]) (by omega) (by omega) (lv_sub hl8 [0, 1, 2, 3, 4, 5, 6] rfl)

def sg_allReserved_4 (P : sg_Pic) : Nat → Int32
  | 0 => 0
  | j4 + 1 => ((sg_allReserved_4 P j4) + (P 53 j4))

def sg_allReserved (P : sg_Pic) : Int32 := (sg_allReserved_4 P (sg_cn P 4))

set_option maxHeartbeats 4000000 in
set_option maxRecDepth 100000 in
/-- X2_allReserved -/
theorem c_allReserved (l : Launch) (D : va_G) (cI cZ cJ : ClassId) (lo sz : Nat) (a : Nat → Nat) (P : sg_Pic) (hw : sg_W P) : Met l yX2_allReserved wsX2_allReserved ({ frames := 0, cells := 0, slots := 0, locals := 0 }) (Pre lo D cI cZ cJ [.ref (a 5)] sz [(a 5, .inr (2, [.int (P 0 4), .ref (a 50), .ref (a 51), .ref (a 52), .ref (a 53), .ref (a 54), .ref (a 55), .ref (a 56), .ref (a 57), .ref (a 58), .ref (a 59)])), (a 50, .inl (cI, 60, .inl (P 50))), (a 51, .inl (cI, 60, .inl (P 51))), (a 52, .inl (cI, 60, .inl (P 52))), (a 53, .inl (cI, 60, .inl (P 53))), (a 54, .inl (cI, 60, .inl (P 54))), (a 55, .inl (cI, 60, .inl (P 55))), (a 56, .inl (cI, 60, .inl (P 56))), (a 57, .inl (cI, 60, .inl (P 57))), (a 58, .inl (cI, 60, .inl (P 58))), (a 59, .inl (cI, 12000, .inl (P 59)))]) (vp_Si (fun r => r = sg_allReserved P)) 0 0 (fun _ => False) := by
  refine Met.ofW (cc := cX2_allReserved) (maxL := 3) (ret := (some .int)) (by decide) rfl ?_
  intro p e s m args below meth c s₁ B hml hv
  obtain ⟨rfl, hsz, hP, hD0, hC⟩ := hv
  have hx := B.exec
  have hb := B.bytes
  have hr := B.returns
  have hts := atoms_spec (ws := wsX2_allReserved) B.pre
  have hown : s.vm.findClass RX2 = some m.cls := findClass_of_methodNamed B.named
  have hlocks := B.notSynchronized
  subst hsz
  have hn1 : sg_cn P 1 ≤ 6 := hw.n1
  have hn2 : sg_cn P 2 ≤ 5 := hw.n2
  have hn3 : sg_cn P 3 ≤ 200 := hw.n3
  have hn4 : sg_cn P 4 ≤ 60 := hw.n4
  have hn5 : sg_cn P 5 ≤ 90 := hw.n5
  have hK := hC.K
  have hD := hD0
  have hS : va_S (fun q => lo ≤ q) s.heap s.heap [] := va_S.rf
  have hAlo : ∀ q, (fun q => lo ≤ q) q → lo ≤ q := fun _ h => h
  have hL : ∀ q ∈ ([] : List Loc), (fun _ : Addr => False) q.base := fun q h => by cases h
  have hP : va_P D vwCl [(a 5, .inr (2, [.int (P 0 4), .ref (a 50), .ref (a 51), .ref (a 52), .ref (a 53), .ref (a 54), .ref (a 55), .ref (a 56), .ref (a 57), .ref (a 58), .ref (a 59)])), (a 50, .inl (cI, 60, .inl (P 50))), (a 51, .inl (cI, 60, .inl (P 51))), (a 52, .inl (cI, 60, .inl (P 52))), (a 53, .inl (cI, 60, .inl (P 53))), (a 54, .inl (cI, 60, .inl (P 54))), (a 55, .inl (cI, 60, .inl (P 55))), (a 56, .inl (cI, 60, .inl (P 56))), (a 57, .inl (cI, 60, .inl (P 57))), (a 58, .inl (cI, 60, .inl (P 58))), (a 59, .inl (cI, 12000, .inl (P 59)))] s.heap := hP
  have hl := lv_entry ([.ref (a 5)]) (n := 3) (Nat.le_of_ble_eq_true rfl)
  rw [lg_entry_eq]
  generalize (lg_sl ([.ref (a 5)]) ++ List.replicate (3 - (lg_sl ([.ref (a 5)])).length) Slot.unset).toArray = ls at hl ⊢
  have hl : lv_has ls 3 [(0, .ref (a 5))] := hl
  have in2 : ∀ w ∈ u_ws RX2 TX2 11, w ∈ wsX2_allReserved := by decide +kernel
  refine lv_iconst (v := 0) hx hb dX2_allReserved_0 (by decide) ?_
  refine lv_istore_n (lv' := [(1, .int 0), (0, .ref (a 5))]) hx hb dX2_allReserved_1 rfl hl (by decide) rfl (fun ls hl => ?_)
  refine lv_iconst (v := 0) hx hb dX2_allReserved_2 (by decide) ?_
  refine lv_istore_n (lv' := [(2, .int 0), (1, .int 0), (0, .ref (a 5))]) hx hb dX2_allReserved_3 rfl hl (by decide) rfl (fun ls hl => ?_)
  obtain ⟨j4, h0j4⟩ : ∃ j : Nat, j = 0 := ⟨_, rfl⟩
  obtain ⟨x4_1, hx4_1⟩ : ∃ z9 : Int32, z9 = sg_allReserved_4 P j4 := ⟨_, rfl⟩
  replace hl : lv_has ls 3 [(2, .int (nI j4)), (1, .int x4_1), (0, .ref (a 5))] := by rw [hx4_1, h0j4]; exact hl
  have hjj4 : j4 ≤ sg_cn P 4 := by omega
  clear h0j4
  obtain ⟨n4, hn4⟩ : ∃ n : Nat, sg_cn P 4 < j4 + n := ⟨sg_cn P 4 + 1, by omega⟩
  revert hl
  revert hn4
  revert hjj4
  revert hx4_1
  revert ls
  revert x4_1
  revert j4
  induction n4 with
  | zero =>
    intro j4 x4_1 ls hx4_1 hjj4 hn4 hl
    exact absurd hn4 (by omega)
  | succ n4 ih4 =>
    intro j4 x4_1 ls hx4_1 hjj4 hn4 hl
    refine lv_iload_n hx hb dX2_allReserved_4 rfl (lv_at hl 0 rfl) ?_
    refine lv_aload_n hx hb dX2_allReserved_5 rfl (lv_at hl 2 rfl) ?_
    refine va_get (D := D) (ci := 2) (v := .int (P 0 4)) (C := RX2) (T := TX2) (N := 11) hx hb hts in2 hown hK hP 0 rfl rfl 0 (by decide) (hts (.fieldLink RX2 42 "Granary$Orders" "count" "I") (by decide +kernel)) (fun _ h9 => h9) rfl dX2_allReserved_6 ?_
    have hB4 : ((P 0 4) : Int32) = nI (sg_cn P 4) := (hw.e4)
    refine lv_icmp_ge (tgt := 27) hx hb dX2_allReserved_9 (by decide) (fun c_1 => ?_) (fun c_1 => ?_)
    · have hE4 : sg_cn P 4 = j4 := (sg_eq hB4 c_1 hjj4 (by omega)).symm
      clear ih4 hn4
      subst hE4
      subst hx4_1
      refine lv_iload_n hx hb dX2_allReserved_27 rfl (lv_at hl 1 rfl) ?_
      exact W.iret (v := (sg_allReserved_4 P (sg_cn P 4))) hx hb hr (fun t ht hW => ⟨(sg_allReserved_4 P (sg_cn P 4)), rfl, rfl, ht⟩) hL dX2_allReserved_28
    · have hL4 : j4 < sg_cn P 4 := sg_lt hB4 c_1 (by omega)
      refine lv_iload_n hx hb dX2_allReserved_12 rfl (lv_at hl 1 rfl) ?_
      refine lv_aload_n hx hb dX2_allReserved_13 rfl (lv_at hl 2 rfl) ?_
      refine va_get (D := D) (ci := 2) (v := .ref (a 53)) (C := RX2) (T := TX2) (N := 11) hx hb hts in2 hown hK hP 0 rfl rfl 4 (by decide) (hts (.fieldLink RX2 21 "Granary$Orders" "reserved" "[I") (by decide +kernel)) (fun _ h9 => h9) rfl dX2_allReserved_14 ?_
      refine lv_iload_n hx hb dX2_allReserved_17 rfl (lv_at hl 0 rfl) ?_
      refine sg_iald hx hb hK hP 4 0 rfl rfl (j := j4) rfl (by omega) (Nat.le_of_ble_eq_true rfl) dX2_allReserved_18 ?_
      refine lv_toi (y := P 53 j4) rfl ?_
      refine lv_iadd hx hb dX2_allReserved_19 ?_
      refine lv_istore_n (lv' := [(1, .int (x4_1 + (P 53 j4))), (2, .int (nI j4)), (0, .ref (a 5))]) hx hb dX2_allReserved_20 rfl hl (by decide) rfl (fun ls hl => ?_)
      refine lv_iinc (v := nI (j4 + 1)) (lv' := [(2, .int (nI (j4 + 1))), (1, .int (x4_1 + (P 53 j4))), (0, .ref (a 5))]) hx hb dX2_allReserved_21 hl (k := 1) rfl (nI_1 j4) (by decide) rfl (fun ls hl => ?_)
      refine lv_goto (tgt := 4) hx hb dX2_allReserved_24 (by decide) ?_
      have hl8 := hl
      subst hx4_1
      exact ih4 (j4 + 1) ((sg_allReserved_4 P j4) + (P 53 j4)) _ rfl (by omega) (by omega) (lv_sub hl8 [0, 1, 2] rfl)

def sg_unitsTo_5 (P : sg_Pic) (x : Int32) (y : Int32) : Nat → Int32
  | 0 => 0
  | j5 + 1 => (if (P 65 j5) = 1 then (if (P 60 j5) = x then (if (P 61 j5) = y then ((sg_unitsTo_5 P x y j5) + (P 62 j5)) else (sg_unitsTo_5 P x y j5)) else (sg_unitsTo_5 P x y j5)) else (sg_unitsTo_5 P x y j5))

def sg_unitsTo (P : sg_Pic) (x : Int32) (y : Int32) : Int32 := (sg_unitsTo_5 P x y (sg_cn P 5))

set_option maxHeartbeats 4000000 in
set_option maxRecDepth 100000 in
/-- X7_unitsTo -/
theorem c_unitsTo (l : Launch) (D : va_G) (cI cZ cJ : ClassId) (lo sz : Nat) (a : Nat → Nat) (P : sg_Pic) (x : Int32) (y : Int32) (hw : sg_W P) : Met l yX7_unitsTo wsX7_unitsTo ({ frames := 0, cells := 0, slots := 0, locals := 0 }) (Pre lo D cI cZ cJ [.ref (a 6), .int x, .int y] sz [(a 6, .inr (7, [.int (P 0 5), .ref (a 60), .ref (a 61), .ref (a 62), .ref (a 63), .ref (a 64), .ref (a 65)])), (a 60, .inl (cI, 90, .inl (P 60))), (a 61, .inl (cI, 90, .inl (P 61))), (a 62, .inl (cI, 90, .inl (P 62))), (a 63, .inl (cI, 90, .inl (P 63))), (a 64, .inl (cI, 90, .inl (P 64))), (a 65, .inl (cI, 90, .inl (P 65)))]) (vp_Si (fun r => r = sg_unitsTo P x y)) 0 0 (fun _ => False) := by
  refine Met.ofW (cc := cX7_unitsTo) (maxL := 5) (ret := (some .int)) (by decide) rfl ?_
  intro p e s m args below meth c s₁ B hml hv
  obtain ⟨rfl, hsz, hP, hD0, hC⟩ := hv
  have hx := B.exec
  have hb := B.bytes
  have hr := B.returns
  have hts := atoms_spec (ws := wsX7_unitsTo) B.pre
  have hown : s.vm.findClass RX7 = some m.cls := findClass_of_methodNamed B.named
  have hlocks := B.notSynchronized
  subst hsz
  have hn1 : sg_cn P 1 ≤ 6 := hw.n1
  have hn2 : sg_cn P 2 ≤ 5 := hw.n2
  have hn3 : sg_cn P 3 ≤ 200 := hw.n3
  have hn4 : sg_cn P 4 ≤ 60 := hw.n4
  have hn5 : sg_cn P 5 ≤ 90 := hw.n5
  have hK := hC.K
  have hD := hD0
  have hS : va_S (fun q => lo ≤ q) s.heap s.heap [] := va_S.rf
  have hAlo : ∀ q, (fun q => lo ≤ q) q → lo ≤ q := fun _ h => h
  have hL : ∀ q ∈ ([] : List Loc), (fun _ : Addr => False) q.base := fun q h => by cases h
  have hP : va_P D vwCl [(a 6, .inr (7, [.int (P 0 5), .ref (a 60), .ref (a 61), .ref (a 62), .ref (a 63), .ref (a 64), .ref (a 65)])), (a 60, .inl (cI, 90, .inl (P 60))), (a 61, .inl (cI, 90, .inl (P 61))), (a 62, .inl (cI, 90, .inl (P 62))), (a 63, .inl (cI, 90, .inl (P 63))), (a 64, .inl (cI, 90, .inl (P 64))), (a 65, .inl (cI, 90, .inl (P 65)))] s.heap := hP
  have hl := lv_entry ([.ref (a 6), .int x, .int y]) (n := 5) (Nat.le_of_ble_eq_true rfl)
  rw [lg_entry_eq]
  generalize (lg_sl ([.ref (a 6), .int x, .int y]) ++ List.replicate (5 - (lg_sl ([.ref (a 6), .int x, .int y])).length) Slot.unset).toArray = ls at hl ⊢
  have hl : lv_has ls 5 [(0, .ref (a 6)), (1, .int x), (2, .int y)] := hl
  have in7 : ∀ w ∈ u_ws RX7 TX7 7, w ∈ wsX7_unitsTo := by decide +kernel
  refine lv_iconst (v := 0) hx hb dX7_unitsTo_0 (by decide) ?_
  refine lv_istore_n (lv' := [(3, .int 0), (0, .ref (a 6)), (1, .int x), (2, .int y)]) hx hb dX7_unitsTo_1 rfl hl (by decide) rfl (fun ls hl => ?_)
  refine lv_iconst (v := 0) hx hb dX7_unitsTo_2 (by decide) ?_
  refine lv_istore (lv' := [(4, .int 0), (3, .int 0), (0, .ref (a 6)), (1, .int x), (2, .int y)]) hx hb dX7_unitsTo_3 hl (by decide) rfl (fun ls hl => ?_)
  obtain ⟨j5, h0j5⟩ : ∃ j : Nat, j = 0 := ⟨_, rfl⟩
  obtain ⟨x5_3, hx5_3⟩ : ∃ z9 : Int32, z9 = sg_unitsTo_5 P x y j5 := ⟨_, rfl⟩
  replace hl : lv_has ls 5 [(4, .int (nI j5)), (3, .int x5_3), (0, .ref (a 6)), (1, .int x), (2, .int y)] := by rw [hx5_3, h0j5]; exact hl
  have hjj5 : j5 ≤ sg_cn P 5 := by omega
  clear h0j5
  obtain ⟨n5, hn5⟩ : ∃ n : Nat, sg_cn P 5 < j5 + n := ⟨sg_cn P 5 + 1, by omega⟩
  revert hl
  revert hn5
  revert hjj5
  revert hx5_3
  revert ls
  revert x5_3
  revert j5
  induction n5 with
  | zero =>
    intro j5 x5_3 ls hx5_3 hjj5 hn5 hl
    exact absurd hn5 (by omega)
  | succ n5 ih5 =>
    intro j5 x5_3 ls hx5_3 hjj5 hn5 hl
    refine lv_iload hx hb dX7_unitsTo_5 (lv_at hl 0 rfl) ?_
    refine lv_aload_n hx hb dX7_unitsTo_7 rfl (lv_at hl 2 rfl) ?_
    refine va_get (D := D) (ci := 7) (v := .int (P 0 5)) (C := RX7) (T := TX7) (N := 7) hx hb hts in7 hown hK hP 0 rfl rfl 0 (by decide) (hts (.fieldLink RX7 30 "Granary$Transports" "count" "I") (by decide +kernel)) (fun _ h9 => h9) rfl dX7_unitsTo_8 ?_
    have hB5 : ((P 0 5) : Int32) = nI (sg_cn P 5) := (hw.e5)
    refine lv_icmp_ge (tgt := 63) hx hb dX7_unitsTo_11 (by decide) (fun c_1 => ?_) (fun c_1 => ?_)
    · have hE5 : sg_cn P 5 = j5 := (sg_eq hB5 c_1 hjj5 (by omega)).symm
      clear ih5 hn5
      subst hE5
      subst hx5_3
      refine lv_iload_n hx hb dX7_unitsTo_63 rfl (lv_at hl 1 rfl) ?_
      exact W.iret (v := (sg_unitsTo_5 P x y (sg_cn P 5))) hx hb hr (fun t ht hW => ⟨(sg_unitsTo_5 P x y (sg_cn P 5)), rfl, rfl, ht⟩) hL dX7_unitsTo_64
    · have hL5 : j5 < sg_cn P 5 := sg_lt hB5 c_1 (by omega)
      refine lv_aload_n hx hb dX7_unitsTo_14 rfl (lv_at hl 2 rfl) ?_
      refine va_get (D := D) (ci := 7) (v := .ref (a 65)) (C := RX7) (T := TX7) (N := 7) hx hb hts in7 hown hK hP 0 rfl rfl 6 (by decide) (hts (.fieldLink RX7 27 "Granary$Transports" "moving" "[I") (by decide +kernel)) (fun _ h9 => h9) rfl dX7_unitsTo_15 ?_
      refine lv_iload hx hb dX7_unitsTo_18 (lv_at hl 0 rfl) ?_
      refine sg_iald hx hb hK hP 6 0 rfl rfl (j := j5) rfl (by omega) (Nat.le_of_ble_eq_true rfl) dX7_unitsTo_20 ?_
      refine lv_toi (y := P 65 j5) rfl ?_
      refine lv_iconst (v := 1) hx hb dX7_unitsTo_21 (by decide) ?_
      refine lv_icmp_ne (tgt := 57) hx hb dX7_unitsTo_22 (by decide) (fun c_2 => ?_) (fun c_2 => ?_)
      · refine lv_iinc (v := nI (j5 + 1)) (lv' := [(4, .int (nI (j5 + 1))), (3, .int x5_3), (0, .ref (a 6)), (1, .int x), (2, .int y)]) hx hb dX7_unitsTo_57 hl (k := 0) rfl (nI_1 j5) (by decide) rfl (fun ls hl => ?_)
        refine lv_goto (tgt := 5) hx hb dX7_unitsTo_60 (by decide) ?_
        have hl8 := hl
        subst hx5_3
        exact ih5 (j5 + 1) (sg_unitsTo_5 P x y j5) _ (show ((sg_unitsTo_5 P x y j5) : Int32) = sg_unitsTo_5 P x y (j5 + 1) from by rw [sg_unitsTo_5, if_neg c_2]) (by omega) (by omega) (lv_sub hl8 [0, 1, 2, 3, 4] rfl)
      · refine lv_aload_n hx hb dX7_unitsTo_25 rfl (lv_at hl 2 rfl) ?_
        refine va_get (D := D) (ci := 7) (v := .ref (a 60)) (C := RX7) (T := TX7) (N := 7) hx hb hts in7 hown hK hP 0 rfl rfl 1 (by decide) (hts (.fieldLink RX7 9 "Granary$Transports" "item" "[I") (by decide +kernel)) (fun _ h9 => h9) rfl dX7_unitsTo_26 ?_
        refine lv_iload hx hb dX7_unitsTo_29 (lv_at hl 0 rfl) ?_
        refine sg_iald hx hb hK hP 1 0 rfl rfl (j := j5) rfl (by omega) (Nat.le_of_ble_eq_true rfl) dX7_unitsTo_31 ?_
        refine lv_toi (y := P 60 j5) rfl ?_
        refine lv_iload_n hx hb dX7_unitsTo_32 rfl (lv_at hl 3 rfl) ?_
        refine lv_icmp_ne (tgt := 57) hx hb dX7_unitsTo_33 (by decide) (fun c_3 => ?_) (fun c_3 => ?_)
        · refine lv_iinc (v := nI (j5 + 1)) (lv' := [(4, .int (nI (j5 + 1))), (3, .int x5_3), (0, .ref (a 6)), (1, .int x), (2, .int y)]) hx hb dX7_unitsTo_57 hl (k := 0) rfl (nI_1 j5) (by decide) rfl (fun ls hl => ?_)
          refine lv_goto (tgt := 5) hx hb dX7_unitsTo_60 (by decide) ?_
          have hl8 := hl
          subst hx5_3
          exact ih5 (j5 + 1) (sg_unitsTo_5 P x y j5) _ (show ((sg_unitsTo_5 P x y j5) : Int32) = sg_unitsTo_5 P x y (j5 + 1) from by rw [sg_unitsTo_5, if_pos c_2, if_neg c_3]) (by omega) (by omega) (lv_sub hl8 [0, 1, 2, 3, 4] rfl)
        · refine lv_aload_n hx hb dX7_unitsTo_36 rfl (lv_at hl 2 rfl) ?_
          refine va_get (D := D) (ci := 7) (v := .ref (a 61)) (C := RX7) (T := TX7) (N := 7) hx hb hts in7 hown hK hP 0 rfl rfl 2 (by decide) (hts (.fieldLink RX7 15 "Granary$Transports" "site" "[I") (by decide +kernel)) (fun _ h9 => h9) rfl dX7_unitsTo_37 ?_
          refine lv_iload hx hb dX7_unitsTo_40 (lv_at hl 0 rfl) ?_
          refine sg_iald hx hb hK hP 2 0 rfl rfl (j := j5) rfl (by omega) (Nat.le_of_ble_eq_true rfl) dX7_unitsTo_42 ?_
          refine lv_toi (y := P 61 j5) rfl ?_
          refine lv_iload_n hx hb dX7_unitsTo_43 rfl (lv_at hl 4 rfl) ?_
          refine lv_icmp_ne (tgt := 57) hx hb dX7_unitsTo_44 (by decide) (fun c_4 => ?_) (fun c_4 => ?_)
          · refine lv_iinc (v := nI (j5 + 1)) (lv' := [(4, .int (nI (j5 + 1))), (3, .int x5_3), (0, .ref (a 6)), (1, .int x), (2, .int y)]) hx hb dX7_unitsTo_57 hl (k := 0) rfl (nI_1 j5) (by decide) rfl (fun ls hl => ?_)
            refine lv_goto (tgt := 5) hx hb dX7_unitsTo_60 (by decide) ?_
            have hl8 := hl
            subst hx5_3
            exact ih5 (j5 + 1) (sg_unitsTo_5 P x y j5) _ (show ((sg_unitsTo_5 P x y j5) : Int32) = sg_unitsTo_5 P x y (j5 + 1) from by rw [sg_unitsTo_5, if_pos c_2, if_pos c_3, if_neg c_4]) (by omega) (by omega) (lv_sub hl8 [0, 1, 2, 3, 4] rfl)
          · refine lv_iload_n hx hb dX7_unitsTo_47 rfl (lv_at hl 1 rfl) ?_
            refine lv_aload_n hx hb dX7_unitsTo_48 rfl (lv_at hl 2 rfl) ?_
            refine va_get (D := D) (ci := 7) (v := .ref (a 62)) (C := RX7) (T := TX7) (N := 7) hx hb hts in7 hown hK hP 0 rfl rfl 3 (by decide) (hts (.fieldLink RX7 18 "Granary$Transports" "units" "[I") (by decide +kernel)) (fun _ h9 => h9) rfl dX7_unitsTo_49 ?_
            refine lv_iload hx hb dX7_unitsTo_52 (lv_at hl 0 rfl) ?_
            refine sg_iald hx hb hK hP 3 0 rfl rfl (j := j5) rfl (by omega) (Nat.le_of_ble_eq_true rfl) dX7_unitsTo_54 ?_
            refine lv_toi (y := P 62 j5) rfl ?_
            refine lv_iadd hx hb dX7_unitsTo_55 ?_
            refine lv_istore_n (lv' := [(3, .int (x5_3 + (P 62 j5))), (4, .int (nI j5)), (0, .ref (a 6)), (1, .int x), (2, .int y)]) hx hb dX7_unitsTo_56 rfl hl (by decide) rfl (fun ls hl => ?_)
            refine lv_iinc (v := nI (j5 + 1)) (lv' := [(4, .int (nI (j5 + 1))), (3, .int (x5_3 + (P 62 j5))), (0, .ref (a 6)), (1, .int x), (2, .int y)]) hx hb dX7_unitsTo_57 hl (k := 1) rfl (nI_1 j5) (by decide) rfl (fun ls hl => ?_)
            refine lv_goto (tgt := 5) hx hb dX7_unitsTo_60 (by decide) ?_
            have hl8 := hl
            subst hx5_3
            exact ih5 (j5 + 1) ((sg_unitsTo_5 P x y j5) + (P 62 j5)) _ (show ((sg_unitsTo_5 P x y j5) + (P 62 j5) : Int32) = sg_unitsTo_5 P x y (j5 + 1) from by rw [sg_unitsTo_5, if_pos c_2, if_pos c_3, if_pos c_4]) (by omega) (by omega) (lv_sub hl8 [0, 1, 2, 3, 4] rfl)

def sg_unitsAt (P : sg_Pic) (x : Int32) (y : Int32) : Int32 := (sg_unitsUpTo P x y 1000000)

set_option maxHeartbeats 4000000 in
set_option maxRecDepth 100000 in
/-- X1_unitsAt -/
theorem c_unitsAt (l : Launch) (D : va_G) (cI cZ cJ : ClassId) (lo sz : Nat) (a : Nat → Nat) (P : sg_Pic) (x : Int32) (y : Int32) (hw : sg_W P) : Met l yX1_unitsAt wsX1_unitsAt ({ frames := 1, cells := 0, slots := 0, locals := 25 }) (Pre lo D cI cZ cJ [.ref (a 4), .int x, .int y] sz [(a 4, .inr (1, [.int (P 0 3), .ref (a 40), .ref (a 41), .ref (a 42), .ref (a 43), .ref (a 44)])), (a 40, .inl (cI, 200, .inl (P 40))), (a 41, .inl (cI, 200, .inl (P 41))), (a 42, .inl (cI, 200, .inl (P 42))), (a 43, .inl (cI, 200, .inl (P 43))), (a 44, .inl (cI, 200, .inl (P 44)))]) (vp_Si (fun r => r = sg_unitsAt P x y)) 0 0 (fun _ => False) := by
  refine Met.ofW (cc := cX1_unitsAt) (maxL := 3) (ret := (some .int)) (by decide) rfl ?_
  intro p e s m args below meth c s₁ B hml hv
  obtain ⟨rfl, hsz, hP, hD0, hC⟩ := hv
  have hx := B.exec
  have hb := B.bytes
  have hr := B.returns
  have hts := atoms_spec (ws := wsX1_unitsAt) B.pre
  have hown : s.vm.findClass RX1 = some m.cls := findClass_of_methodNamed B.named
  have hlocks := B.notSynchronized
  subst hsz
  have hn1 : sg_cn P 1 ≤ 6 := hw.n1
  have hn2 : sg_cn P 2 ≤ 5 := hw.n2
  have hn3 : sg_cn P 3 ≤ 200 := hw.n3
  have hn4 : sg_cn P 4 ≤ 60 := hw.n4
  have hn5 : sg_cn P 5 ≤ 90 := hw.n5
  have hK := hC.K
  have hD := hD0
  have hS : va_S (fun q => lo ≤ q) s.heap s.heap [] := va_S.rf
  have hAlo : ∀ q, (fun q => lo ≤ q) q → lo ≤ q := fun _ h => h
  have hL : ∀ q ∈ ([] : List Loc), (fun _ : Addr => False) q.base := fun q h => by cases h
  have hP : va_P D vwCl [(a 4, .inr (1, [.int (P 0 3), .ref (a 40), .ref (a 41), .ref (a 42), .ref (a 43), .ref (a 44)])), (a 40, .inl (cI, 200, .inl (P 40))), (a 41, .inl (cI, 200, .inl (P 41))), (a 42, .inl (cI, 200, .inl (P 42))), (a 43, .inl (cI, 200, .inl (P 43))), (a 44, .inl (cI, 200, .inl (P 44)))] s.heap := hP
  have hl := lv_entry ([.ref (a 4), .int x, .int y]) (n := 3) (Nat.le_of_ble_eq_true rfl)
  rw [lg_entry_eq]
  generalize (lg_sl ([.ref (a 4), .int x, .int y]) ++ List.replicate (3 - (lg_sl ([.ref (a 4), .int x, .int y])).length) Slot.unset).toArray = ls at hl ⊢
  have hl : lv_has ls 3 [(0, .ref (a 4)), (1, .int x), (2, .int y)] := hl
  refine lv_aload_n hx hb dX1_unitsAt_0 rfl (lv_at hl 0 rfl) ?_
  refine lv_iload_n hx hb dX1_unitsAt_1 rfl (lv_at hl 1 rfl) ?_
  refine lv_iload_n hx hb dX1_unitsAt_2 rfl (lv_at hl 2 rfl) ?_
  refine lv_ldc hx hb (v := 1000000) hown (hts (.constant RX1 31 (1000000)) (by decide +kernel)) dX1_unitsAt_3 ?_
  have hPc : va_P D vwCl [(a 4, .inr (1, [.int (P 0 3), .ref (a 40), .ref (a 41), .ref (a 42), .ref (a 43), .ref (a 44)])), (a 40, .inl (cI, 200, .inl (P 40))), (a 41, .inl (cI, 200, .inl (P 41))), (a 42, .inl (cI, 200, .inl (P 42))), (a 43, .inl (cI, 200, .inl (P 43))), (a 44, .inl (cI, 200, .inl (P 44)))] s.heap := hP
  have hDc : va_D (fun q : Nat => lo ≤ q) [(a 4, .inr (1, [.int (P 0 3), .ref (a 40), .ref (a 41), .ref (a 42), .ref (a 43), .ref (a 44)])), (a 40, .inl (cI, 200, .inl (P 40))), (a 41, .inl (cI, 200, .inl (P 41))), (a 42, .inl (cI, 200, .inl (P 42))), (a 43, .inl (cI, 200, .inl (P 43))), (a 44, .inl (cI, 200, .inl (P 44)))] := hD
  refine vp_callSi (W.runV (As := [.int x, .int y, .int 1000000]) (rest := []) ⟨hx, hb, hml, hown, hts⟩ (c_unitsUpTo l D cI cZ cJ lo s.heap.size a P x y 1000000 hw) (cwV 3 hts gX1_unitsAt_X1_unitsUpTo rfl rfl rfl (by decide +kernel) ⟨(Nat.le_of_ble_eq_true rfl), (Nat.le_of_ble_eq_true rfl)⟩) ⟨Pre.blind, va_recv hK hP (ci := 1) (q0 := 0) rfl rfl, Pre.mk hPc (hDc.weaken (fun _ _ _ h => hAlo _ h)) hC hS hAlo⟩ rfl rfl hl.1 rfl (lv_room (Nat.le_of_ble_eq_true rfl)) dX1_unitsAt_5 ⟨(Nat.le_of_ble_eq_true rfl), (Nat.le_of_ble_eq_true rfl)⟩) (fun r_1 e_2 => ?_)
  clear hPc hDc
  have e_2 : sg_unitsUpTo P x y 1000000 = r_1 := Eq.symm e_2
  subst e_2
  exact W.iret (v := (sg_unitsUpTo P x y 1000000)) hx hb hr (fun t ht hW => ⟨(sg_unitsUpTo P x y 1000000), rfl, rfl, ht⟩) hL dX1_unitsAt_8

def sg_freeAt (P : sg_Pic) (x : Int32) (y : Int32) : Int32 := (sg_freeFrom P x y 0)

set_option maxHeartbeats 4000000 in
set_option maxRecDepth 100000 in
/-- X1_freeAt -/
theorem c_freeAt (l : Launch) (D : va_G) (cI cZ cJ : ClassId) (lo sz : Nat) (a : Nat → Nat) (P : sg_Pic) (x : Int32) (y : Int32) (hw : sg_W P) : Met l yX1_freeAt wsX1_freeAt ({ frames := 2, cells := 0, slots := 0, locals := 46 }) (Pre lo D cI cZ cJ [.ref (a 4), .int x, .int y] sz [(a 4, .inr (1, [.int (P 0 3), .ref (a 40), .ref (a 41), .ref (a 42), .ref (a 43), .ref (a 44)])), (a 40, .inl (cI, 200, .inl (P 40))), (a 41, .inl (cI, 200, .inl (P 41))), (a 42, .inl (cI, 200, .inl (P 42))), (a 43, .inl (cI, 200, .inl (P 43))), (a 44, .inl (cI, 200, .inl (P 44)))]) (vp_Si (fun r => r = sg_freeAt P x y)) 0 0 (fun _ => False) := by
  refine Met.ofW (cc := cX1_freeAt) (maxL := 3) (ret := (some .int)) (by decide) rfl ?_
  intro p e s m args below meth c s₁ B hml hv
  obtain ⟨rfl, hsz, hP, hD0, hC⟩ := hv
  have hx := B.exec
  have hb := B.bytes
  have hr := B.returns
  have hts := atoms_spec (ws := wsX1_freeAt) B.pre
  have hown : s.vm.findClass RX1 = some m.cls := findClass_of_methodNamed B.named
  have hlocks := B.notSynchronized
  subst hsz
  have hn1 : sg_cn P 1 ≤ 6 := hw.n1
  have hn2 : sg_cn P 2 ≤ 5 := hw.n2
  have hn3 : sg_cn P 3 ≤ 200 := hw.n3
  have hn4 : sg_cn P 4 ≤ 60 := hw.n4
  have hn5 : sg_cn P 5 ≤ 90 := hw.n5
  have hK := hC.K
  have hD := hD0
  have hS : va_S (fun q => lo ≤ q) s.heap s.heap [] := va_S.rf
  have hAlo : ∀ q, (fun q => lo ≤ q) q → lo ≤ q := fun _ h => h
  have hL : ∀ q ∈ ([] : List Loc), (fun _ : Addr => False) q.base := fun q h => by cases h
  have hP : va_P D vwCl [(a 4, .inr (1, [.int (P 0 3), .ref (a 40), .ref (a 41), .ref (a 42), .ref (a 43), .ref (a 44)])), (a 40, .inl (cI, 200, .inl (P 40))), (a 41, .inl (cI, 200, .inl (P 41))), (a 42, .inl (cI, 200, .inl (P 42))), (a 43, .inl (cI, 200, .inl (P 43))), (a 44, .inl (cI, 200, .inl (P 44)))] s.heap := hP
  have hl := lv_entry ([.ref (a 4), .int x, .int y]) (n := 3) (Nat.le_of_ble_eq_true rfl)
  rw [lg_entry_eq]
  generalize (lg_sl ([.ref (a 4), .int x, .int y]) ++ List.replicate (3 - (lg_sl ([.ref (a 4), .int x, .int y])).length) Slot.unset).toArray = ls at hl ⊢
  have hl : lv_has ls 3 [(0, .ref (a 4)), (1, .int x), (2, .int y)] := hl
  refine lv_aload_n hx hb dX1_freeAt_0 rfl (lv_at hl 0 rfl) ?_
  refine lv_iload_n hx hb dX1_freeAt_1 rfl (lv_at hl 1 rfl) ?_
  refine lv_iload_n hx hb dX1_freeAt_2 rfl (lv_at hl 2 rfl) ?_
  refine lv_iconst (v := 0) hx hb dX1_freeAt_3 (by decide) ?_
  have hPc : va_P D vwCl [(a 4, .inr (1, [.int (P 0 3), .ref (a 40), .ref (a 41), .ref (a 42), .ref (a 43), .ref (a 44)])), (a 40, .inl (cI, 200, .inl (P 40))), (a 41, .inl (cI, 200, .inl (P 41))), (a 42, .inl (cI, 200, .inl (P 42))), (a 43, .inl (cI, 200, .inl (P 43))), (a 44, .inl (cI, 200, .inl (P 44)))] s.heap := hP
  have hDc : va_D (fun q : Nat => lo ≤ q) [(a 4, .inr (1, [.int (P 0 3), .ref (a 40), .ref (a 41), .ref (a 42), .ref (a 43), .ref (a 44)])), (a 40, .inl (cI, 200, .inl (P 40))), (a 41, .inl (cI, 200, .inl (P 41))), (a 42, .inl (cI, 200, .inl (P 42))), (a 43, .inl (cI, 200, .inl (P 43))), (a 44, .inl (cI, 200, .inl (P 44)))] := hD
  refine vp_callSi (W.runV (As := [.int x, .int y, .int 0]) (rest := []) ⟨hx, hb, hml, hown, hts⟩ (c_freeFrom l D cI cZ cJ lo s.heap.size a P x y 0 hw) (cwV 3 hts gX1_freeAt_X1_freeFrom rfl rfl rfl (by decide +kernel) ⟨(Nat.le_of_ble_eq_true rfl), (Nat.le_of_ble_eq_true rfl)⟩) ⟨Pre.blind, va_recv hK hP (ci := 1) (q0 := 0) rfl rfl, Pre.mk hPc (hDc.weaken (fun _ _ _ h => hAlo _ h)) hC hS hAlo⟩ rfl rfl hl.1 rfl (lv_room (Nat.le_of_ble_eq_true rfl)) dX1_freeAt_4 ⟨(Nat.le_of_ble_eq_true rfl), (Nat.le_of_ble_eq_true rfl)⟩) (fun r_1 e_2 => ?_)
  clear hPc hDc
  have e_2 : sg_freeFrom P x y 0 = r_1 := Eq.symm e_2
  subst e_2
  exact W.iret (v := (sg_freeFrom P x y 0)) hx hb hr (fun t ht hW => ⟨(sg_freeFrom P x y 0), rfl, rfl, ht⟩) hL dX1_freeAt_7

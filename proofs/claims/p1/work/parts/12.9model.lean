set_option maxHeartbeats 4000000 in
set_option maxRecDepth 100000 in
/-- isIn(x, 0, -1) -/
theorem c_isIn0 (l : Launch) (D : va_G) (cI cZ cJ : ClassId) (lo sz : Nat) (x : Int32) : Met l yX10_isIn wsX10_isIn ({ frames := 0, cells := 0, slots := 0, locals := 0 }) (Pre lo D cI cZ cJ [.int x, .int 0, .int (-1)] sz []) (vp_Si (fun r => r = 0)) 0 0 (fun _ => False) := by
  refine Met.ofW (cc := cX10_isIn) (maxL := 3) (ret := (some .boolean)) (by decide) rfl ?_
  intro p e s m args below meth c s₁ B hml hv
  obtain ⟨rfl, hsz, hP, hD0, hC⟩ := hv
  have hx := B.exec
  have hb := B.bytes
  have hr := B.returns
  have hts := atoms_spec (ws := wsX10_isIn) B.pre
  have hown : s.vm.findClass RX10 = some m.cls := findClass_of_methodNamed B.named
  have hlocks := B.notSynchronized
  subst hsz
  have hK := hC.K
  have hD := hD0
  have hS : va_S (fun q => lo ≤ q) s.heap s.heap [] := va_S.rf
  have hAlo : ∀ q, (fun q => lo ≤ q) q → lo ≤ q := fun _ h => h
  have hL : ∀ q ∈ ([] : List Loc), (fun _ : Addr => False) q.base := fun q h => by cases h
  have hP : va_P D vwCl [] s.heap := hP
  have hl := lv_entry ([.int x, .int 0, .int (-1)]) (n := 3) (Nat.le_of_ble_eq_true rfl)
  rw [lg_entry_eq]
  generalize (lg_sl ([.int x, .int 0, .int (-1)]) ++ List.replicate (3 - (lg_sl ([.int x, .int 0, .int (-1)])).length) Slot.unset).toArray = ls at hl ⊢
  have hl : lv_has ls 3 [(0, .int x), (1, .int 0), (2, .int (-1))] := hl
  refine lv_iload_n hx hb dX10_isIn_0 rfl (lv_at hl 0 rfl) ?_
  refine lv_iload_n hx hb dX10_isIn_1 rfl (lv_at hl 1 rfl) ?_
  refine lv_icmp_lt (tgt := 14) hx hb dX10_isIn_2 (by decide) (fun c_1 => ?_) (fun c_1 => ?_)
  · refine lv_iconst (v := 0) hx hb dX10_isIn_14 (by decide) ?_
    exact W.zret (ty := .boolean) (v := 0) hx hb hr (by decide) (fun t ht hW => ⟨0, rfl, rfl, ht⟩) hL dX10_isIn_15
  · refine lv_iload_n hx hb dX10_isIn_5 rfl (lv_at hl 0 rfl) ?_
    refine lv_iload_n hx hb dX10_isIn_6 rfl (lv_at hl 2 rfl) ?_
    refine lv_icmp_gt (tgt := 14) hx hb dX10_isIn_7 (by decide) (fun _ => ?_) (fun c9 => absurd (show ((-1) : Int32) < x from (ge_m1 c_1)) c9)
    refine lv_iconst (v := 0) hx hb dX10_isIn_14 (by decide) ?_
    exact W.zret (ty := .boolean) (v := 0) hx hb hr (by decide) (fun t ht hW => ⟨0, rfl, rfl, ht⟩) hL dX10_isIn_15

set_option maxHeartbeats 4000000 in
set_option maxRecDepth 100000 in
/-- isIn -/
theorem c_isIn (l : Launch) (D : va_G) (cI cZ cJ : ClassId) (lo sz : Nat) (x : Int32) (a : Int32) (z : Int32) : Met l yX10_isIn wsX10_isIn ({ frames := 0, cells := 0, slots := 0, locals := 0 }) (Pre lo D cI cZ cJ [.int x, .int a, .int z] sz []) (vp_Si (fun r => (r = 1 ∧ (a ≤ x ∧ x ≤ z)) ∨ (r = 0 ∧ ¬ (a ≤ x ∧ x ≤ z)))) 0 0 (fun _ => False) := by
  refine Met.ofW (cc := cX10_isIn) (maxL := 3) (ret := (some .boolean)) (by decide) rfl ?_
  intro p e s m args below meth c s₁ B hml hv
  obtain ⟨rfl, hsz, hP, hD0, hC⟩ := hv
  have hx := B.exec
  have hb := B.bytes
  have hr := B.returns
  have hts := atoms_spec (ws := wsX10_isIn) B.pre
  have hown : s.vm.findClass RX10 = some m.cls := findClass_of_methodNamed B.named
  have hlocks := B.notSynchronized
  subst hsz
  have hK := hC.K
  have hD := hD0
  have hS : va_S (fun q => lo ≤ q) s.heap s.heap [] := va_S.rf
  have hAlo : ∀ q, (fun q => lo ≤ q) q → lo ≤ q := fun _ h => h
  have hL : ∀ q ∈ ([] : List Loc), (fun _ : Addr => False) q.base := fun q h => by cases h
  have hP : va_P D vwCl [] s.heap := hP
  have hl := lv_entry ([.int x, .int a, .int z]) (n := 3) (Nat.le_of_ble_eq_true rfl)
  rw [lg_entry_eq]
  generalize (lg_sl ([.int x, .int a, .int z]) ++ List.replicate (3 - (lg_sl ([.int x, .int a, .int z])).length) Slot.unset).toArray = ls at hl ⊢
  have hl : lv_has ls 3 [(0, .int x), (1, .int a), (2, .int z)] := hl
  refine lv_iload_n hx hb dX10_isIn_0 rfl (lv_at hl 0 rfl) ?_
  refine lv_iload_n hx hb dX10_isIn_1 rfl (lv_at hl 1 rfl) ?_
  refine lv_icmp_lt (tgt := 14) hx hb dX10_isIn_2 (by decide) (fun c_1 => ?_) (fun c_1 => ?_)
  · refine lv_iconst (v := 0) hx hb dX10_isIn_14 (by decide) ?_
    exact W.zret (ty := .boolean) (v := 0) hx hb hr (by decide) (fun t ht hW => ⟨0, rfl, Or.inr ⟨rfl, fun h9 => absurd (Int32.not_le.mpr c_1) (fun h8 => h8 h9.1)⟩, ht⟩) hL dX10_isIn_15
  · refine lv_iload_n hx hb dX10_isIn_5 rfl (lv_at hl 0 rfl) ?_
    refine lv_iload_n hx hb dX10_isIn_6 rfl (lv_at hl 2 rfl) ?_
    refine lv_icmp_gt (tgt := 14) hx hb dX10_isIn_7 (by decide) (fun c_2 => ?_) (fun c_2 => ?_)
    · refine lv_iconst (v := 0) hx hb dX10_isIn_14 (by decide) ?_
      exact W.zret (ty := .boolean) (v := 0) hx hb hr (by decide) (fun t ht hW => ⟨0, rfl, Or.inr ⟨rfl, fun h9 => absurd (Int32.not_le.mpr c_2) (fun h8 => h8 h9.2)⟩, ht⟩) hL dX10_isIn_15
    · refine lv_iconst (v := 1) hx hb dX10_isIn_10 (by decide) ?_
      refine lv_goto (tgt := 15) hx hb dX10_isIn_11 (by decide) ?_
      exact W.zret (ty := .boolean) (v := 1) hx hb hr (by decide) (fun t ht hW => ⟨1, rfl, Or.inl ⟨rfl, Int32.not_lt.mp c_1, Int32.not_lt.mp c_2⟩, ht⟩) hL dX10_isIn_15

set_option maxHeartbeats 4000000 in
set_option maxRecDepth 100000 in
/-- X10_isItem -/
theorem c_isItem (l : Launch) (D : va_G) (cI cZ cJ : ClassId) (lo sz : Nat) (mm : Nat) (tt : Int32) (w : Nat) (wd : Int32) (b2 : Nat) (b3 : Nat) (b4 : Nat) (b5 : Nat) (b7 : Nat) (b8 : Nat) (b9 : Nat) (b10 : Nat) (b11 : Nat) (b12 : Nat) (b14 : Nat) (b15 : Nat) (b16 : Nat) (b17 : Nat) (b19 : Nat) (b20 : Nat) (b21 : Nat) (b22 : Nat) (b23 : Nat) (b24 : Nat) (b25 : Nat) (b26 : Nat) (b27 : Nat) (b29 : Nat) (b30 : Nat) (b31 : Nat) (b32 : Nat) (b33 : Nat) (b34 : Nat) (b35 : Nat) (x : Int32) : Met l yX10_isItem wsX10_isItem ({ frames := 1, cells := 0, slots := 0, locals := 22 }) (Pre lo D cI cZ cJ [.ref mm, .int x] sz [(mm, .inr (10, [.ref w, .int tt])), (w, .inr (9, [.int wd, .int 0, .ref b2, .ref b3, .ref b4, .ref b5, .int 0, .ref b7, .ref b8, .ref b9, .ref b10, .ref b11, .ref b12, .int 0, .ref b14, .ref b15, .ref b16, .ref b17, .int 0, .ref b19, .ref b20, .ref b21, .ref b22, .ref b23, .ref b24, .ref b25, .ref b26, .ref b27, .int 0, .ref b29, .ref b30, .ref b31, .ref b32, .ref b33, .ref b34, .ref b35]))]) (vp_Si (fun r => r = 0)) 0 0 (fun _ => False) := by
  refine Met.ofW (cc := cX10_isItem) (maxL := 2) (ret := (some .boolean)) (by decide) rfl ?_
  intro p e s m args below meth c s₁ B hml hv
  obtain ⟨rfl, hsz, hP, hD0, hC⟩ := hv
  have hx := B.exec
  have hb := B.bytes
  have hr := B.returns
  have hts := atoms_spec (ws := wsX10_isItem) B.pre
  have hown : s.vm.findClass RX10 = some m.cls := findClass_of_methodNamed B.named
  have hlocks := B.notSynchronized
  subst hsz
  have hK := hC.K
  have hD := hD0
  have hS : va_S (fun q => lo ≤ q) s.heap s.heap [] := va_S.rf
  have hAlo : ∀ q, (fun q => lo ≤ q) q → lo ≤ q := fun _ h => h
  have hL : ∀ q ∈ ([] : List Loc), (fun _ : Addr => False) q.base := fun q h => by cases h
  have hP : va_P D vwCl [(mm, .inr (10, [.ref w, .int tt])), (w, .inr (9, [.int wd, .int 0, .ref b2, .ref b3, .ref b4, .ref b5, .int 0, .ref b7, .ref b8, .ref b9, .ref b10, .ref b11, .ref b12, .int 0, .ref b14, .ref b15, .ref b16, .ref b17, .int 0, .ref b19, .ref b20, .ref b21, .ref b22, .ref b23, .ref b24, .ref b25, .ref b26, .ref b27, .int 0, .ref b29, .ref b30, .ref b31, .ref b32, .ref b33, .ref b34, .ref b35]))] s.heap := hP
  have hl := lv_entry ([.ref mm, .int x]) (n := 2) (Nat.le_of_ble_eq_true rfl)
  rw [lg_entry_eq]
  generalize (lg_sl ([.ref mm, .int x]) ++ List.replicate (2 - (lg_sl ([.ref mm, .int x])).length) Slot.unset).toArray = ls at hl ⊢
  have hl : lv_has ls 2 [(0, .ref mm), (1, .int x)] := hl
  have in9 : ∀ w ∈ u_ws RX9 TX9 36, w ∈ wsX10_isItem := by decide +kernel
  have in10 : ∀ w ∈ u_ws RX10 TX10 2, w ∈ wsX10_isItem := by decide +kernel
  refine lv_iload_n hx hb dX10_isItem_0 rfl (lv_at hl 1 rfl) ?_
  refine lv_iconst (v := 0) hx hb dX10_isItem_1 (by decide) ?_
  refine lv_aload_n hx hb dX10_isItem_2 rfl (lv_at hl 0 rfl) ?_
  refine va_get (D := D) (ci := 10) (v := .ref w) (C := RX10) (T := TX10) (N := 2) hx hb hts in10 hown hK hP 0 rfl rfl 0 (by decide) (hts (.fieldLink RX10 16 "GranaryModel" "w" "LGranaryModel$World;") (by decide +kernel)) (fun _ h9 => h9) rfl dX10_isItem_3 ?_
  refine va_get (D := D) (ci := 9) (v := .int 0) (C := RX9) (T := TX9) (N := 36) hx hb hts in9 hown hK hP 1 rfl rfl 1 (by decide) (hts (.fieldLink RX10 26 "GranaryModel$World" "items" "I") (by decide +kernel)) (fun _ h9 => h9) rfl dX10_isItem_6 ?_
  refine lv_iconst (v := 1) hx hb dX10_isItem_9 (by decide) ?_
  refine lv_isub hx hb dX10_isItem_10 ?_
  refine lv_toi (y := (-1)) (by decide) ?_
  have hPc := hP.sub (ws' := []) [] rfl
  have hDc := hD.sub (ws' := []) [] (by decide) rfl
  refine vp_callSi (W.runS (As := [.int x, .int 0, .int (-1)]) (rest := []) ⟨hx, hb, hml, hown, hts⟩ (c_isIn0 l D cI cZ cJ lo s.heap.size x) (va_cwS 3 hts gX10_isItem_X10_isIn rfl rfl rfl (by decide +kernel) ⟨(Nat.le_of_ble_eq_true rfl), (Nat.le_of_ble_eq_true rfl)⟩) ⟨Pre.blind, Pre.mk hPc (hDc.weaken (fun _ _ _ h => hAlo _ h)) hC hS hAlo⟩ rfl rfl hl.1 rfl (lv_room (Nat.le_of_ble_eq_true rfl)) dX10_isItem_11 ⟨(Nat.le_of_ble_eq_true rfl), (Nat.le_of_ble_eq_true rfl)⟩) (fun r_1 e_2 => ?_)
  have e_2 : r_1 = 0 := e_2
  subst e_2
  exact W.zret (ty := .boolean) (v := 0) hx hb hr (by decide) (fun t ht hW => ⟨0, rfl, rfl, ht⟩) hL dX10_isItem_14

set_option maxHeartbeats 4000000 in
set_option maxRecDepth 100000 in
/-- X10_isSite -/
theorem c_isSite (l : Launch) (D : va_G) (cI cZ cJ : ClassId) (lo sz : Nat) (mm : Nat) (tt : Int32) (w : Nat) (wd : Int32) (b2 : Nat) (b3 : Nat) (b4 : Nat) (b5 : Nat) (b7 : Nat) (b8 : Nat) (b9 : Nat) (b10 : Nat) (b11 : Nat) (b12 : Nat) (b14 : Nat) (b15 : Nat) (b16 : Nat) (b17 : Nat) (b19 : Nat) (b20 : Nat) (b21 : Nat) (b22 : Nat) (b23 : Nat) (b24 : Nat) (b25 : Nat) (b26 : Nat) (b27 : Nat) (b29 : Nat) (b30 : Nat) (b31 : Nat) (b32 : Nat) (b33 : Nat) (b34 : Nat) (b35 : Nat) (x : Int32) : Met l yX10_isSite wsX10_isSite ({ frames := 1, cells := 0, slots := 0, locals := 22 }) (Pre lo D cI cZ cJ [.ref mm, .int x] sz [(mm, .inr (10, [.ref w, .int tt])), (w, .inr (9, [.int wd, .int 0, .ref b2, .ref b3, .ref b4, .ref b5, .int 0, .ref b7, .ref b8, .ref b9, .ref b10, .ref b11, .ref b12, .int 0, .ref b14, .ref b15, .ref b16, .ref b17, .int 0, .ref b19, .ref b20, .ref b21, .ref b22, .ref b23, .ref b24, .ref b25, .ref b26, .ref b27, .int 0, .ref b29, .ref b30, .ref b31, .ref b32, .ref b33, .ref b34, .ref b35]))]) (vp_Si (fun r => r = 0)) 0 0 (fun _ => False) := by
  refine Met.ofW (cc := cX10_isSite) (maxL := 2) (ret := (some .boolean)) (by decide) rfl ?_
  intro p e s m args below meth c s₁ B hml hv
  obtain ⟨rfl, hsz, hP, hD0, hC⟩ := hv
  have hx := B.exec
  have hb := B.bytes
  have hr := B.returns
  have hts := atoms_spec (ws := wsX10_isSite) B.pre
  have hown : s.vm.findClass RX10 = some m.cls := findClass_of_methodNamed B.named
  have hlocks := B.notSynchronized
  subst hsz
  have hK := hC.K
  have hD := hD0
  have hS : va_S (fun q => lo ≤ q) s.heap s.heap [] := va_S.rf
  have hAlo : ∀ q, (fun q => lo ≤ q) q → lo ≤ q := fun _ h => h
  have hL : ∀ q ∈ ([] : List Loc), (fun _ : Addr => False) q.base := fun q h => by cases h
  have hP : va_P D vwCl [(mm, .inr (10, [.ref w, .int tt])), (w, .inr (9, [.int wd, .int 0, .ref b2, .ref b3, .ref b4, .ref b5, .int 0, .ref b7, .ref b8, .ref b9, .ref b10, .ref b11, .ref b12, .int 0, .ref b14, .ref b15, .ref b16, .ref b17, .int 0, .ref b19, .ref b20, .ref b21, .ref b22, .ref b23, .ref b24, .ref b25, .ref b26, .ref b27, .int 0, .ref b29, .ref b30, .ref b31, .ref b32, .ref b33, .ref b34, .ref b35]))] s.heap := hP
  have hl := lv_entry ([.ref mm, .int x]) (n := 2) (Nat.le_of_ble_eq_true rfl)
  rw [lg_entry_eq]
  generalize (lg_sl ([.ref mm, .int x]) ++ List.replicate (2 - (lg_sl ([.ref mm, .int x])).length) Slot.unset).toArray = ls at hl ⊢
  have hl : lv_has ls 2 [(0, .ref mm), (1, .int x)] := hl
  have in9 : ∀ w ∈ u_ws RX9 TX9 36, w ∈ wsX10_isSite := by decide +kernel
  have in10 : ∀ w ∈ u_ws RX10 TX10 2, w ∈ wsX10_isSite := by decide +kernel
  refine lv_iload_n hx hb dX10_isSite_0 rfl (lv_at hl 1 rfl) ?_
  refine lv_iconst (v := 0) hx hb dX10_isSite_1 (by decide) ?_
  refine lv_aload_n hx hb dX10_isSite_2 rfl (lv_at hl 0 rfl) ?_
  refine va_get (D := D) (ci := 10) (v := .ref w) (C := RX10) (T := TX10) (N := 2) hx hb hts in10 hown hK hP 0 rfl rfl 0 (by decide) (hts (.fieldLink RX10 16 "GranaryModel" "w" "LGranaryModel$World;") (by decide +kernel)) (fun _ h9 => h9) rfl dX10_isSite_3 ?_
  refine va_get (D := D) (ci := 9) (v := .int 0) (C := RX9) (T := TX9) (N := 36) hx hb hts in9 hown hK hP 1 rfl rfl 6 (by decide) (hts (.fieldLink RX10 33 "GranaryModel$World" "sites" "I") (by decide +kernel)) (fun _ h9 => h9) rfl dX10_isSite_6 ?_
  refine lv_iconst (v := 1) hx hb dX10_isSite_9 (by decide) ?_
  refine lv_isub hx hb dX10_isSite_10 ?_
  refine lv_toi (y := (-1)) (by decide) ?_
  have hPc := hP.sub (ws' := []) [] rfl
  have hDc := hD.sub (ws' := []) [] (by decide) rfl
  refine vp_callSi (W.runS (As := [.int x, .int 0, .int (-1)]) (rest := []) ⟨hx, hb, hml, hown, hts⟩ (c_isIn0 l D cI cZ cJ lo s.heap.size x) (va_cwS 3 hts gX10_isSite_X10_isIn rfl rfl rfl (by decide +kernel) ⟨(Nat.le_of_ble_eq_true rfl), (Nat.le_of_ble_eq_true rfl)⟩) ⟨Pre.blind, Pre.mk hPc (hDc.weaken (fun _ _ _ h => hAlo _ h)) hC hS hAlo⟩ rfl rfl hl.1 rfl (lv_room (Nat.le_of_ble_eq_true rfl)) dX10_isSite_11 ⟨(Nat.le_of_ble_eq_true rfl), (Nat.le_of_ble_eq_true rfl)⟩) (fun r_1 e_2 => ?_)
  have e_2 : r_1 = 0 := e_2
  subst e_2
  exact W.zret (ty := .boolean) (v := 0) hx hb hr (by decide) (fun t ht hW => ⟨0, rfl, rfl, ht⟩) hL dX10_isSite_14

set_option maxHeartbeats 4000000 in
set_option maxRecDepth 100000 in
/-- X10_isOrder -/
theorem c_isOrder (l : Launch) (D : va_G) (cI cZ cJ : ClassId) (lo sz : Nat) (mm : Nat) (tt : Int32) (w : Nat) (wd : Int32) (b2 : Nat) (b3 : Nat) (b4 : Nat) (b5 : Nat) (b7 : Nat) (b8 : Nat) (b9 : Nat) (b10 : Nat) (b11 : Nat) (b12 : Nat) (b14 : Nat) (b15 : Nat) (b16 : Nat) (b17 : Nat) (b19 : Nat) (b20 : Nat) (b21 : Nat) (b22 : Nat) (b23 : Nat) (b24 : Nat) (b25 : Nat) (b26 : Nat) (b27 : Nat) (b29 : Nat) (b30 : Nat) (b31 : Nat) (b32 : Nat) (b33 : Nat) (b34 : Nat) (b35 : Nat) (x : Int32) : Met l yX10_isOrder wsX10_isOrder ({ frames := 1, cells := 0, slots := 0, locals := 22 }) (Pre lo D cI cZ cJ [.ref mm, .int x] sz [(mm, .inr (10, [.ref w, .int tt])), (w, .inr (9, [.int wd, .int 0, .ref b2, .ref b3, .ref b4, .ref b5, .int 0, .ref b7, .ref b8, .ref b9, .ref b10, .ref b11, .ref b12, .int 0, .ref b14, .ref b15, .ref b16, .ref b17, .int 0, .ref b19, .ref b20, .ref b21, .ref b22, .ref b23, .ref b24, .ref b25, .ref b26, .ref b27, .int 0, .ref b29, .ref b30, .ref b31, .ref b32, .ref b33, .ref b34, .ref b35]))]) (vp_Si (fun r => r = 0)) 0 0 (fun _ => False) := by
  refine Met.ofW (cc := cX10_isOrder) (maxL := 2) (ret := (some .boolean)) (by decide) rfl ?_
  intro p e s m args below meth c s₁ B hml hv
  obtain ⟨rfl, hsz, hP, hD0, hC⟩ := hv
  have hx := B.exec
  have hb := B.bytes
  have hr := B.returns
  have hts := atoms_spec (ws := wsX10_isOrder) B.pre
  have hown : s.vm.findClass RX10 = some m.cls := findClass_of_methodNamed B.named
  have hlocks := B.notSynchronized
  subst hsz
  have hK := hC.K
  have hD := hD0
  have hS : va_S (fun q => lo ≤ q) s.heap s.heap [] := va_S.rf
  have hAlo : ∀ q, (fun q => lo ≤ q) q → lo ≤ q := fun _ h => h
  have hL : ∀ q ∈ ([] : List Loc), (fun _ : Addr => False) q.base := fun q h => by cases h
  have hP : va_P D vwCl [(mm, .inr (10, [.ref w, .int tt])), (w, .inr (9, [.int wd, .int 0, .ref b2, .ref b3, .ref b4, .ref b5, .int 0, .ref b7, .ref b8, .ref b9, .ref b10, .ref b11, .ref b12, .int 0, .ref b14, .ref b15, .ref b16, .ref b17, .int 0, .ref b19, .ref b20, .ref b21, .ref b22, .ref b23, .ref b24, .ref b25, .ref b26, .ref b27, .int 0, .ref b29, .ref b30, .ref b31, .ref b32, .ref b33, .ref b34, .ref b35]))] s.heap := hP
  have hl := lv_entry ([.ref mm, .int x]) (n := 2) (Nat.le_of_ble_eq_true rfl)
  rw [lg_entry_eq]
  generalize (lg_sl ([.ref mm, .int x]) ++ List.replicate (2 - (lg_sl ([.ref mm, .int x])).length) Slot.unset).toArray = ls at hl ⊢
  have hl : lv_has ls 2 [(0, .ref mm), (1, .int x)] := hl
  have in9 : ∀ w ∈ u_ws RX9 TX9 36, w ∈ wsX10_isOrder := by decide +kernel
  have in10 : ∀ w ∈ u_ws RX10 TX10 2, w ∈ wsX10_isOrder := by decide +kernel
  refine lv_iload_n hx hb dX10_isOrder_0 rfl (lv_at hl 1 rfl) ?_
  refine lv_iconst (v := 0) hx hb dX10_isOrder_1 (by decide) ?_
  refine lv_aload_n hx hb dX10_isOrder_2 rfl (lv_at hl 0 rfl) ?_
  refine va_get (D := D) (ci := 10) (v := .ref w) (C := RX10) (T := TX10) (N := 2) hx hb hts in10 hown hK hP 0 rfl rfl 0 (by decide) (hts (.fieldLink RX10 16 "GranaryModel" "w" "LGranaryModel$World;") (by decide +kernel)) (fun _ h9 => h9) rfl dX10_isOrder_3 ?_
  refine va_get (D := D) (ci := 9) (v := .int 0) (C := RX9) (T := TX9) (N := 36) hx hb hts in9 hown hK hP 1 rfl rfl 18 (by decide) (hts (.fieldLink RX10 98 "GranaryModel$World" "orders" "I") (by decide +kernel)) (fun _ h9 => h9) rfl dX10_isOrder_6 ?_
  refine lv_iconst (v := 1) hx hb dX10_isOrder_9 (by decide) ?_
  refine lv_isub hx hb dX10_isOrder_10 ?_
  refine lv_toi (y := (-1)) (by decide) ?_
  have hPc := hP.sub (ws' := []) [] rfl
  have hDc := hD.sub (ws' := []) [] (by decide) rfl
  refine vp_callSi (W.runS (As := [.int x, .int 0, .int (-1)]) (rest := []) ⟨hx, hb, hml, hown, hts⟩ (c_isIn0 l D cI cZ cJ lo s.heap.size x) (va_cwS 3 hts gX10_isOrder_X10_isIn rfl rfl rfl (by decide +kernel) ⟨(Nat.le_of_ble_eq_true rfl), (Nat.le_of_ble_eq_true rfl)⟩) ⟨Pre.blind, Pre.mk hPc (hDc.weaken (fun _ _ _ h => hAlo _ h)) hC hS hAlo⟩ rfl rfl hl.1 rfl (lv_room (Nat.le_of_ble_eq_true rfl)) dX10_isOrder_11 ⟨(Nat.le_of_ble_eq_true rfl), (Nat.le_of_ble_eq_true rfl)⟩) (fun r_1 e_2 => ?_)
  have e_2 : r_1 = 0 := e_2
  subst e_2
  exact W.zret (ty := .boolean) (v := 0) hx hb hr (by decide) (fun t ht hW => ⟨0, rfl, rfl, ht⟩) hL dX10_isOrder_14

set_option maxHeartbeats 4000000 in
set_option maxRecDepth 100000 in
/-- X10_isBoth -/
theorem c_isBoth (l : Launch) (D : va_G) (cI cZ cJ : ClassId) (lo sz : Nat) (mm : Nat) (tt : Int32) (w : Nat) (wd : Int32) (b2 : Nat) (b3 : Nat) (b4 : Nat) (b5 : Nat) (b7 : Nat) (b8 : Nat) (b9 : Nat) (b10 : Nat) (b11 : Nat) (b12 : Nat) (b14 : Nat) (b15 : Nat) (b16 : Nat) (b17 : Nat) (b19 : Nat) (b20 : Nat) (b21 : Nat) (b22 : Nat) (b23 : Nat) (b24 : Nat) (b25 : Nat) (b26 : Nat) (b27 : Nat) (b29 : Nat) (b30 : Nat) (b31 : Nat) (b32 : Nat) (b33 : Nat) (b34 : Nat) (b35 : Nat) (x : Int32) (y : Int32) : Met l yX10_isBoth wsX10_isBoth ({ frames := 2, cells := 0, slots := 0, locals := 43 }) (Pre lo D cI cZ cJ [.ref mm, .int x, .int y] sz [(mm, .inr (10, [.ref w, .int tt])), (w, .inr (9, [.int wd, .int 0, .ref b2, .ref b3, .ref b4, .ref b5, .int 0, .ref b7, .ref b8, .ref b9, .ref b10, .ref b11, .ref b12, .int 0, .ref b14, .ref b15, .ref b16, .ref b17, .int 0, .ref b19, .ref b20, .ref b21, .ref b22, .ref b23, .ref b24, .ref b25, .ref b26, .ref b27, .int 0, .ref b29, .ref b30, .ref b31, .ref b32, .ref b33, .ref b34, .ref b35]))]) (vp_Si (fun r => r = 0)) 0 0 (fun _ => False) := by
  refine Met.ofW (cc := cX10_isBoth) (maxL := 3) (ret := (some .boolean)) (by decide) rfl ?_
  intro p e s m args below meth c s₁ B hml hv
  obtain ⟨rfl, hsz, hP, hD0, hC⟩ := hv
  have hx := B.exec
  have hb := B.bytes
  have hr := B.returns
  have hts := atoms_spec (ws := wsX10_isBoth) B.pre
  have hown : s.vm.findClass RX10 = some m.cls := findClass_of_methodNamed B.named
  have hlocks := B.notSynchronized
  subst hsz
  have hK := hC.K
  have hD := hD0
  have hS : va_S (fun q => lo ≤ q) s.heap s.heap [] := va_S.rf
  have hAlo : ∀ q, (fun q => lo ≤ q) q → lo ≤ q := fun _ h => h
  have hL : ∀ q ∈ ([] : List Loc), (fun _ : Addr => False) q.base := fun q h => by cases h
  have hP : va_P D vwCl [(mm, .inr (10, [.ref w, .int tt])), (w, .inr (9, [.int wd, .int 0, .ref b2, .ref b3, .ref b4, .ref b5, .int 0, .ref b7, .ref b8, .ref b9, .ref b10, .ref b11, .ref b12, .int 0, .ref b14, .ref b15, .ref b16, .ref b17, .int 0, .ref b19, .ref b20, .ref b21, .ref b22, .ref b23, .ref b24, .ref b25, .ref b26, .ref b27, .int 0, .ref b29, .ref b30, .ref b31, .ref b32, .ref b33, .ref b34, .ref b35]))] s.heap := hP
  have hl := lv_entry ([.ref mm, .int x, .int y]) (n := 3) (Nat.le_of_ble_eq_true rfl)
  rw [lg_entry_eq]
  generalize (lg_sl ([.ref mm, .int x, .int y]) ++ List.replicate (3 - (lg_sl ([.ref mm, .int x, .int y])).length) Slot.unset).toArray = ls at hl ⊢
  have hl : lv_has ls 3 [(0, .ref mm), (1, .int x), (2, .int y)] := hl
  refine lv_aload_n hx hb dX10_isBoth_0 rfl (lv_at hl 0 rfl) ?_
  refine lv_iload_n hx hb dX10_isBoth_1 rfl (lv_at hl 1 rfl) ?_
  have hPc := hP.sub (ws' := [(mm, .inr (10, [.ref w, .int tt])), (w, .inr (9, [.int wd, .int 0, .ref b2, .ref b3, .ref b4, .ref b5, .int 0, .ref b7, .ref b8, .ref b9, .ref b10, .ref b11, .ref b12, .int 0, .ref b14, .ref b15, .ref b16, .ref b17, .int 0, .ref b19, .ref b20, .ref b21, .ref b22, .ref b23, .ref b24, .ref b25, .ref b26, .ref b27, .int 0, .ref b29, .ref b30, .ref b31, .ref b32, .ref b33, .ref b34, .ref b35]))]) [0, 1] rfl
  have hDc := hD.sub (ws' := [(mm, .inr (10, [.ref w, .int tt])), (w, .inr (9, [.int wd, .int 0, .ref b2, .ref b3, .ref b4, .ref b5, .int 0, .ref b7, .ref b8, .ref b9, .ref b10, .ref b11, .ref b12, .int 0, .ref b14, .ref b15, .ref b16, .ref b17, .int 0, .ref b19, .ref b20, .ref b21, .ref b22, .ref b23, .ref b24, .ref b25, .ref b26, .ref b27, .int 0, .ref b29, .ref b30, .ref b31, .ref b32, .ref b33, .ref b34, .ref b35]))]) [0, 1] (by decide) rfl
  refine vp_callSi (W.runV (As := [.int x]) (rest := []) ⟨hx, hb, hml, hown, hts⟩ (c_isItem l D cI cZ cJ lo s.heap.size mm tt w wd b2 b3 b4 b5 b7 b8 b9 b10 b11 b12 b14 b15 b16 b17 b19 b20 b21 b22 b23 b24 b25 b26 b27 b29 b30 b31 b32 b33 b34 b35 x) (cwV 1 hts gX10_isBoth_X10_isItem rfl rfl rfl (by decide +kernel) ⟨(Nat.le_of_ble_eq_true rfl), (Nat.le_of_ble_eq_true rfl)⟩) ⟨Pre.blind, va_recv hK hP (ci := 10) (q0 := 0) rfl rfl, Pre.mk hPc (hDc.weaken (fun _ _ _ h => hAlo _ h)) hC hS hAlo⟩ rfl rfl hl.1 rfl (lv_room (Nat.le_of_ble_eq_true rfl)) dX10_isBoth_2 ⟨(Nat.le_of_ble_eq_true rfl), (Nat.le_of_ble_eq_true rfl)⟩) (fun r_1 e_2 => ?_)
  have e_2 : r_1 = 0 := e_2
  subst e_2
  refine lv_if_eq (tgt := 20) hx hb dX10_isBoth_5 (by decide) (fun _ => ?_) (fun c9 => absurd (show (0 : Int32) = (0 : Int32) from (by decide)) c9)
  refine lv_iconst (v := 0) hx hb dX10_isBoth_20 (by decide) ?_
  exact W.zret (ty := .boolean) (v := 0) hx hb hr (by decide) (fun t ht hW => ⟨0, rfl, rfl, ht⟩) hL dX10_isBoth_21

set_option maxHeartbeats 4000000 in
set_option maxRecDepth 100000 in
/-- X10_no -/
theorem c_no (l : Launch) (D : va_G) (cI cZ cJ : ClassId) (lo sz : Nat) (mm : Nat) (tt : Int32) (w : Nat) (n : Int32) : Met l yX10_no wsX10_no ({ frames := 0, cells := 0, slots := 0, locals := 0 }) (Pre lo D cI cZ cJ [.ref mm, .int n] sz [(mm, .inr (10, [.ref w, .int tt]))]) (va_Qi (fun (r : Int32) (_ : Unit) => r = 0) (fun _ t => va_P D vwCl [(mm, .inr (10, [.ref w, .int n]))] t.heap ∧ va_D (va_A [(mm, .inr (10, [.ref w, .int tt]))] sz) [(mm, .inr (10, [.ref w, .int n]))]) (va_A [(mm, .inr (10, [.ref w, .int tt]))] sz)) 0 0 (va_A [(mm, .inr (10, [.ref w, .int tt]))] sz) := by
  refine Met.ofW (cc := cX10_no) (maxL := 2) (ret := (some .int)) (by decide) rfl ?_
  intro p e s m args below meth c s₁ B hml hv
  obtain ⟨rfl, hsz, hP, hD0, hC⟩ := hv
  have hx := B.exec
  have hb := B.bytes
  have hr := B.returns
  have hts := atoms_spec (ws := wsX10_no) B.pre
  have hown : s.vm.findClass RX10 = some m.cls := findClass_of_methodNamed B.named
  have hlocks := B.notSynchronized
  subst hsz
  have hK := hC.K
  have hD := hD0.self (sz := s.heap.size)
  have hAlo0 := va_A_lo hD0 hC.1
  generalize hAe : va_A [(mm, .inr (10, [.ref w, .int tt]))] s.heap.size = A at hD hAlo0 ⊢
  have hA : ∀ q : Nat, s.heap.size ≤ q → A q := fun q h => by rw [← hAe]; exact Or.inr h
  have hAlo : ∀ q, A q → lo ≤ q := hAlo0
  have hS : va_S A s.heap s.heap [] := va_S.rf
  have hP : va_P D vwCl [(mm, .inr (10, [.ref w, .int tt]))] s.heap := hP
  have hl := lv_entry ([.ref mm, .int n]) (n := 2) (Nat.le_of_ble_eq_true rfl)
  rw [lg_entry_eq]
  generalize (lg_sl ([.ref mm, .int n]) ++ List.replicate (2 - (lg_sl ([.ref mm, .int n])).length) Slot.unset).toArray = ls at hl ⊢
  have hl : lv_has ls 2 [(0, .ref mm), (1, .int n)] := hl
  have in10 : ∀ w ∈ u_ws RX10 TX10 2, w ∈ wsX10_no := by decide +kernel
  refine lv_aload_n hx hb dX10_no_0 rfl (lv_at hl 0 rfl) ?_
  refine lv_iload_n hx hb dX10_no_1 rfl (lv_at hl 1 rfl) ?_
  refine va_put (D := D) (ci := 10) (v := .int n) (ty := .int) (C := RX10) (T := TX10) (N := 2) hx hb hts in10 tyX10 tyX10_ok nmX10 hown hK hP hD hS 0 rfl rfl 1 (by decide) (hts (.fieldLink RX10 22 "GranaryModel" "thrown" "I") (by decide +kernel)) (fun _ h9 => h9) rfl (by decide +kernel) rfl rfl (Nat.le_of_ble_eq_true rfl) dX10_no_2 (fun H locs hP hD hS => ?_)
  replace hP : va_P D vwCl [(mm, .inr (10, [.ref w, .int n]))] H := hP
  replace hD : va_D A [(mm, .inr (10, [.ref w, .int n]))] := hD
  refine lv_iconst (v := 0) hx hb dX10_no_5 (by decide) ?_
  refine W.widen (k := 0) (n := 0) (by omega) (by omega) ?_
  have hP9 := hP.sub (ws' := [(mm, .inr (10, [.ref w, .int n]))]) [0] rfl
  have hD9 := hD.sub (ws' := [(mm, .inr (10, [.ref w, .int n]))]) [0] (by decide) rfl
  exact W.iret (v := 0) hx hb hr (fun t ht hW => ⟨⟨0, (), rfl, rfl, by rw [ht]; exact hP9, hD9⟩, hS.F ht⟩) hS.2.2 dX10_no_6

set_option maxHeartbeats 4000000 in
set_option maxRecDepth 100000 in
/-- X10_isNot -/
theorem c_isNot (l : Launch) (D : va_G) (cI cZ cJ : ClassId) (lo sz : Nat) (mm : Nat) (tt : Int32) (w : Nat) (n : Int32) : Met l yX10_isNot wsX10_isNot ({ frames := 0, cells := 0, slots := 0, locals := 0 }) (Pre lo D cI cZ cJ [.ref mm, .int n] sz [(mm, .inr (10, [.ref w, .int tt]))]) (va_Qi (fun (r : Int32) (_ : Unit) => r = 0) (fun _ t => va_P D vwCl [(mm, .inr (10, [.ref w, .int n]))] t.heap ∧ va_D (va_A [(mm, .inr (10, [.ref w, .int tt]))] sz) [(mm, .inr (10, [.ref w, .int n]))]) (va_A [(mm, .inr (10, [.ref w, .int tt]))] sz)) 0 0 (va_A [(mm, .inr (10, [.ref w, .int tt]))] sz) := by
  refine Met.ofW (cc := cX10_isNot) (maxL := 2) (ret := (some .boolean)) (by decide) rfl ?_
  intro p e s m args below meth c s₁ B hml hv
  obtain ⟨rfl, hsz, hP, hD0, hC⟩ := hv
  have hx := B.exec
  have hb := B.bytes
  have hr := B.returns
  have hts := atoms_spec (ws := wsX10_isNot) B.pre
  have hown : s.vm.findClass RX10 = some m.cls := findClass_of_methodNamed B.named
  have hlocks := B.notSynchronized
  subst hsz
  have hK := hC.K
  have hD := hD0.self (sz := s.heap.size)
  have hAlo0 := va_A_lo hD0 hC.1
  generalize hAe : va_A [(mm, .inr (10, [.ref w, .int tt]))] s.heap.size = A at hD hAlo0 ⊢
  have hA : ∀ q : Nat, s.heap.size ≤ q → A q := fun q h => by rw [← hAe]; exact Or.inr h
  have hAlo : ∀ q, A q → lo ≤ q := hAlo0
  have hS : va_S A s.heap s.heap [] := va_S.rf
  have hP : va_P D vwCl [(mm, .inr (10, [.ref w, .int tt]))] s.heap := hP
  have hl := lv_entry ([.ref mm, .int n]) (n := 2) (Nat.le_of_ble_eq_true rfl)
  rw [lg_entry_eq]
  generalize (lg_sl ([.ref mm, .int n]) ++ List.replicate (2 - (lg_sl ([.ref mm, .int n])).length) Slot.unset).toArray = ls at hl ⊢
  have hl : lv_has ls 2 [(0, .ref mm), (1, .int n)] := hl
  have in10 : ∀ w ∈ u_ws RX10 TX10 2, w ∈ wsX10_isNot := by decide +kernel
  refine lv_aload_n hx hb dX10_isNot_0 rfl (lv_at hl 0 rfl) ?_
  refine lv_iload_n hx hb dX10_isNot_1 rfl (lv_at hl 1 rfl) ?_
  refine va_put (D := D) (ci := 10) (v := .int n) (ty := .int) (C := RX10) (T := TX10) (N := 2) hx hb hts in10 tyX10 tyX10_ok nmX10 hown hK hP hD hS 0 rfl rfl 1 (by decide) (hts (.fieldLink RX10 22 "GranaryModel" "thrown" "I") (by decide +kernel)) (fun _ h9 => h9) rfl (by decide +kernel) rfl rfl (Nat.le_of_ble_eq_true rfl) dX10_isNot_2 (fun H locs hP hD hS => ?_)
  replace hP : va_P D vwCl [(mm, .inr (10, [.ref w, .int n]))] H := hP
  replace hD : va_D A [(mm, .inr (10, [.ref w, .int n]))] := hD
  refine lv_iconst (v := 0) hx hb dX10_isNot_5 (by decide) ?_
  refine W.widen (k := 0) (n := 0) (by omega) (by omega) ?_
  have hP9 := hP.sub (ws' := [(mm, .inr (10, [.ref w, .int n]))]) [0] rfl
  have hD9 := hD.sub (ws' := [(mm, .inr (10, [.ref w, .int n]))]) [0] (by decide) rfl
  exact W.zret (ty := .boolean) (v := 0) hx hb hr (by decide) (fun t ht hW => ⟨⟨0, (), rfl, rfl, by rw [ht]; exact hP9, hD9⟩, hS.F ht⟩) hS.2.2 dX10_isNot_6

set_option maxHeartbeats 4000000 in
set_option maxRecDepth 100000 in
/-- X10_ok -/
theorem c_ok (l : Launch) (D : va_G) (cI cZ cJ : ClassId) (lo sz : Nat) (mm : Nat) (tt : Int32) (w : Nat) (n : Int32) : Met l yX10_ok wsX10_ok ({ frames := 0, cells := 0, slots := 0, locals := 0 }) (Pre lo D cI cZ cJ [.ref mm, .int n] sz [(mm, .inr (10, [.ref w, .int tt]))]) (va_Qi (fun (r : Int32) (_ : Unit) => r = n) (fun _ t => va_P D vwCl [(mm, .inr (10, [.ref w, .int 0]))] t.heap ∧ va_D (va_A [(mm, .inr (10, [.ref w, .int tt]))] sz) [(mm, .inr (10, [.ref w, .int 0]))]) (va_A [(mm, .inr (10, [.ref w, .int tt]))] sz)) 0 0 (va_A [(mm, .inr (10, [.ref w, .int tt]))] sz) := by
  refine Met.ofW (cc := cX10_ok) (maxL := 2) (ret := (some .int)) (by decide) rfl ?_
  intro p e s m args below meth c s₁ B hml hv
  obtain ⟨rfl, hsz, hP, hD0, hC⟩ := hv
  have hx := B.exec
  have hb := B.bytes
  have hr := B.returns
  have hts := atoms_spec (ws := wsX10_ok) B.pre
  have hown : s.vm.findClass RX10 = some m.cls := findClass_of_methodNamed B.named
  have hlocks := B.notSynchronized
  subst hsz
  have hK := hC.K
  have hD := hD0.self (sz := s.heap.size)
  have hAlo0 := va_A_lo hD0 hC.1
  generalize hAe : va_A [(mm, .inr (10, [.ref w, .int tt]))] s.heap.size = A at hD hAlo0 ⊢
  have hA : ∀ q : Nat, s.heap.size ≤ q → A q := fun q h => by rw [← hAe]; exact Or.inr h
  have hAlo : ∀ q, A q → lo ≤ q := hAlo0
  have hS : va_S A s.heap s.heap [] := va_S.rf
  have hP : va_P D vwCl [(mm, .inr (10, [.ref w, .int tt]))] s.heap := hP
  have hl := lv_entry ([.ref mm, .int n]) (n := 2) (Nat.le_of_ble_eq_true rfl)
  rw [lg_entry_eq]
  generalize (lg_sl ([.ref mm, .int n]) ++ List.replicate (2 - (lg_sl ([.ref mm, .int n])).length) Slot.unset).toArray = ls at hl ⊢
  have hl : lv_has ls 2 [(0, .ref mm), (1, .int n)] := hl
  have in10 : ∀ w ∈ u_ws RX10 TX10 2, w ∈ wsX10_ok := by decide +kernel
  refine lv_aload_n hx hb dX10_ok_0 rfl (lv_at hl 0 rfl) ?_
  refine lv_iconst (v := 0) hx hb dX10_ok_1 (by decide) ?_
  refine va_put (D := D) (ci := 10) (v := .int 0) (ty := .int) (C := RX10) (T := TX10) (N := 2) hx hb hts in10 tyX10 tyX10_ok nmX10 hown hK hP hD hS 0 rfl rfl 1 (by decide) (hts (.fieldLink RX10 22 "GranaryModel" "thrown" "I") (by decide +kernel)) (fun _ h9 => h9) rfl (by decide +kernel) rfl rfl (Nat.le_of_ble_eq_true rfl) dX10_ok_2 (fun H locs hP hD hS => ?_)
  replace hP : va_P D vwCl [(mm, .inr (10, [.ref w, .int 0]))] H := hP
  replace hD : va_D A [(mm, .inr (10, [.ref w, .int 0]))] := hD
  refine lv_iload_n hx hb dX10_ok_5 rfl (lv_at hl 1 rfl) ?_
  refine W.widen (k := 0) (n := 0) (by omega) (by omega) ?_
  have hP9 := hP.sub (ws' := [(mm, .inr (10, [.ref w, .int 0]))]) [0] rfl
  have hD9 := hD.sub (ws' := [(mm, .inr (10, [.ref w, .int 0]))]) [0] (by decide) rfl
  exact W.iret (v := n) hx hb hr (fun t ht hW => ⟨⟨n, (), rfl, rfl, by rw [ht]; exact hP9, hD9⟩, hS.F ht⟩) hS.2.2 dX10_ok_6

set_option maxHeartbeats 4000000 in
set_option maxRecDepth 100000 in
/-- X10_thrown -/
theorem c_thrown (l : Launch) (D : va_G) (cI cZ cJ : ClassId) (lo sz : Nat) (mm : Nat) (tt : Int32) (w : Nat) : Met l yX10_thrown wsX10_thrown ({ frames := 0, cells := 0, slots := 0, locals := 0 }) (Pre lo D cI cZ cJ [.ref mm] sz [(mm, .inr (10, [.ref w, .int tt]))]) (vp_Si (fun r => r = tt)) 0 0 (fun _ => False) := by
  refine Met.ofW (cc := cX10_thrown) (maxL := 1) (ret := (some .int)) (by decide) rfl ?_
  intro p e s m args below meth c s₁ B hml hv
  obtain ⟨rfl, hsz, hP, hD0, hC⟩ := hv
  have hx := B.exec
  have hb := B.bytes
  have hr := B.returns
  have hts := atoms_spec (ws := wsX10_thrown) B.pre
  have hown : s.vm.findClass RX10 = some m.cls := findClass_of_methodNamed B.named
  have hlocks := B.notSynchronized
  subst hsz
  have hK := hC.K
  have hD := hD0
  have hS : va_S (fun q => lo ≤ q) s.heap s.heap [] := va_S.rf
  have hAlo : ∀ q, (fun q => lo ≤ q) q → lo ≤ q := fun _ h => h
  have hL : ∀ q ∈ ([] : List Loc), (fun _ : Addr => False) q.base := fun q h => by cases h
  have hP : va_P D vwCl [(mm, .inr (10, [.ref w, .int tt]))] s.heap := hP
  have hl := lv_entry ([.ref mm]) (n := 1) (Nat.le_of_ble_eq_true rfl)
  rw [lg_entry_eq]
  generalize (lg_sl ([.ref mm]) ++ List.replicate (1 - (lg_sl ([.ref mm])).length) Slot.unset).toArray = ls at hl ⊢
  have hl : lv_has ls 1 [(0, .ref mm)] := hl
  have in10 : ∀ w ∈ u_ws RX10 TX10 2, w ∈ wsX10_thrown := by decide +kernel
  refine lv_aload_n hx hb dX10_thrown_0 rfl (lv_at hl 0 rfl) ?_
  refine va_get (D := D) (ci := 10) (v := .int tt) (C := RX10) (T := TX10) (N := 2) hx hb hts in10 hown hK hP 0 rfl rfl 1 (by decide) (hts (.fieldLink RX10 22 "GranaryModel" "thrown" "I") (by decide +kernel)) (fun _ h9 => h9) rfl dX10_thrown_1 ?_
  exact W.iret (v := tt) hx hb hr (fun t ht hW => ⟨tt, rfl, rfl, ht⟩) hL dX10_thrown_4

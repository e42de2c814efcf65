set_option maxHeartbeats 4000000 in
set_option maxRecDepth 100000 in
/-- setRoute on a fresh object: throws -/
theorem c_setRoute (l : Launch) (hl9 : l.stackTraces = false) (D : va_G) (cI cZ cJ : ClassId) (lo sz : Nat) (g : Nat) (nw : Nat) (la : Nat) (pn : Nat) (dy : Int32) (aI : Nat) (aS : Nat) (aP : Nat) (aL : Nat) (aO : Nat) (aT : Nat) (aA : Nat) (aQ : Nat) (aS1 : Nat) (aS2 : Nat) (p0 : Int32) (p1 : Int32) (p2 : Int32) : vx_Met l yX8_setRoute wsX8_setRoute ({ frames := 8, cells := 1, slots := 6, locals := 123 }) (Pre lo D cI cZ cJ [.ref g, .int p0, .int p1, .int p2] sz [(g, .inr (8, [.ref nw, .ref la, .ref pn])), (nw, .inr (6, [.int dy, .ref aI, .ref aS, .ref aP, .ref aL, .ref aO, .ref aT, .ref aA, .ref aQ])), (aS, .inr (5, [.int 0, .ref aS1, .ref aS2]))]) (va_Qi (fun (r : Int32) (_ : Unit) => False) (fun _ t => True) (va_A [(g, .inr (8, [.ref nw, .ref la, .ref pn])), (nw, .inr (6, [.int dy, .ref aI, .ref aS, .ref aP, .ref aL, .ref aO, .ref aT, .ref aA, .ref aQ])), (aS, .inr (5, [.int 0, .ref aS1, .ref aS2]))] sz)) (vx_X (fun _ : Unit => True) (fun E _ _ => E = "java/lang/IndexOutOfBoundsException") (va_A [(g, .inr (8, [.ref nw, .ref la, .ref pn])), (nw, .inr (6, [.int dy, .ref aI, .ref aS, .ref aP, .ref aL, .ref aO, .ref aT, .ref aA, .ref aQ])), (aS, .inr (5, [.int 0, .ref aS1, .ref aS2]))] sz)) 1 6 (va_A [(g, .inr (8, [.ref nw, .ref la, .ref pn])), (nw, .inr (6, [.int dy, .ref aI, .ref aS, .ref aP, .ref aL, .ref aO, .ref aT, .ref aA, .ref aQ])), (aS, .inr (5, [.int 0, .ref aS1, .ref aS2]))] sz) := by
  refine vx_ofW (cc := cX8_setRoute) (maxL := 5) (ret := (some .int)) (by decide) rfl ?_
  intro p e s m args below meth c s₁ B hml ht9 hv
  obtain ⟨rfl, hsz, hP, hD0, hC⟩ := hv
  have hx := B.exec
  have hb := B.bytes
  have hr := B.returns
  have hts := atoms_spec (ws := wsX8_setRoute) B.pre
  have hown : s.vm.findClass RX8 = some m.cls := findClass_of_methodNamed B.named
  have hlocks := B.notSynchronized
  subst hsz
  have hK := hC.K
  have hD := hD0.self (sz := s.heap.size)
  have hAlo0 := va_A_lo hD0 hC.1
  generalize hAe : va_A [(g, .inr (8, [.ref nw, .ref la, .ref pn])), (nw, .inr (6, [.int dy, .ref aI, .ref aS, .ref aP, .ref aL, .ref aO, .ref aT, .ref aA, .ref aQ])), (aS, .inr (5, [.int 0, .ref aS1, .ref aS2]))] s.heap.size = A at hD hAlo0 ⊢
  have hA : ∀ q : Nat, s.heap.size ≤ q → A q := fun q h => by rw [← hAe]; exact Or.inr h
  have hAlo : ∀ q, A q → lo ≤ q := hAlo0
  have hS : va_S A s.heap s.heap [] := va_S.rf
  have hP : va_P D vwCl [(g, .inr (8, [.ref nw, .ref la, .ref pn])), (nw, .inr (6, [.int dy, .ref aI, .ref aS, .ref aP, .ref aL, .ref aO, .ref aT, .ref aA, .ref aQ])), (aS, .inr (5, [.int 0, .ref aS1, .ref aS2]))] s.heap := hP
  have hl := lv_entry ([.ref g, .int p0, .int p1, .int p2]) (n := 5) (Nat.le_of_ble_eq_true rfl)
  rw [lg_entry_eq]
  generalize (lg_sl ([.ref g, .int p0, .int p1, .int p2]) ++ List.replicate (5 - (lg_sl ([.ref g, .int p0, .int p1, .int p2])).length) Slot.unset).toArray = ls at hl ⊢
  have hl : lv_has ls 5 [(0, .ref g), (1, .int p0), (2, .int p1), (3, .int p2)] := hl
  refine lv_aload_n hx hb dX8_setRoute_0 rfl (lv_at hl 0 rfl) ?_
  refine lv_iload_n hx hb dX8_setRoute_1 rfl (lv_at hl 1 rfl) ?_
  have hPc := hP.sub (ws' := [(g, .inr (8, [.ref nw, .ref la, .ref pn])), (nw, .inr (6, [.int dy, .ref aI, .ref aS, .ref aP, .ref aL, .ref aO, .ref aT, .ref aA, .ref aQ])), (aS, .inr (5, [.int 0, .ref aS1, .ref aS2]))]) [0, 1, 2] rfl
  have hDc := hD.sub (ws' := [(g, .inr (8, [.ref nw, .ref la, .ref pn])), (nw, .inr (6, [.int dy, .ref aI, .ref aS, .ref aP, .ref aL, .ref aO, .ref aT, .ref aA, .ref aQ])), (aS, .inr (5, [.int 0, .ref aS1, .ref aS2]))]) [0, 1, 2] (by decide) rfl
  have hFc := va_free (wc := [(g, .inr (8, [.ref nw, .ref la, .ref pn])), (nw, .inr (6, [.int dy, .ref aI, .ref aS, .ref aP, .ref aL, .ref aO, .ref aT, .ref aA, .ref aQ])), (aS, .inr (5, [.int 0, .ref aS1, .ref aS2]))]) hD hS hA [0, 1, 2] rfl
  refine vx_callv (vx_runV (As := [.int p0]) (rest := []) ⟨hx, hb, hml, hown, hts⟩ (c_needSite l hl9 D cI cZ cJ lo s.heap.size g nw la pn dy aI aS aP aL aO aT aA aQ aS1 aS2 p0) (cwV 1 hts gX8_setRoute_X8_needSite rfl rfl rfl (by decide +kernel) ⟨(Nat.le_of_ble_eq_true rfl), (Nat.le_of_ble_eq_true rfl)⟩) ⟨Pre.blind, va_recv hK hP (ci := 8) (q0 := 0) rfl rfl, Pre.mk hPc (hDc.weaken (fun _ _ _ h => hAlo _ h)) hC hS hAlo⟩ rfl rfl hl.1 rfl (lv_room (Nat.le_of_ble_eq_true rfl)) dX8_setRoute_2 ⟨(Nat.le_of_ble_eq_true rfl), (Nat.le_of_ble_eq_true rfl)⟩) hS (fun q _ h => hFc q h) hFc (fun q _ h => hFc q h) (fun E ce q9 u t H1 locs1 ht hvm hpx hbx hz1 hk1 hS1 hce hcv hcl => ?_) (fun u t H1 locs1 ht hvm e_1 hB hz1 hk1 hS1 => ?_)
  · have px_2 : True := hpx
    have hE : E = "java/lang/IndexOutOfBoundsException" := hbx
    subst hE
    exact vx_out (fun x9 h9 => (ht9 x9 h9).elim) hlocks hce hcv hcl (fun t9 ht9b _ => ⟨(), trivial, rfl, hS1.F ht9b⟩) hS1.2.2 (by omega) (by omega)
  · exact False.elim e_1

set_option maxHeartbeats 4000000 in
set_option maxRecDepth 100000 in
/-- setPolicy on a fresh object: throws -/
theorem c_setPolicy (l : Launch) (hl9 : l.stackTraces = false) (D : va_G) (cI cZ cJ : ClassId) (lo sz : Nat) (g : Nat) (nw : Nat) (la : Nat) (pn : Nat) (dy : Int32) (aI : Nat) (aS : Nat) (aP : Nat) (aL : Nat) (aO : Nat) (aT : Nat) (aA : Nat) (aQ : Nat) (aI1 : Nat) (aI2 : Nat) (aI3 : Nat) (aI4 : Nat) (p0 : Int32) (p1 : Int32) (p2 : Int32) (p3 : Int32) (p4 : Int32) (p5 : Int32) : vx_Met l yX8_setPolicy wsX8_setPolicy ({ frames := 8, cells := 1, slots := 6, locals := 123 }) (Pre lo D cI cZ cJ [.ref g, .int p0, .int p1, .int p2, .int p3, .int p4, .int p5] sz [(g, .inr (8, [.ref nw, .ref la, .ref pn])), (nw, .inr (6, [.int dy, .ref aI, .ref aS, .ref aP, .ref aL, .ref aO, .ref aT, .ref aA, .ref aQ])), (aI, .inr (0, [.int 0, .ref aI1, .ref aI2, .ref aI3, .ref aI4]))]) (va_Qi (fun (r : Int32) (_ : Unit) => False) (fun _ t => True) (va_A [(g, .inr (8, [.ref nw, .ref la, .ref pn])), (nw, .inr (6, [.int dy, .ref aI, .ref aS, .ref aP, .ref aL, .ref aO, .ref aT, .ref aA, .ref aQ])), (aI, .inr (0, [.int 0, .ref aI1, .ref aI2, .ref aI3, .ref aI4]))] sz)) (vx_X (fun _ : Unit => True) (fun E _ _ => E = "java/lang/IndexOutOfBoundsException") (va_A [(g, .inr (8, [.ref nw, .ref la, .ref pn])), (nw, .inr (6, [.int dy, .ref aI, .ref aS, .ref aP, .ref aL, .ref aO, .ref aT, .ref aA, .ref aQ])), (aI, .inr (0, [.int 0, .ref aI1, .ref aI2, .ref aI3, .ref aI4]))] sz)) 1 6 (va_A [(g, .inr (8, [.ref nw, .ref la, .ref pn])), (nw, .inr (6, [.int dy, .ref aI, .ref aS, .ref aP, .ref aL, .ref aO, .ref aT, .ref aA, .ref aQ])), (aI, .inr (0, [.int 0, .ref aI1, .ref aI2, .ref aI3, .ref aI4]))] sz) := by
  refine vx_ofW (cc := cX8_setPolicy) (maxL := 9) (ret := (some .boolean)) (by decide) rfl ?_
  intro p e s m args below meth c s₁ B hml ht9 hv
  obtain ⟨rfl, hsz, hP, hD0, hC⟩ := hv
  have hx := B.exec
  have hb := B.bytes
  have hr := B.returns
  have hts := atoms_spec (ws := wsX8_setPolicy) B.pre
  have hown : s.vm.findClass RX8 = some m.cls := findClass_of_methodNamed B.named
  have hlocks := B.notSynchronized
  subst hsz
  have hK := hC.K
  have hD := hD0.self (sz := s.heap.size)
  have hAlo0 := va_A_lo hD0 hC.1
  generalize hAe : va_A [(g, .inr (8, [.ref nw, .ref la, .ref pn])), (nw, .inr (6, [.int dy, .ref aI, .ref aS, .ref aP, .ref aL, .ref aO, .ref aT, .ref aA, .ref aQ])), (aI, .inr (0, [.int 0, .ref aI1, .ref aI2, .ref aI3, .ref aI4]))] s.heap.size = A at hD hAlo0 ⊢
  have hA : ∀ q : Nat, s.heap.size ≤ q → A q := fun q h => by rw [← hAe]; exact Or.inr h
  have hAlo : ∀ q, A q → lo ≤ q := hAlo0
  have hS : va_S A s.heap s.heap [] := va_S.rf
  have hP : va_P D vwCl [(g, .inr (8, [.ref nw, .ref la, .ref pn])), (nw, .inr (6, [.int dy, .ref aI, .ref aS, .ref aP, .ref aL, .ref aO, .ref aT, .ref aA, .ref aQ])), (aI, .inr (0, [.int 0, .ref aI1, .ref aI2, .ref aI3, .ref aI4]))] s.heap := hP
  have hl := lv_entry ([.ref g, .int p0, .int p1, .int p2, .int p3, .int p4, .int p5]) (n := 9) (Nat.le_of_ble_eq_true rfl)
  rw [lg_entry_eq]
  generalize (lg_sl ([.ref g, .int p0, .int p1, .int p2, .int p3, .int p4, .int p5]) ++ List.replicate (9 - (lg_sl ([.ref g, .int p0, .int p1, .int p2, .int p3, .int p4, .int p5])).length) Slot.unset).toArray = ls at hl ⊢
  have hl : lv_has ls 9 [(0, .ref g), (1, .int p0), (2, .int p1), (3, .int p2), (4, .int p3), (5, .int p4), (6, .int p5)] := hl
  refine lv_aload_n hx hb dX8_setPolicy_0 rfl (lv_at hl 0 rfl) ?_
  refine lv_iload_n hx hb dX8_setPolicy_1 rfl (lv_at hl 1 rfl) ?_
  have hPc := hP.sub (ws' := [(g, .inr (8, [.ref nw, .ref la, .ref pn])), (nw, .inr (6, [.int dy, .ref aI, .ref aS, .ref aP, .ref aL, .ref aO, .ref aT, .ref aA, .ref aQ])), (aI, .inr (0, [.int 0, .ref aI1, .ref aI2, .ref aI3, .ref aI4]))]) [0, 1, 2] rfl
  have hDc := hD.sub (ws' := [(g, .inr (8, [.ref nw, .ref la, .ref pn])), (nw, .inr (6, [.int dy, .ref aI, .ref aS, .ref aP, .ref aL, .ref aO, .ref aT, .ref aA, .ref aQ])), (aI, .inr (0, [.int 0, .ref aI1, .ref aI2, .ref aI3, .ref aI4]))]) [0, 1, 2] (by decide) rfl
  have hFc := va_free (wc := [(g, .inr (8, [.ref nw, .ref la, .ref pn])), (nw, .inr (6, [.int dy, .ref aI, .ref aS, .ref aP, .ref aL, .ref aO, .ref aT, .ref aA, .ref aQ])), (aI, .inr (0, [.int 0, .ref aI1, .ref aI2, .ref aI3, .ref aI4]))]) hD hS hA [0, 1, 2] rfl
  refine vx_callv (vx_runV (As := [.int p0]) (rest := []) ⟨hx, hb, hml, hown, hts⟩ (c_needItem l hl9 D cI cZ cJ lo s.heap.size g nw la pn dy aI aS aP aL aO aT aA aQ aI1 aI2 aI3 aI4 p0) (cwV 1 hts gX8_setPolicy_X8_needItem rfl rfl rfl (by decide +kernel) ⟨(Nat.le_of_ble_eq_true rfl), (Nat.le_of_ble_eq_true rfl)⟩) ⟨Pre.blind, va_recv hK hP (ci := 8) (q0 := 0) rfl rfl, Pre.mk hPc (hDc.weaken (fun _ _ _ h => hAlo _ h)) hC hS hAlo⟩ rfl rfl hl.1 rfl (lv_room (Nat.le_of_ble_eq_true rfl)) dX8_setPolicy_2 ⟨(Nat.le_of_ble_eq_true rfl), (Nat.le_of_ble_eq_true rfl)⟩) hS (fun q _ h => hFc q h) hFc (fun q _ h => hFc q h) (fun E ce q9 u t H1 locs1 ht hvm hpx hbx hz1 hk1 hS1 hce hcv hcl => ?_) (fun u t H1 locs1 ht hvm e_1 hB hz1 hk1 hS1 => ?_)
  · have px_2 : True := hpx
    have hE : E = "java/lang/IndexOutOfBoundsException" := hbx
    subst hE
    exact vx_out (fun x9 h9 => (ht9 x9 h9).elim) hlocks hce hcv hcl (fun t9 ht9b _ => ⟨(), trivial, rfl, hS1.F ht9b⟩) hS1.2.2 (by omega) (by omega)
  · exact False.elim e_1

set_option maxHeartbeats 4000000 in
set_option maxRecDepth 100000 in
/-- receive on a fresh object: throws -/
theorem c_receive (l : Launch) (hl9 : l.stackTraces = false) (D : va_G) (cI cZ cJ : ClassId) (lo sz : Nat) (g : Nat) (nw : Nat) (la : Nat) (pn : Nat) (dy : Int32) (aI : Nat) (aS : Nat) (aP : Nat) (aL : Nat) (aO : Nat) (aT : Nat) (aA : Nat) (aQ : Nat) (aI1 : Nat) (aI2 : Nat) (aI3 : Nat) (aI4 : Nat) (p0 : Int32) (p1 : Int32) (p2 : Int32) (p3 : Int32) : vx_Met l yX8_receive wsX8_receive ({ frames := 8, cells := 1, slots := 6, locals := 123 }) (Pre lo D cI cZ cJ [.ref g, .int p0, .int p1, .int p2, .int p3] sz [(g, .inr (8, [.ref nw, .ref la, .ref pn])), (nw, .inr (6, [.int dy, .ref aI, .ref aS, .ref aP, .ref aL, .ref aO, .ref aT, .ref aA, .ref aQ])), (aI, .inr (0, [.int 0, .ref aI1, .ref aI2, .ref aI3, .ref aI4]))]) (va_Qi (fun (r : Int32) (_ : Unit) => False) (fun _ t => True) (va_A [(g, .inr (8, [.ref nw, .ref la, .ref pn])), (nw, .inr (6, [.int dy, .ref aI, .ref aS, .ref aP, .ref aL, .ref aO, .ref aT, .ref aA, .ref aQ])), (aI, .inr (0, [.int 0, .ref aI1, .ref aI2, .ref aI3, .ref aI4]))] sz)) (vx_X (fun _ : Unit => True) (fun E _ _ => E = "java/lang/IndexOutOfBoundsException") (va_A [(g, .inr (8, [.ref nw, .ref la, .ref pn])), (nw, .inr (6, [.int dy, .ref aI, .ref aS, .ref aP, .ref aL, .ref aO, .ref aT, .ref aA, .ref aQ])), (aI, .inr (0, [.int 0, .ref aI1, .ref aI2, .ref aI3, .ref aI4]))] sz)) 1 6 (va_A [(g, .inr (8, [.ref nw, .ref la, .ref pn])), (nw, .inr (6, [.int dy, .ref aI, .ref aS, .ref aP, .ref aL, .ref aO, .ref aT, .ref aA, .ref aQ])), (aI, .inr (0, [.int 0, .ref aI1, .ref aI2, .ref aI3, .ref aI4]))] sz) := by
  refine vx_ofW (cc := cX8_receive) (maxL := 5) (ret := (some .int)) (by decide) rfl ?_
  intro p e s m args below meth c s₁ B hml ht9 hv
  obtain ⟨rfl, hsz, hP, hD0, hC⟩ := hv
  have hx := B.exec
  have hb := B.bytes
  have hr := B.returns
  have hts := atoms_spec (ws := wsX8_receive) B.pre
  have hown : s.vm.findClass RX8 = some m.cls := findClass_of_methodNamed B.named
  have hlocks := B.notSynchronized
  subst hsz
  have hK := hC.K
  have hD := hD0.self (sz := s.heap.size)
  have hAlo0 := va_A_lo hD0 hC.1
  generalize hAe : va_A [(g, .inr (8, [.ref nw, .ref la, .ref pn])), (nw, .inr (6, [.int dy, .ref aI, .ref aS, .ref aP, .ref aL, .ref aO, .ref aT, .ref aA, .ref aQ])), (aI, .inr (0, [.int 0, .ref aI1, .ref aI2, .ref aI3, .ref aI4]))] s.heap.size = A at hD hAlo0 ⊢
  have hA : ∀ q : Nat, s.heap.size ≤ q → A q := fun q h => by rw [← hAe]; exact Or.inr h
  have hAlo : ∀ q, A q → lo ≤ q := hAlo0
  have hS : va_S A s.heap s.heap [] := va_S.rf
  have hP : va_P D vwCl [(g, .inr (8, [.ref nw, .ref la, .ref pn])), (nw, .inr (6, [.int dy, .ref aI, .ref aS, .ref aP, .ref aL, .ref aO, .ref aT, .ref aA, .ref aQ])), (aI, .inr (0, [.int 0, .ref aI1, .ref aI2, .ref aI3, .ref aI4]))] s.heap := hP
  have hl := lv_entry ([.ref g, .int p0, .int p1, .int p2, .int p3]) (n := 5) (Nat.le_of_ble_eq_true rfl)
  rw [lg_entry_eq]
  generalize (lg_sl ([.ref g, .int p0, .int p1, .int p2, .int p3]) ++ List.replicate (5 - (lg_sl ([.ref g, .int p0, .int p1, .int p2, .int p3])).length) Slot.unset).toArray = ls at hl ⊢
  have hl : lv_has ls 5 [(0, .ref g), (1, .int p0), (2, .int p1), (3, .int p2), (4, .int p3)] := hl
  refine lv_aload_n hx hb dX8_receive_0 rfl (lv_at hl 0 rfl) ?_
  refine lv_iload_n hx hb dX8_receive_1 rfl (lv_at hl 1 rfl) ?_
  have hPc := hP.sub (ws' := [(g, .inr (8, [.ref nw, .ref la, .ref pn])), (nw, .inr (6, [.int dy, .ref aI, .ref aS, .ref aP, .ref aL, .ref aO, .ref aT, .ref aA, .ref aQ])), (aI, .inr (0, [.int 0, .ref aI1, .ref aI2, .ref aI3, .ref aI4]))]) [0, 1, 2] rfl
  have hDc := hD.sub (ws' := [(g, .inr (8, [.ref nw, .ref la, .ref pn])), (nw, .inr (6, [.int dy, .ref aI, .ref aS, .ref aP, .ref aL, .ref aO, .ref aT, .ref aA, .ref aQ])), (aI, .inr (0, [.int 0, .ref aI1, .ref aI2, .ref aI3, .ref aI4]))]) [0, 1, 2] (by decide) rfl
  have hFc := va_free (wc := [(g, .inr (8, [.ref nw, .ref la, .ref pn])), (nw, .inr (6, [.int dy, .ref aI, .ref aS, .ref aP, .ref aL, .ref aO, .ref aT, .ref aA, .ref aQ])), (aI, .inr (0, [.int 0, .ref aI1, .ref aI2, .ref aI3, .ref aI4]))]) hD hS hA [0, 1, 2] rfl
  refine vx_callv (vx_runV (As := [.int p0]) (rest := []) ⟨hx, hb, hml, hown, hts⟩ (c_needItem l hl9 D cI cZ cJ lo s.heap.size g nw la pn dy aI aS aP aL aO aT aA aQ aI1 aI2 aI3 aI4 p0) (cwV 1 hts gX8_receive_X8_needItem rfl rfl rfl (by decide +kernel) ⟨(Nat.le_of_ble_eq_true rfl), (Nat.le_of_ble_eq_true rfl)⟩) ⟨Pre.blind, va_recv hK hP (ci := 8) (q0 := 0) rfl rfl, Pre.mk hPc (hDc.weaken (fun _ _ _ h => hAlo _ h)) hC hS hAlo⟩ rfl rfl hl.1 rfl (lv_room (Nat.le_of_ble_eq_true rfl)) dX8_receive_2 ⟨(Nat.le_of_ble_eq_true rfl), (Nat.le_of_ble_eq_true rfl)⟩) hS (fun q _ h => hFc q h) hFc (fun q _ h => hFc q h) (fun E ce q9 u t H1 locs1 ht hvm hpx hbx hz1 hk1 hS1 hce hcv hcl => ?_) (fun u t H1 locs1 ht hvm e_1 hB hz1 hk1 hS1 => ?_)
  · have px_2 : True := hpx
    have hE : E = "java/lang/IndexOutOfBoundsException" := hbx
    subst hE
    exact vx_out (fun x9 h9 => (ht9 x9 h9).elim) hlocks hce hcv hcl (fun t9 ht9b _ => ⟨(), trivial, rfl, hS1.F ht9b⟩) hS1.2.2 (by omega) (by omega)
  · exact False.elim e_1

set_option maxHeartbeats 4000000 in
set_option maxRecDepth 100000 in
/-- order on a fresh object: throws -/
theorem c_order (l : Launch) (hl9 : l.stackTraces = false) (D : va_G) (cI cZ cJ : ClassId) (lo sz : Nat) (g : Nat) (nw : Nat) (la : Nat) (pn : Nat) (dy : Int32) (aI : Nat) (aS : Nat) (aP : Nat) (aL : Nat) (aO : Nat) (aT : Nat) (aA : Nat) (aQ : Nat) (aI1 : Nat) (aI2 : Nat) (aI3 : Nat) (aI4 : Nat) (p0 : Int32) (p1 : Int32) (p2 : Int32) (p3 : Int32) (p4 : Int32) (p5 : Int32) : vx_Met l yX8_order wsX8_order ({ frames := 8, cells := 1, slots := 6, locals := 123 }) (Pre lo D cI cZ cJ [.ref g, .int p0, .int p1, .int p2, .int p3, .int p4, .int p5] sz [(g, .inr (8, [.ref nw, .ref la, .ref pn])), (nw, .inr (6, [.int dy, .ref aI, .ref aS, .ref aP, .ref aL, .ref aO, .ref aT, .ref aA, .ref aQ])), (aI, .inr (0, [.int 0, .ref aI1, .ref aI2, .ref aI3, .ref aI4]))]) (va_Qi (fun (r : Int32) (_ : Unit) => False) (fun _ t => True) (va_A [(g, .inr (8, [.ref nw, .ref la, .ref pn])), (nw, .inr (6, [.int dy, .ref aI, .ref aS, .ref aP, .ref aL, .ref aO, .ref aT, .ref aA, .ref aQ])), (aI, .inr (0, [.int 0, .ref aI1, .ref aI2, .ref aI3, .ref aI4]))] sz)) (vx_X (fun _ : Unit => True) (fun E _ _ => E = "java/lang/IndexOutOfBoundsException") (va_A [(g, .inr (8, [.ref nw, .ref la, .ref pn])), (nw, .inr (6, [.int dy, .ref aI, .ref aS, .ref aP, .ref aL, .ref aO, .ref aT, .ref aA, .ref aQ])), (aI, .inr (0, [.int 0, .ref aI1, .ref aI2, .ref aI3, .ref aI4]))] sz)) 1 6 (va_A [(g, .inr (8, [.ref nw, .ref la, .ref pn])), (nw, .inr (6, [.int dy, .ref aI, .ref aS, .ref aP, .ref aL, .ref aO, .ref aT, .ref aA, .ref aQ])), (aI, .inr (0, [.int 0, .ref aI1, .ref aI2, .ref aI3, .ref aI4]))] sz) := by
  refine vx_ofW (cc := cX8_order) (maxL := 8) (ret := (some .int)) (by decide) rfl ?_
  intro p e s m args below meth c s₁ B hml ht9 hv
  obtain ⟨rfl, hsz, hP, hD0, hC⟩ := hv
  have hx := B.exec
  have hb := B.bytes
  have hr := B.returns
  have hts := atoms_spec (ws := wsX8_order) B.pre
  have hown : s.vm.findClass RX8 = some m.cls := findClass_of_methodNamed B.named
  have hlocks := B.notSynchronized
  subst hsz
  have hK := hC.K
  have hD := hD0.self (sz := s.heap.size)
  have hAlo0 := va_A_lo hD0 hC.1
  generalize hAe : va_A [(g, .inr (8, [.ref nw, .ref la, .ref pn])), (nw, .inr (6, [.int dy, .ref aI, .ref aS, .ref aP, .ref aL, .ref aO, .ref aT, .ref aA, .ref aQ])), (aI, .inr (0, [.int 0, .ref aI1, .ref aI2, .ref aI3, .ref aI4]))] s.heap.size = A at hD hAlo0 ⊢
  have hA : ∀ q : Nat, s.heap.size ≤ q → A q := fun q h => by rw [← hAe]; exact Or.inr h
  have hAlo : ∀ q, A q → lo ≤ q := hAlo0
  have hS : va_S A s.heap s.heap [] := va_S.rf
  have hP : va_P D vwCl [(g, .inr (8, [.ref nw, .ref la, .ref pn])), (nw, .inr (6, [.int dy, .ref aI, .ref aS, .ref aP, .ref aL, .ref aO, .ref aT, .ref aA, .ref aQ])), (aI, .inr (0, [.int 0, .ref aI1, .ref aI2, .ref aI3, .ref aI4]))] s.heap := hP
  have hl := lv_entry ([.ref g, .int p0, .int p1, .int p2, .int p3, .int p4, .int p5]) (n := 8) (Nat.le_of_ble_eq_true rfl)
  rw [lg_entry_eq]
  generalize (lg_sl ([.ref g, .int p0, .int p1, .int p2, .int p3, .int p4, .int p5]) ++ List.replicate (8 - (lg_sl ([.ref g, .int p0, .int p1, .int p2, .int p3, .int p4, .int p5])).length) Slot.unset).toArray = ls at hl ⊢
  have hl : lv_has ls 8 [(0, .ref g), (1, .int p0), (2, .int p1), (3, .int p2), (4, .int p3), (5, .int p4), (6, .int p5)] := hl
  refine lv_aload_n hx hb dX8_order_0 rfl (lv_at hl 0 rfl) ?_
  refine lv_iload_n hx hb dX8_order_1 rfl (lv_at hl 1 rfl) ?_
  have hPc := hP.sub (ws' := [(g, .inr (8, [.ref nw, .ref la, .ref pn])), (nw, .inr (6, [.int dy, .ref aI, .ref aS, .ref aP, .ref aL, .ref aO, .ref aT, .ref aA, .ref aQ])), (aI, .inr (0, [.int 0, .ref aI1, .ref aI2, .ref aI3, .ref aI4]))]) [0, 1, 2] rfl
  have hDc := hD.sub (ws' := [(g, .inr (8, [.ref nw, .ref la, .ref pn])), (nw, .inr (6, [.int dy, .ref aI, .ref aS, .ref aP, .ref aL, .ref aO, .ref aT, .ref aA, .ref aQ])), (aI, .inr (0, [.int 0, .ref aI1, .ref aI2, .ref aI3, .ref aI4]))]) [0, 1, 2] (by decide) rfl
  have hFc := va_free (wc := [(g, .inr (8, [.ref nw, .ref la, .ref pn])), (nw, .inr (6, [.int dy, .ref aI, .ref aS, .ref aP, .ref aL, .ref aO, .ref aT, .ref aA, .ref aQ])), (aI, .inr (0, [.int 0, .ref aI1, .ref aI2, .ref aI3, .ref aI4]))]) hD hS hA [0, 1, 2] rfl
  refine vx_callv (vx_runV (As := [.int p0]) (rest := []) ⟨hx, hb, hml, hown, hts⟩ (c_needItem l hl9 D cI cZ cJ lo s.heap.size g nw la pn dy aI aS aP aL aO aT aA aQ aI1 aI2 aI3 aI4 p0) (cwV 1 hts gX8_order_X8_needItem rfl rfl rfl (by decide +kernel) ⟨(Nat.le_of_ble_eq_true rfl), (Nat.le_of_ble_eq_true rfl)⟩) ⟨Pre.blind, va_recv hK hP (ci := 8) (q0 := 0) rfl rfl, Pre.mk hPc (hDc.weaken (fun _ _ _ h => hAlo _ h)) hC hS hAlo⟩ rfl rfl hl.1 rfl (lv_room (Nat.le_of_ble_eq_true rfl)) dX8_order_2 ⟨(Nat.le_of_ble_eq_true rfl), (Nat.le_of_ble_eq_true rfl)⟩) hS (fun q _ h => hFc q h) hFc (fun q _ h => hFc q h) (fun E ce q9 u t H1 locs1 ht hvm hpx hbx hz1 hk1 hS1 hce hcv hcl => ?_) (fun u t H1 locs1 ht hvm e_1 hB hz1 hk1 hS1 => ?_)
  · have px_2 : True := hpx
    have hE : E = "java/lang/IndexOutOfBoundsException" := hbx
    subst hE
    exact vx_out (fun x9 h9 => (ht9 x9 h9).elim) hlocks hce hcv hcl (fun t9 ht9b _ => ⟨(), trivial, rfl, hS1.F ht9b⟩) hS1.2.2 (by omega) (by omega)
  · exact False.elim e_1

set_option maxHeartbeats 4000000 in
set_option maxRecDepth 100000 in
/-- cancel on a fresh object: throws -/
theorem c_cancel (l : Launch) (hl9 : l.stackTraces = false) (D : va_G) (cI cZ cJ : ClassId) (lo sz : Nat) (g : Nat) (nw : Nat) (la : Nat) (pn : Nat) (dy : Int32) (aI : Nat) (aS : Nat) (aP : Nat) (aL : Nat) (aO : Nat) (aT : Nat) (aA : Nat) (aQ : Nat) (aO1 : Nat) (aO2 : Nat) (aO3 : Nat) (aO4 : Nat) (aO5 : Nat) (aO6 : Nat) (aO7 : Nat) (aO8 : Nat) (aO9 : Nat) (aO10 : Nat) (p0 : Int32) : vx_Met l yX8_cancel wsX8_cancel ({ frames := 8, cells := 1, slots := 6, locals := 123 }) (Pre lo D cI cZ cJ [.ref g, .int p0] sz [(g, .inr (8, [.ref nw, .ref la, .ref pn])), (nw, .inr (6, [.int dy, .ref aI, .ref aS, .ref aP, .ref aL, .ref aO, .ref aT, .ref aA, .ref aQ])), (aO, .inr (2, [.int 0, .ref aO1, .ref aO2, .ref aO3, .ref aO4, .ref aO5, .ref aO6, .ref aO7, .ref aO8, .ref aO9, .ref aO10]))]) (va_Qi (fun (r : Int32) (_ : Unit) => False) (fun _ t => True) (va_A [(g, .inr (8, [.ref nw, .ref la, .ref pn])), (nw, .inr (6, [.int dy, .ref aI, .ref aS, .ref aP, .ref aL, .ref aO, .ref aT, .ref aA, .ref aQ])), (aO, .inr (2, [.int 0, .ref aO1, .ref aO2, .ref aO3, .ref aO4, .ref aO5, .ref aO6, .ref aO7, .ref aO8, .ref aO9, .ref aO10]))] sz)) (vx_X (fun _ : Unit => True) (fun E _ _ => E = "java/lang/IndexOutOfBoundsException") (va_A [(g, .inr (8, [.ref nw, .ref la, .ref pn])), (nw, .inr (6, [.int dy, .ref aI, .ref aS, .ref aP, .ref aL, .ref aO, .ref aT, .ref aA, .ref aQ])), (aO, .inr (2, [.int 0, .ref aO1, .ref aO2, .ref aO3, .ref aO4, .ref aO5, .ref aO6, .ref aO7, .ref aO8, .ref aO9, .ref aO10]))] sz)) 1 6 (va_A [(g, .inr (8, [.ref nw, .ref la, .ref pn])), (nw, .inr (6, [.int dy, .ref aI, .ref aS, .ref aP, .ref aL, .ref aO, .ref aT, .ref aA, .ref aQ])), (aO, .inr (2, [.int 0, .ref aO1, .ref aO2, .ref aO3, .ref aO4, .ref aO5, .ref aO6, .ref aO7, .ref aO8, .ref aO9, .ref aO10]))] sz) := by
  refine vx_ofW (cc := cX8_cancel) (maxL := 3) (ret := (some .int)) (by decide) rfl ?_
  intro p e s m args below meth c s₁ B hml ht9 hv
  obtain ⟨rfl, hsz, hP, hD0, hC⟩ := hv
  have hx := B.exec
  have hb := B.bytes
  have hr := B.returns
  have hts := atoms_spec (ws := wsX8_cancel) B.pre
  have hown : s.vm.findClass RX8 = some m.cls := findClass_of_methodNamed B.named
  have hlocks := B.notSynchronized
  subst hsz
  have hK := hC.K
  have hD := hD0.self (sz := s.heap.size)
  have hAlo0 := va_A_lo hD0 hC.1
  generalize hAe : va_A [(g, .inr (8, [.ref nw, .ref la, .ref pn])), (nw, .inr (6, [.int dy, .ref aI, .ref aS, .ref aP, .ref aL, .ref aO, .ref aT, .ref aA, .ref aQ])), (aO, .inr (2, [.int 0, .ref aO1, .ref aO2, .ref aO3, .ref aO4, .ref aO5, .ref aO6, .ref aO7, .ref aO8, .ref aO9, .ref aO10]))] s.heap.size = A at hD hAlo0 ⊢
  have hA : ∀ q : Nat, s.heap.size ≤ q → A q := fun q h => by rw [← hAe]; exact Or.inr h
  have hAlo : ∀ q, A q → lo ≤ q := hAlo0
  have hS : va_S A s.heap s.heap [] := va_S.rf
  have hP : va_P D vwCl [(g, .inr (8, [.ref nw, .ref la, .ref pn])), (nw, .inr (6, [.int dy, .ref aI, .ref aS, .ref aP, .ref aL, .ref aO, .ref aT, .ref aA, .ref aQ])), (aO, .inr (2, [.int 0, .ref aO1, .ref aO2, .ref aO3, .ref aO4, .ref aO5, .ref aO6, .ref aO7, .ref aO8, .ref aO9, .ref aO10]))] s.heap := hP
  have hl := lv_entry ([.ref g, .int p0]) (n := 3) (Nat.le_of_ble_eq_true rfl)
  rw [lg_entry_eq]
  generalize (lg_sl ([.ref g, .int p0]) ++ List.replicate (3 - (lg_sl ([.ref g, .int p0])).length) Slot.unset).toArray = ls at hl ⊢
  have hl : lv_has ls 3 [(0, .ref g), (1, .int p0)] := hl
  refine lv_aload_n hx hb dX8_cancel_0 rfl (lv_at hl 0 rfl) ?_
  refine lv_iload_n hx hb dX8_cancel_1 rfl (lv_at hl 1 rfl) ?_
  have hPc := hP.sub (ws' := [(g, .inr (8, [.ref nw, .ref la, .ref pn])), (nw, .inr (6, [.int dy, .ref aI, .ref aS, .ref aP, .ref aL, .ref aO, .ref aT, .ref aA, .ref aQ])), (aO, .inr (2, [.int 0, .ref aO1, .ref aO2, .ref aO3, .ref aO4, .ref aO5, .ref aO6, .ref aO7, .ref aO8, .ref aO9, .ref aO10]))]) [0, 1, 2] rfl
  have hDc := hD.sub (ws' := [(g, .inr (8, [.ref nw, .ref la, .ref pn])), (nw, .inr (6, [.int dy, .ref aI, .ref aS, .ref aP, .ref aL, .ref aO, .ref aT, .ref aA, .ref aQ])), (aO, .inr (2, [.int 0, .ref aO1, .ref aO2, .ref aO3, .ref aO4, .ref aO5, .ref aO6, .ref aO7, .ref aO8, .ref aO9, .ref aO10]))]) [0, 1, 2] (by decide) rfl
  have hFc := va_free (wc := [(g, .inr (8, [.ref nw, .ref la, .ref pn])), (nw, .inr (6, [.int dy, .ref aI, .ref aS, .ref aP, .ref aL, .ref aO, .ref aT, .ref aA, .ref aQ])), (aO, .inr (2, [.int 0, .ref aO1, .ref aO2, .ref aO3, .ref aO4, .ref aO5, .ref aO6, .ref aO7, .ref aO8, .ref aO9, .ref aO10]))]) hD hS hA [0, 1, 2] rfl
  refine vx_callv (vx_runV (As := [.int p0]) (rest := []) ⟨hx, hb, hml, hown, hts⟩ (c_needOrder l hl9 D cI cZ cJ lo s.heap.size g nw la pn dy aI aS aP aL aO aT aA aQ aO1 aO2 aO3 aO4 aO5 aO6 aO7 aO8 aO9 aO10 p0) (cwV 1 hts gX8_cancel_X8_needOrder rfl rfl rfl (by decide +kernel) ⟨(Nat.le_of_ble_eq_true rfl), (Nat.le_of_ble_eq_true rfl)⟩) ⟨Pre.blind, va_recv hK hP (ci := 8) (q0 := 0) rfl rfl, Pre.mk hPc (hDc.weaken (fun _ _ _ h => hAlo _ h)) hC hS hAlo⟩ rfl rfl hl.1 rfl (lv_room (Nat.le_of_ble_eq_true rfl)) dX8_cancel_2 ⟨(Nat.le_of_ble_eq_true rfl), (Nat.le_of_ble_eq_true rfl)⟩) hS (fun q _ h => hFc q h) hFc (fun q _ h => hFc q h) (fun E ce q9 u t H1 locs1 ht hvm hpx hbx hz1 hk1 hS1 hce hcv hcl => ?_) (fun u t H1 locs1 ht hvm e_1 hB hz1 hk1 hS1 => ?_)
  · have px_2 : True := hpx
    have hE : E = "java/lang/IndexOutOfBoundsException" := hbx
    subst hE
    exact vx_out (fun x9 h9 => (ht9 x9 h9).elim) hlocks hce hcv hcl (fun t9 ht9b _ => ⟨(), trivial, rfl, hS1.F ht9b⟩) hS1.2.2 (by omega) (by omega)
  · exact False.elim e_1

set_option maxHeartbeats 4000000 in
set_option maxRecDepth 100000 in
/-- ship on a fresh object: throws -/
theorem c_ship (l : Launch) (hl9 : l.stackTraces = false) (D : va_G) (cI cZ cJ : ClassId) (lo sz : Nat) (g : Nat) (nw : Nat) (la : Nat) (pn : Nat) (dy : Int32) (aI : Nat) (aS : Nat) (aP : Nat) (aL : Nat) (aO : Nat) (aT : Nat) (aA : Nat) (aQ : Nat) (aO1 : Nat) (aO2 : Nat) (aO3 : Nat) (aO4 : Nat) (aO5 : Nat) (aO6 : Nat) (aO7 : Nat) (aO8 : Nat) (aO9 : Nat) (aO10 : Nat) (p0 : Int32) : vx_Met l yX8_ship wsX8_ship ({ frames := 8, cells := 1, slots := 6, locals := 123 }) (Pre lo D cI cZ cJ [.ref g, .int p0] sz [(g, .inr (8, [.ref nw, .ref la, .ref pn])), (nw, .inr (6, [.int dy, .ref aI, .ref aS, .ref aP, .ref aL, .ref aO, .ref aT, .ref aA, .ref aQ])), (aO, .inr (2, [.int 0, .ref aO1, .ref aO2, .ref aO3, .ref aO4, .ref aO5, .ref aO6, .ref aO7, .ref aO8, .ref aO9, .ref aO10]))]) (va_Qi (fun (r : Int32) (_ : Unit) => False) (fun _ t => True) (va_A [(g, .inr (8, [.ref nw, .ref la, .ref pn])), (nw, .inr (6, [.int dy, .ref aI, .ref aS, .ref aP, .ref aL, .ref aO, .ref aT, .ref aA, .ref aQ])), (aO, .inr (2, [.int 0, .ref aO1, .ref aO2, .ref aO3, .ref aO4, .ref aO5, .ref aO6, .ref aO7, .ref aO8, .ref aO9, .ref aO10]))] sz)) (vx_X (fun _ : Unit => True) (fun E _ _ => E = "java/lang/IndexOutOfBoundsException") (va_A [(g, .inr (8, [.ref nw, .ref la, .ref pn])), (nw, .inr (6, [.int dy, .ref aI, .ref aS, .ref aP, .ref aL, .ref aO, .ref aT, .ref aA, .ref aQ])), (aO, .inr (2, [.int 0, .ref aO1, .ref aO2, .ref aO3, .ref aO4, .ref aO5, .ref aO6, .ref aO7, .ref aO8, .ref aO9, .ref aO10]))] sz)) 1 6 (va_A [(g, .inr (8, [.ref nw, .ref la, .ref pn])), (nw, .inr (6, [.int dy, .ref aI, .ref aS, .ref aP, .ref aL, .ref aO, .ref aT, .ref aA, .ref aQ])), (aO, .inr (2, [.int 0, .ref aO1, .ref aO2, .ref aO3, .ref aO4, .ref aO5, .ref aO6, .ref aO7, .ref aO8, .ref aO9, .ref aO10]))] sz) := by
  refine vx_ofW (cc := cX8_ship) (maxL := 2) (ret := (some .int)) (by decide) rfl ?_
  intro p e s m args below meth c s₁ B hml ht9 hv
  obtain ⟨rfl, hsz, hP, hD0, hC⟩ := hv
  have hx := B.exec
  have hb := B.bytes
  have hr := B.returns
  have hts := atoms_spec (ws := wsX8_ship) B.pre
  have hown : s.vm.findClass RX8 = some m.cls := findClass_of_methodNamed B.named
  have hlocks := B.notSynchronized
  subst hsz
  have hK := hC.K
  have hD := hD0.self (sz := s.heap.size)
  have hAlo0 := va_A_lo hD0 hC.1
  generalize hAe : va_A [(g, .inr (8, [.ref nw, .ref la, .ref pn])), (nw, .inr (6, [.int dy, .ref aI, .ref aS, .ref aP, .ref aL, .ref aO, .ref aT, .ref aA, .ref aQ])), (aO, .inr (2, [.int 0, .ref aO1, .ref aO2, .ref aO3, .ref aO4, .ref aO5, .ref aO6, .ref aO7, .ref aO8, .ref aO9, .ref aO10]))] s.heap.size = A at hD hAlo0 ⊢
  have hA : ∀ q : Nat, s.heap.size ≤ q → A q := fun q h => by rw [← hAe]; exact Or.inr h
  have hAlo : ∀ q, A q → lo ≤ q := hAlo0
  have hS : va_S A s.heap s.heap [] := va_S.rf
  have hP : va_P D vwCl [(g, .inr (8, [.ref nw, .ref la, .ref pn])), (nw, .inr (6, [.int dy, .ref aI, .ref aS, .ref aP, .ref aL, .ref aO, .ref aT, .ref aA, .ref aQ])), (aO, .inr (2, [.int 0, .ref aO1, .ref aO2, .ref aO3, .ref aO4, .ref aO5, .ref aO6, .ref aO7, .ref aO8, .ref aO9, .ref aO10]))] s.heap := hP
  have hl := lv_entry ([.ref g, .int p0]) (n := 2) (Nat.le_of_ble_eq_true rfl)
  rw [lg_entry_eq]
  generalize (lg_sl ([.ref g, .int p0]) ++ List.replicate (2 - (lg_sl ([.ref g, .int p0])).length) Slot.unset).toArray = ls at hl ⊢
  have hl : lv_has ls 2 [(0, .ref g), (1, .int p0)] := hl
  refine lv_aload_n hx hb dX8_ship_0 rfl (lv_at hl 0 rfl) ?_
  refine lv_iload_n hx hb dX8_ship_1 rfl (lv_at hl 1 rfl) ?_
  have hPc := hP.sub (ws' := [(g, .inr (8, [.ref nw, .ref la, .ref pn])), (nw, .inr (6, [.int dy, .ref aI, .ref aS, .ref aP, .ref aL, .ref aO, .ref aT, .ref aA, .ref aQ])), (aO, .inr (2, [.int 0, .ref aO1, .ref aO2, .ref aO3, .ref aO4, .ref aO5, .ref aO6, .ref aO7, .ref aO8, .ref aO9, .ref aO10]))]) [0, 1, 2] rfl
  have hDc := hD.sub (ws' := [(g, .inr (8, [.ref nw, .ref la, .ref pn])), (nw, .inr (6, [.int dy, .ref aI, .ref aS, .ref aP, .ref aL, .ref aO, .ref aT, .ref aA, .ref aQ])), (aO, .inr (2, [.int 0, .ref aO1, .ref aO2, .ref aO3, .ref aO4, .ref aO5, .ref aO6, .ref aO7, .ref aO8, .ref aO9, .ref aO10]))]) [0, 1, 2] (by decide) rfl
  have hFc := va_free (wc := [(g, .inr (8, [.ref nw, .ref la, .ref pn])), (nw, .inr (6, [.int dy, .ref aI, .ref aS, .ref aP, .ref aL, .ref aO, .ref aT, .ref aA, .ref aQ])), (aO, .inr (2, [.int 0, .ref aO1, .ref aO2, .ref aO3, .ref aO4, .ref aO5, .ref aO6, .ref aO7, .ref aO8, .ref aO9, .ref aO10]))]) hD hS hA [0, 1, 2] rfl
  refine vx_callv (vx_runV (As := [.int p0]) (rest := []) ⟨hx, hb, hml, hown, hts⟩ (c_needOrder l hl9 D cI cZ cJ lo s.heap.size g nw la pn dy aI aS aP aL aO aT aA aQ aO1 aO2 aO3 aO4 aO5 aO6 aO7 aO8 aO9 aO10 p0) (cwV 1 hts gX8_ship_X8_needOrder rfl rfl rfl (by decide +kernel) ⟨(Nat.le_of_ble_eq_true rfl), (Nat.le_of_ble_eq_true rfl)⟩) ⟨Pre.blind, va_recv hK hP (ci := 8) (q0 := 0) rfl rfl, Pre.mk hPc (hDc.weaken (fun _ _ _ h => hAlo _ h)) hC hS hAlo⟩ rfl rfl hl.1 rfl (lv_room (Nat.le_of_ble_eq_true rfl)) dX8_ship_2 ⟨(Nat.le_of_ble_eq_true rfl), (Nat.le_of_ble_eq_true rfl)⟩) hS (fun q _ h => hFc q h) hFc (fun q _ h => hFc q h) (fun E ce q9 u t H1 locs1 ht hvm hpx hbx hz1 hk1 hS1 hce hcv hcl => ?_) (fun u t H1 locs1 ht hvm e_1 hB hz1 hk1 hS1 => ?_)
  · have px_2 : True := hpx
    have hE : E = "java/lang/IndexOutOfBoundsException" := hbx
    subst hE
    exact vx_out (fun x9 h9 => (ht9 x9 h9).elim) hlocks hce hcv hcl (fun t9 ht9b _ => ⟨(), trivial, rfl, hS1.F ht9b⟩) hS1.2.2 (by omega) (by omega)
  · exact False.elim e_1

set_option maxHeartbeats 4000000 in
set_option maxRecDepth 100000 in
/-- send on a fresh object: throws -/
theorem c_send (l : Launch) (hl9 : l.stackTraces = false) (D : va_G) (cI cZ cJ : ClassId) (lo sz : Nat) (g : Nat) (nw : Nat) (la : Nat) (pn : Nat) (dy : Int32) (aI : Nat) (aS : Nat) (aP : Nat) (aL : Nat) (aO : Nat) (aT : Nat) (aA : Nat) (aQ : Nat) (aI1 : Nat) (aI2 : Nat) (aI3 : Nat) (aI4 : Nat) (p0 : Int32) (p1 : Int32) (p2 : Int32) (p3 : Int32) : vx_Met l yX8_send wsX8_send ({ frames := 8, cells := 1, slots := 6, locals := 123 }) (Pre lo D cI cZ cJ [.ref g, .int p0, .int p1, .int p2, .int p3] sz [(g, .inr (8, [.ref nw, .ref la, .ref pn])), (nw, .inr (6, [.int dy, .ref aI, .ref aS, .ref aP, .ref aL, .ref aO, .ref aT, .ref aA, .ref aQ])), (aI, .inr (0, [.int 0, .ref aI1, .ref aI2, .ref aI3, .ref aI4]))]) (va_Qi (fun (r : Int32) (_ : Unit) => False) (fun _ t => True) (va_A [(g, .inr (8, [.ref nw, .ref la, .ref pn])), (nw, .inr (6, [.int dy, .ref aI, .ref aS, .ref aP, .ref aL, .ref aO, .ref aT, .ref aA, .ref aQ])), (aI, .inr (0, [.int 0, .ref aI1, .ref aI2, .ref aI3, .ref aI4]))] sz)) (vx_X (fun _ : Unit => True) (fun E _ _ => E = "java/lang/IndexOutOfBoundsException") (va_A [(g, .inr (8, [.ref nw, .ref la, .ref pn])), (nw, .inr (6, [.int dy, .ref aI, .ref aS, .ref aP, .ref aL, .ref aO, .ref aT, .ref aA, .ref aQ])), (aI, .inr (0, [.int 0, .ref aI1, .ref aI2, .ref aI3, .ref aI4]))] sz)) 1 6 (va_A [(g, .inr (8, [.ref nw, .ref la, .ref pn])), (nw, .inr (6, [.int dy, .ref aI, .ref aS, .ref aP, .ref aL, .ref aO, .ref aT, .ref aA, .ref aQ])), (aI, .inr (0, [.int 0, .ref aI1, .ref aI2, .ref aI3, .ref aI4]))] sz) := by
  refine vx_ofW (cc := cX8_send) (maxL := 5) (ret := (some .int)) (by decide) rfl ?_
  intro p e s m args below meth c s₁ B hml ht9 hv
  obtain ⟨rfl, hsz, hP, hD0, hC⟩ := hv
  have hx := B.exec
  have hb := B.bytes
  have hr := B.returns
  have hts := atoms_spec (ws := wsX8_send) B.pre
  have hown : s.vm.findClass RX8 = some m.cls := findClass_of_methodNamed B.named
  have hlocks := B.notSynchronized
  subst hsz
  have hK := hC.K
  have hD := hD0.self (sz := s.heap.size)
  have hAlo0 := va_A_lo hD0 hC.1
  generalize hAe : va_A [(g, .inr (8, [.ref nw, .ref la, .ref pn])), (nw, .inr (6, [.int dy, .ref aI, .ref aS, .ref aP, .ref aL, .ref aO, .ref aT, .ref aA, .ref aQ])), (aI, .inr (0, [.int 0, .ref aI1, .ref aI2, .ref aI3, .ref aI4]))] s.heap.size = A at hD hAlo0 ⊢
  have hA : ∀ q : Nat, s.heap.size ≤ q → A q := fun q h => by rw [← hAe]; exact Or.inr h
  have hAlo : ∀ q, A q → lo ≤ q := hAlo0
  have hS : va_S A s.heap s.heap [] := va_S.rf
  have hP : va_P D vwCl [(g, .inr (8, [.ref nw, .ref la, .ref pn])), (nw, .inr (6, [.int dy, .ref aI, .ref aS, .ref aP, .ref aL, .ref aO, .ref aT, .ref aA, .ref aQ])), (aI, .inr (0, [.int 0, .ref aI1, .ref aI2, .ref aI3, .ref aI4]))] s.heap := hP
  have hl := lv_entry ([.ref g, .int p0, .int p1, .int p2, .int p3]) (n := 5) (Nat.le_of_ble_eq_true rfl)
  rw [lg_entry_eq]
  generalize (lg_sl ([.ref g, .int p0, .int p1, .int p2, .int p3]) ++ List.replicate (5 - (lg_sl ([.ref g, .int p0, .int p1, .int p2, .int p3])).length) Slot.unset).toArray = ls at hl ⊢
  have hl : lv_has ls 5 [(0, .ref g), (1, .int p0), (2, .int p1), (3, .int p2), (4, .int p3)] := hl
  refine lv_aload_n hx hb dX8_send_0 rfl (lv_at hl 0 rfl) ?_
  refine lv_iload_n hx hb dX8_send_1 rfl (lv_at hl 1 rfl) ?_
  have hPc := hP.sub (ws' := [(g, .inr (8, [.ref nw, .ref la, .ref pn])), (nw, .inr (6, [.int dy, .ref aI, .ref aS, .ref aP, .ref aL, .ref aO, .ref aT, .ref aA, .ref aQ])), (aI, .inr (0, [.int 0, .ref aI1, .ref aI2, .ref aI3, .ref aI4]))]) [0, 1, 2] rfl
  have hDc := hD.sub (ws' := [(g, .inr (8, [.ref nw, .ref la, .ref pn])), (nw, .inr (6, [.int dy, .ref aI, .ref aS, .ref aP, .ref aL, .ref aO, .ref aT, .ref aA, .ref aQ])), (aI, .inr (0, [.int 0, .ref aI1, .ref aI2, .ref aI3, .ref aI4]))]) [0, 1, 2] (by decide) rfl
  have hFc := va_free (wc := [(g, .inr (8, [.ref nw, .ref la, .ref pn])), (nw, .inr (6, [.int dy, .ref aI, .ref aS, .ref aP, .ref aL, .ref aO, .ref aT, .ref aA, .ref aQ])), (aI, .inr (0, [.int 0, .ref aI1, .ref aI2, .ref aI3, .ref aI4]))]) hD hS hA [0, 1, 2] rfl
  refine vx_callv (vx_runV (As := [.int p0]) (rest := []) ⟨hx, hb, hml, hown, hts⟩ (c_needItem l hl9 D cI cZ cJ lo s.heap.size g nw la pn dy aI aS aP aL aO aT aA aQ aI1 aI2 aI3 aI4 p0) (cwV 1 hts gX8_send_X8_needItem rfl rfl rfl (by decide +kernel) ⟨(Nat.le_of_ble_eq_true rfl), (Nat.le_of_ble_eq_true rfl)⟩) ⟨Pre.blind, va_recv hK hP (ci := 8) (q0 := 0) rfl rfl, Pre.mk hPc (hDc.weaken (fun _ _ _ h => hAlo _ h)) hC hS hAlo⟩ rfl rfl hl.1 rfl (lv_room (Nat.le_of_ble_eq_true rfl)) dX8_send_2 ⟨(Nat.le_of_ble_eq_true rfl), (Nat.le_of_ble_eq_true rfl)⟩) hS (fun q _ h => hFc q h) hFc (fun q _ h => hFc q h) (fun E ce q9 u t H1 locs1 ht hvm hpx hbx hz1 hk1 hS1 hce hcv hcl => ?_) (fun u t H1 locs1 ht hvm e_1 hB hz1 hk1 hS1 => ?_)
  · have px_2 : True := hpx
    have hE : E = "java/lang/IndexOutOfBoundsException" := hbx
    subst hE
    exact vx_out (fun x9 h9 => (ht9 x9 h9).elim) hlocks hce hcv hcl (fun t9 ht9b _ => ⟨(), trivial, rfl, hS1.F ht9b⟩) hS1.2.2 (by omega) (by omega)
  · exact False.elim e_1

set_option maxHeartbeats 4000000 in
set_option maxRecDepth 100000 in
/-- balance on a fresh object: throws -/
theorem c_balance (l : Launch) (hl9 : l.stackTraces = false) (D : va_G) (cI cZ cJ : ClassId) (lo sz : Nat) (g : Nat) (nw : Nat) (la : Nat) (pn : Nat) (dy : Int32) (aI : Nat) (aS : Nat) (aP : Nat) (aL : Nat) (aO : Nat) (aT : Nat) (aA : Nat) (aQ : Nat) (aI1 : Nat) (aI2 : Nat) (aI3 : Nat) (aI4 : Nat) (p0 : Int32) : vx_Met l yX8_balance wsX8_balance ({ frames := 8, cells := 1, slots := 6, locals := 123 }) (Pre lo D cI cZ cJ [.ref g, .int p0] sz [(g, .inr (8, [.ref nw, .ref la, .ref pn])), (nw, .inr (6, [.int dy, .ref aI, .ref aS, .ref aP, .ref aL, .ref aO, .ref aT, .ref aA, .ref aQ])), (aI, .inr (0, [.int 0, .ref aI1, .ref aI2, .ref aI3, .ref aI4]))]) (va_Qi (fun (r : Int32) (_ : Unit) => False) (fun _ t => True) (va_A [(g, .inr (8, [.ref nw, .ref la, .ref pn])), (nw, .inr (6, [.int dy, .ref aI, .ref aS, .ref aP, .ref aL, .ref aO, .ref aT, .ref aA, .ref aQ])), (aI, .inr (0, [.int 0, .ref aI1, .ref aI2, .ref aI3, .ref aI4]))] sz)) (vx_X (fun _ : Unit => True) (fun E _ _ => E = "java/lang/IndexOutOfBoundsException") (va_A [(g, .inr (8, [.ref nw, .ref la, .ref pn])), (nw, .inr (6, [.int dy, .ref aI, .ref aS, .ref aP, .ref aL, .ref aO, .ref aT, .ref aA, .ref aQ])), (aI, .inr (0, [.int 0, .ref aI1, .ref aI2, .ref aI3, .ref aI4]))] sz)) 1 6 (va_A [(g, .inr (8, [.ref nw, .ref la, .ref pn])), (nw, .inr (6, [.int dy, .ref aI, .ref aS, .ref aP, .ref aL, .ref aO, .ref aT, .ref aA, .ref aQ])), (aI, .inr (0, [.int 0, .ref aI1, .ref aI2, .ref aI3, .ref aI4]))] sz) := by
  refine vx_ofW (cc := cX8_balance) (maxL := 5) (ret := (some .int)) (by decide) rfl ?_
  intro p e s m args below meth c s₁ B hml ht9 hv
  obtain ⟨rfl, hsz, hP, hD0, hC⟩ := hv
  have hx := B.exec
  have hb := B.bytes
  have hr := B.returns
  have hts := atoms_spec (ws := wsX8_balance) B.pre
  have hown : s.vm.findClass RX8 = some m.cls := findClass_of_methodNamed B.named
  have hlocks := B.notSynchronized
  subst hsz
  have hK := hC.K
  have hD := hD0.self (sz := s.heap.size)
  have hAlo0 := va_A_lo hD0 hC.1
  generalize hAe : va_A [(g, .inr (8, [.ref nw, .ref la, .ref pn])), (nw, .inr (6, [.int dy, .ref aI, .ref aS, .ref aP, .ref aL, .ref aO, .ref aT, .ref aA, .ref aQ])), (aI, .inr (0, [.int 0, .ref aI1, .ref aI2, .ref aI3, .ref aI4]))] s.heap.size = A at hD hAlo0 ⊢
  have hA : ∀ q : Nat, s.heap.size ≤ q → A q := fun q h => by rw [← hAe]; exact Or.inr h
  have hAlo : ∀ q, A q → lo ≤ q := hAlo0
  have hS : va_S A s.heap s.heap [] := va_S.rf
  have hP : va_P D vwCl [(g, .inr (8, [.ref nw, .ref la, .ref pn])), (nw, .inr (6, [.int dy, .ref aI, .ref aS, .ref aP, .ref aL, .ref aO, .ref aT, .ref aA, .ref aQ])), (aI, .inr (0, [.int 0, .ref aI1, .ref aI2, .ref aI3, .ref aI4]))] s.heap := hP
  have hl := lv_entry ([.ref g, .int p0]) (n := 5) (Nat.le_of_ble_eq_true rfl)
  rw [lg_entry_eq]
  generalize (lg_sl ([.ref g, .int p0]) ++ List.replicate (5 - (lg_sl ([.ref g, .int p0])).length) Slot.unset).toArray = ls at hl ⊢
  have hl : lv_has ls 5 [(0, .ref g), (1, .int p0)] := hl
  refine lv_aload_n hx hb dX8_balance_0 rfl (lv_at hl 0 rfl) ?_
  refine lv_iload_n hx hb dX8_balance_1 rfl (lv_at hl 1 rfl) ?_
  have hPc := hP.sub (ws' := [(g, .inr (8, [.ref nw, .ref la, .ref pn])), (nw, .inr (6, [.int dy, .ref aI, .ref aS, .ref aP, .ref aL, .ref aO, .ref aT, .ref aA, .ref aQ])), (aI, .inr (0, [.int 0, .ref aI1, .ref aI2, .ref aI3, .ref aI4]))]) [0, 1, 2] rfl
  have hDc := hD.sub (ws' := [(g, .inr (8, [.ref nw, .ref la, .ref pn])), (nw, .inr (6, [.int dy, .ref aI, .ref aS, .ref aP, .ref aL, .ref aO, .ref aT, .ref aA, .ref aQ])), (aI, .inr (0, [.int 0, .ref aI1, .ref aI2, .ref aI3, .ref aI4]))]) [0, 1, 2] (by decide) rfl
  have hFc := va_free (wc := [(g, .inr (8, [.ref nw, .ref la, .ref pn])), (nw, .inr (6, [.int dy, .ref aI, .ref aS, .ref aP, .ref aL, .ref aO, .ref aT, .ref aA, .ref aQ])), (aI, .inr (0, [.int 0, .ref aI1, .ref aI2, .ref aI3, .ref aI4]))]) hD hS hA [0, 1, 2] rfl
  refine vx_callv (vx_runV (As := [.int p0]) (rest := []) ⟨hx, hb, hml, hown, hts⟩ (c_needItem l hl9 D cI cZ cJ lo s.heap.size g nw la pn dy aI aS aP aL aO aT aA aQ aI1 aI2 aI3 aI4 p0) (cwV 1 hts gX8_balance_X8_needItem rfl rfl rfl (by decide +kernel) ⟨(Nat.le_of_ble_eq_true rfl), (Nat.le_of_ble_eq_true rfl)⟩) ⟨Pre.blind, va_recv hK hP (ci := 8) (q0 := 0) rfl rfl, Pre.mk hPc (hDc.weaken (fun _ _ _ h => hAlo _ h)) hC hS hAlo⟩ rfl rfl hl.1 rfl (lv_room (Nat.le_of_ble_eq_true rfl)) dX8_balance_2 ⟨(Nat.le_of_ble_eq_true rfl), (Nat.le_of_ble_eq_true rfl)⟩) hS (fun q _ h => hFc q h) hFc (fun q _ h => hFc q h) (fun E ce q9 u t H1 locs1 ht hvm hpx hbx hz1 hk1 hS1 hce hcv hcl => ?_) (fun u t H1 locs1 ht hvm e_1 hB hz1 hk1 hS1 => ?_)
  · have px_2 : True := hpx
    have hE : E = "java/lang/IndexOutOfBoundsException" := hbx
    subst hE
    exact vx_out (fun x9 h9 => (ht9 x9 h9).elim) hlocks hce hcv hcl (fun t9 ht9b _ => ⟨(), trivial, rfl, hS1.F ht9b⟩) hS1.2.2 (by omega) (by omega)
  · exact False.elim e_1

set_option maxHeartbeats 4000000 in
set_option maxRecDepth 100000 in
/-- ofLot on a fresh object: throws -/
theorem c_ofLot (l : Launch) (hl9 : l.stackTraces = false) (D : va_G) (cI cZ cJ : ClassId) (lo sz : Nat) (g : Nat) (nw : Nat) (la : Nat) (pn : Nat) (dy : Int32) (aI : Nat) (aS : Nat) (aP : Nat) (aL : Nat) (aO : Nat) (aT : Nat) (aA : Nat) (aQ : Nat) (aL1 : Nat) (aL2 : Nat) (aL3 : Nat) (aL4 : Nat) (aL5 : Nat) (p0 : Int32) (p1 : Int32) : vx_Met l yX8_ofLot wsX8_ofLot ({ frames := 8, cells := 1, slots := 6, locals := 123 }) (Pre lo D cI cZ cJ [.ref g, .int p0, .int p1] sz [(g, .inr (8, [.ref nw, .ref la, .ref pn])), (nw, .inr (6, [.int dy, .ref aI, .ref aS, .ref aP, .ref aL, .ref aO, .ref aT, .ref aA, .ref aQ])), (aL, .inr (1, [.int 0, .ref aL1, .ref aL2, .ref aL3, .ref aL4, .ref aL5]))]) (va_Qi (fun (r : Int32) (_ : Unit) => False) (fun _ t => True) (va_A [(g, .inr (8, [.ref nw, .ref la, .ref pn])), (nw, .inr (6, [.int dy, .ref aI, .ref aS, .ref aP, .ref aL, .ref aO, .ref aT, .ref aA, .ref aQ])), (aL, .inr (1, [.int 0, .ref aL1, .ref aL2, .ref aL3, .ref aL4, .ref aL5]))] sz)) (vx_X (fun _ : Unit => True) (fun E _ _ => E = "java/lang/IndexOutOfBoundsException") (va_A [(g, .inr (8, [.ref nw, .ref la, .ref pn])), (nw, .inr (6, [.int dy, .ref aI, .ref aS, .ref aP, .ref aL, .ref aO, .ref aT, .ref aA, .ref aQ])), (aL, .inr (1, [.int 0, .ref aL1, .ref aL2, .ref aL3, .ref aL4, .ref aL5]))] sz)) 1 6 (va_A [(g, .inr (8, [.ref nw, .ref la, .ref pn])), (nw, .inr (6, [.int dy, .ref aI, .ref aS, .ref aP, .ref aL, .ref aO, .ref aT, .ref aA, .ref aQ])), (aL, .inr (1, [.int 0, .ref aL1, .ref aL2, .ref aL3, .ref aL4, .ref aL5]))] sz) := by
  refine vx_ofW (cc := cX8_ofLot) (maxL := 3) (ret := (some .int)) (by decide) rfl ?_
  intro p e s m args below meth c s₁ B hml ht9 hv
  obtain ⟨rfl, hsz, hP, hD0, hC⟩ := hv
  have hx := B.exec
  have hb := B.bytes
  have hr := B.returns
  have hts := atoms_spec (ws := wsX8_ofLot) B.pre
  have hown : s.vm.findClass RX8 = some m.cls := findClass_of_methodNamed B.named
  have hlocks := B.notSynchronized
  subst hsz
  have hK := hC.K
  have hD := hD0.self (sz := s.heap.size)
  have hAlo0 := va_A_lo hD0 hC.1
  generalize hAe : va_A [(g, .inr (8, [.ref nw, .ref la, .ref pn])), (nw, .inr (6, [.int dy, .ref aI, .ref aS, .ref aP, .ref aL, .ref aO, .ref aT, .ref aA, .ref aQ])), (aL, .inr (1, [.int 0, .ref aL1, .ref aL2, .ref aL3, .ref aL4, .ref aL5]))] s.heap.size = A at hD hAlo0 ⊢
  have hA : ∀ q : Nat, s.heap.size ≤ q → A q := fun q h => by rw [← hAe]; exact Or.inr h
  have hAlo : ∀ q, A q → lo ≤ q := hAlo0
  have hS : va_S A s.heap s.heap [] := va_S.rf
  have hP : va_P D vwCl [(g, .inr (8, [.ref nw, .ref la, .ref pn])), (nw, .inr (6, [.int dy, .ref aI, .ref aS, .ref aP, .ref aL, .ref aO, .ref aT, .ref aA, .ref aQ])), (aL, .inr (1, [.int 0, .ref aL1, .ref aL2, .ref aL3, .ref aL4, .ref aL5]))] s.heap := hP
  have hl := lv_entry ([.ref g, .int p0, .int p1]) (n := 3) (Nat.le_of_ble_eq_true rfl)
  rw [lg_entry_eq]
  generalize (lg_sl ([.ref g, .int p0, .int p1]) ++ List.replicate (3 - (lg_sl ([.ref g, .int p0, .int p1])).length) Slot.unset).toArray = ls at hl ⊢
  have hl : lv_has ls 3 [(0, .ref g), (1, .int p0), (2, .int p1)] := hl
  refine lv_aload_n hx hb dX8_ofLot_0 rfl (lv_at hl 0 rfl) ?_
  refine lv_iload_n hx hb dX8_ofLot_1 rfl (lv_at hl 1 rfl) ?_
  have hPc := hP.sub (ws' := [(g, .inr (8, [.ref nw, .ref la, .ref pn])), (nw, .inr (6, [.int dy, .ref aI, .ref aS, .ref aP, .ref aL, .ref aO, .ref aT, .ref aA, .ref aQ])), (aL, .inr (1, [.int 0, .ref aL1, .ref aL2, .ref aL3, .ref aL4, .ref aL5]))]) [0, 1, 2] rfl
  have hDc := hD.sub (ws' := [(g, .inr (8, [.ref nw, .ref la, .ref pn])), (nw, .inr (6, [.int dy, .ref aI, .ref aS, .ref aP, .ref aL, .ref aO, .ref aT, .ref aA, .ref aQ])), (aL, .inr (1, [.int 0, .ref aL1, .ref aL2, .ref aL3, .ref aL4, .ref aL5]))]) [0, 1, 2] (by decide) rfl
  have hFc := va_free (wc := [(g, .inr (8, [.ref nw, .ref la, .ref pn])), (nw, .inr (6, [.int dy, .ref aI, .ref aS, .ref aP, .ref aL, .ref aO, .ref aT, .ref aA, .ref aQ])), (aL, .inr (1, [.int 0, .ref aL1, .ref aL2, .ref aL3, .ref aL4, .ref aL5]))]) hD hS hA [0, 1, 2] rfl
  refine vx_callv (vx_runV (As := [.int p0]) (rest := []) ⟨hx, hb, hml, hown, hts⟩ (c_needLot l hl9 D cI cZ cJ lo s.heap.size g nw la pn dy aI aS aP aL aO aT aA aQ aL1 aL2 aL3 aL4 aL5 p0) (cwV 1 hts gX8_ofLot_X8_needLot rfl rfl rfl (by decide +kernel) ⟨(Nat.le_of_ble_eq_true rfl), (Nat.le_of_ble_eq_true rfl)⟩) ⟨Pre.blind, va_recv hK hP (ci := 8) (q0 := 0) rfl rfl, Pre.mk hPc (hDc.weaken (fun _ _ _ h => hAlo _ h)) hC hS hAlo⟩ rfl rfl hl.1 rfl (lv_room (Nat.le_of_ble_eq_true rfl)) dX8_ofLot_2 ⟨(Nat.le_of_ble_eq_true rfl), (Nat.le_of_ble_eq_true rfl)⟩) hS (fun q _ h => hFc q h) hFc (fun q _ h => hFc q h) (fun E ce q9 u t H1 locs1 ht hvm hpx hbx hz1 hk1 hS1 hce hcv hcl => ?_) (fun u t H1 locs1 ht hvm e_1 hB hz1 hk1 hS1 => ?_)
  · have px_2 : True := hpx
    have hE : E = "java/lang/IndexOutOfBoundsException" := hbx
    subst hE
    exact vx_out (fun x9 h9 => (ht9 x9 h9).elim) hlocks hce hcv hcl (fun t9 ht9b _ => ⟨(), trivial, rfl, hS1.F ht9b⟩) hS1.2.2 (by omega) (by omega)
  · exact False.elim e_1

set_option maxHeartbeats 4000000 in
set_option maxRecDepth 100000 in
/-- ofOrder on a fresh object: throws -/
theorem c_ofOrder (l : Launch) (hl9 : l.stackTraces = false) (D : va_G) (cI cZ cJ : ClassId) (lo sz : Nat) (g : Nat) (nw : Nat) (la : Nat) (pn : Nat) (dy : Int32) (aI : Nat) (aS : Nat) (aP : Nat) (aL : Nat) (aO : Nat) (aT : Nat) (aA : Nat) (aQ : Nat) (aO1 : Nat) (aO2 : Nat) (aO3 : Nat) (aO4 : Nat) (aO5 : Nat) (aO6 : Nat) (aO7 : Nat) (aO8 : Nat) (aO9 : Nat) (aO10 : Nat) (p0 : Int32) (p1 : Int32) : vx_Met l yX8_ofOrder wsX8_ofOrder ({ frames := 8, cells := 1, slots := 6, locals := 123 }) (Pre lo D cI cZ cJ [.ref g, .int p0, .int p1] sz [(g, .inr (8, [.ref nw, .ref la, .ref pn])), (nw, .inr (6, [.int dy, .ref aI, .ref aS, .ref aP, .ref aL, .ref aO, .ref aT, .ref aA, .ref aQ])), (aO, .inr (2, [.int 0, .ref aO1, .ref aO2, .ref aO3, .ref aO4, .ref aO5, .ref aO6, .ref aO7, .ref aO8, .ref aO9, .ref aO10]))]) (va_Qi (fun (r : Int32) (_ : Unit) => False) (fun _ t => True) (va_A [(g, .inr (8, [.ref nw, .ref la, .ref pn])), (nw, .inr (6, [.int dy, .ref aI, .ref aS, .ref aP, .ref aL, .ref aO, .ref aT, .ref aA, .ref aQ])), (aO, .inr (2, [.int 0, .ref aO1, .ref aO2, .ref aO3, .ref aO4, .ref aO5, .ref aO6, .ref aO7, .ref aO8, .ref aO9, .ref aO10]))] sz)) (vx_X (fun _ : Unit => True) (fun E _ _ => E = "java/lang/IndexOutOfBoundsException") (va_A [(g, .inr (8, [.ref nw, .ref la, .ref pn])), (nw, .inr (6, [.int dy, .ref aI, .ref aS, .ref aP, .ref aL, .ref aO, .ref aT, .ref aA, .ref aQ])), (aO, .inr (2, [.int 0, .ref aO1, .ref aO2, .ref aO3, .ref aO4, .ref aO5, .ref aO6, .ref aO7, .ref aO8, .ref aO9, .ref aO10]))] sz)) 1 6 (va_A [(g, .inr (8, [.ref nw, .ref la, .ref pn])), (nw, .inr (6, [.int dy, .ref aI, .ref aS, .ref aP, .ref aL, .ref aO, .ref aT, .ref aA, .ref aQ])), (aO, .inr (2, [.int 0, .ref aO1, .ref aO2, .ref aO3, .ref aO4, .ref aO5, .ref aO6, .ref aO7, .ref aO8, .ref aO9, .ref aO10]))] sz) := by
  refine vx_ofW (cc := cX8_ofOrder) (maxL := 3) (ret := (some .int)) (by decide) rfl ?_
  intro p e s m args below meth c s₁ B hml ht9 hv
  obtain ⟨rfl, hsz, hP, hD0, hC⟩ := hv
  have hx := B.exec
  have hb := B.bytes
  have hr := B.returns
  have hts := atoms_spec (ws := wsX8_ofOrder) B.pre
  have hown : s.vm.findClass RX8 = some m.cls := findClass_of_methodNamed B.named
  have hlocks := B.notSynchronized
  subst hsz
  have hK := hC.K
  have hD := hD0.self (sz := s.heap.size)
  have hAlo0 := va_A_lo hD0 hC.1
  generalize hAe : va_A [(g, .inr (8, [.ref nw, .ref la, .ref pn])), (nw, .inr (6, [.int dy, .ref aI, .ref aS, .ref aP, .ref aL, .ref aO, .ref aT, .ref aA, .ref aQ])), (aO, .inr (2, [.int 0, .ref aO1, .ref aO2, .ref aO3, .ref aO4, .ref aO5, .ref aO6, .ref aO7, .ref aO8, .ref aO9, .ref aO10]))] s.heap.size = A at hD hAlo0 ⊢
  have hA : ∀ q : Nat, s.heap.size ≤ q → A q := fun q h => by rw [← hAe]; exact Or.inr h
  have hAlo : ∀ q, A q → lo ≤ q := hAlo0
  have hS : va_S A s.heap s.heap [] := va_S.rf
  have hP : va_P D vwCl [(g, .inr (8, [.ref nw, .ref la, .ref pn])), (nw, .inr (6, [.int dy, .ref aI, .ref aS, .ref aP, .ref aL, .ref aO, .ref aT, .ref aA, .ref aQ])), (aO, .inr (2, [.int 0, .ref aO1, .ref aO2, .ref aO3, .ref aO4, .ref aO5, .ref aO6, .ref aO7, .ref aO8, .ref aO9, .ref aO10]))] s.heap := hP
  have hl := lv_entry ([.ref g, .int p0, .int p1]) (n := 3) (Nat.le_of_ble_eq_true rfl)
  rw [lg_entry_eq]
  generalize (lg_sl ([.ref g, .int p0, .int p1]) ++ List.replicate (3 - (lg_sl ([.ref g, .int p0, .int p1])).length) Slot.unset).toArray = ls at hl ⊢
  have hl : lv_has ls 3 [(0, .ref g), (1, .int p0), (2, .int p1)] := hl
  refine lv_aload_n hx hb dX8_ofOrder_0 rfl (lv_at hl 0 rfl) ?_
  refine lv_iload_n hx hb dX8_ofOrder_1 rfl (lv_at hl 1 rfl) ?_
  have hPc := hP.sub (ws' := [(g, .inr (8, [.ref nw, .ref la, .ref pn])), (nw, .inr (6, [.int dy, .ref aI, .ref aS, .ref aP, .ref aL, .ref aO, .ref aT, .ref aA, .ref aQ])), (aO, .inr (2, [.int 0, .ref aO1, .ref aO2, .ref aO3, .ref aO4, .ref aO5, .ref aO6, .ref aO7, .ref aO8, .ref aO9, .ref aO10]))]) [0, 1, 2] rfl
  have hDc := hD.sub (ws' := [(g, .inr (8, [.ref nw, .ref la, .ref pn])), (nw, .inr (6, [.int dy, .ref aI, .ref aS, .ref aP, .ref aL, .ref aO, .ref aT, .ref aA, .ref aQ])), (aO, .inr (2, [.int 0, .ref aO1, .ref aO2, .ref aO3, .ref aO4, .ref aO5, .ref aO6, .ref aO7, .ref aO8, .ref aO9, .ref aO10]))]) [0, 1, 2] (by decide) rfl
  have hFc := va_free (wc := [(g, .inr (8, [.ref nw, .ref la, .ref pn])), (nw, .inr (6, [.int dy, .ref aI, .ref aS, .ref aP, .ref aL, .ref aO, .ref aT, .ref aA, .ref aQ])), (aO, .inr (2, [.int 0, .ref aO1, .ref aO2, .ref aO3, .ref aO4, .ref aO5, .ref aO6, .ref aO7, .ref aO8, .ref aO9, .ref aO10]))]) hD hS hA [0, 1, 2] rfl
  refine vx_callv (vx_runV (As := [.int p0]) (rest := []) ⟨hx, hb, hml, hown, hts⟩ (c_needOrder l hl9 D cI cZ cJ lo s.heap.size g nw la pn dy aI aS aP aL aO aT aA aQ aO1 aO2 aO3 aO4 aO5 aO6 aO7 aO8 aO9 aO10 p0) (cwV 1 hts gX8_ofOrder_X8_needOrder rfl rfl rfl (by decide +kernel) ⟨(Nat.le_of_ble_eq_true rfl), (Nat.le_of_ble_eq_true rfl)⟩) ⟨Pre.blind, va_recv hK hP (ci := 8) (q0 := 0) rfl rfl, Pre.mk hPc (hDc.weaken (fun _ _ _ h => hAlo _ h)) hC hS hAlo⟩ rfl rfl hl.1 rfl (lv_room (Nat.le_of_ble_eq_true rfl)) dX8_ofOrder_2 ⟨(Nat.le_of_ble_eq_true rfl), (Nat.le_of_ble_eq_true rfl)⟩) hS (fun q _ h => hFc q h) hFc (fun q _ h => hFc q h) (fun E ce q9 u t H1 locs1 ht hvm hpx hbx hz1 hk1 hS1 hce hcv hcl => ?_) (fun u t H1 locs1 ht hvm e_1 hB hz1 hk1 hS1 => ?_)
  · have px_2 : True := hpx
    have hE : E = "java/lang/IndexOutOfBoundsException" := hbx
    subst hE
    exact vx_out (fun x9 h9 => (ht9 x9 h9).elim) hlocks hce hcv hcl (fun t9 ht9b _ => ⟨(), trivial, rfl, hS1.F ht9b⟩) hS1.2.2 (by omega) (by omega)
  · exact False.elim e_1

set_option maxHeartbeats 4000000 in
set_option maxRecDepth 100000 in
/-- reserved on a fresh object: throws -/
theorem c_reserved (l : Launch) (hl9 : l.stackTraces = false) (D : va_G) (cI cZ cJ : ClassId) (lo sz : Nat) (g : Nat) (nw : Nat) (la : Nat) (pn : Nat) (dy : Int32) (aI : Nat) (aS : Nat) (aP : Nat) (aL : Nat) (aO : Nat) (aT : Nat) (aA : Nat) (aQ : Nat) (aO1 : Nat) (aO2 : Nat) (aO3 : Nat) (aO4 : Nat) (aO5 : Nat) (aO6 : Nat) (aO7 : Nat) (aO8 : Nat) (aO9 : Nat) (aO10 : Nat) (p0 : Int32) (p1 : Int32) : vx_Met l yX8_reserved wsX8_reserved ({ frames := 8, cells := 1, slots := 6, locals := 123 }) (Pre lo D cI cZ cJ [.ref g, .int p0, .int p1] sz [(g, .inr (8, [.ref nw, .ref la, .ref pn])), (nw, .inr (6, [.int dy, .ref aI, .ref aS, .ref aP, .ref aL, .ref aO, .ref aT, .ref aA, .ref aQ])), (aO, .inr (2, [.int 0, .ref aO1, .ref aO2, .ref aO3, .ref aO4, .ref aO5, .ref aO6, .ref aO7, .ref aO8, .ref aO9, .ref aO10]))]) (va_Qi (fun (r : Int32) (_ : Unit) => False) (fun _ t => True) (va_A [(g, .inr (8, [.ref nw, .ref la, .ref pn])), (nw, .inr (6, [.int dy, .ref aI, .ref aS, .ref aP, .ref aL, .ref aO, .ref aT, .ref aA, .ref aQ])), (aO, .inr (2, [.int 0, .ref aO1, .ref aO2, .ref aO3, .ref aO4, .ref aO5, .ref aO6, .ref aO7, .ref aO8, .ref aO9, .ref aO10]))] sz)) (vx_X (fun _ : Unit => True) (fun E _ _ => E = "java/lang/IndexOutOfBoundsException") (va_A [(g, .inr (8, [.ref nw, .ref la, .ref pn])), (nw, .inr (6, [.int dy, .ref aI, .ref aS, .ref aP, .ref aL, .ref aO, .ref aT, .ref aA, .ref aQ])), (aO, .inr (2, [.int 0, .ref aO1, .ref aO2, .ref aO3, .ref aO4, .ref aO5, .ref aO6, .ref aO7, .ref aO8, .ref aO9, .ref aO10]))] sz)) 1 6 (va_A [(g, .inr (8, [.ref nw, .ref la, .ref pn])), (nw, .inr (6, [.int dy, .ref aI, .ref aS, .ref aP, .ref aL, .ref aO, .ref aT, .ref aA, .ref aQ])), (aO, .inr (2, [.int 0, .ref aO1, .ref aO2, .ref aO3, .ref aO4, .ref aO5, .ref aO6, .ref aO7, .ref aO8, .ref aO9, .ref aO10]))] sz) := by
  refine vx_ofW (cc := cX8_reserved) (maxL := 3) (ret := (some .int)) (by decide) rfl ?_
  intro p e s m args below meth c s₁ B hml ht9 hv
  obtain ⟨rfl, hsz, hP, hD0, hC⟩ := hv
  have hx := B.exec
  have hb := B.bytes
  have hr := B.returns
  have hts := atoms_spec (ws := wsX8_reserved) B.pre
  have hown : s.vm.findClass RX8 = some m.cls := findClass_of_methodNamed B.named
  have hlocks := B.notSynchronized
  subst hsz
  have hK := hC.K
  have hD := hD0.self (sz := s.heap.size)
  have hAlo0 := va_A_lo hD0 hC.1
  generalize hAe : va_A [(g, .inr (8, [.ref nw, .ref la, .ref pn])), (nw, .inr (6, [.int dy, .ref aI, .ref aS, .ref aP, .ref aL, .ref aO, .ref aT, .ref aA, .ref aQ])), (aO, .inr (2, [.int 0, .ref aO1, .ref aO2, .ref aO3, .ref aO4, .ref aO5, .ref aO6, .ref aO7, .ref aO8, .ref aO9, .ref aO10]))] s.heap.size = A at hD hAlo0 ⊢
  have hA : ∀ q : Nat, s.heap.size ≤ q → A q := fun q h => by rw [← hAe]; exact Or.inr h
  have hAlo : ∀ q, A q → lo ≤ q := hAlo0
  have hS : va_S A s.heap s.heap [] := va_S.rf
  have hP : va_P D vwCl [(g, .inr (8, [.ref nw, .ref la, .ref pn])), (nw, .inr (6, [.int dy, .ref aI, .ref aS, .ref aP, .ref aL, .ref aO, .ref aT, .ref aA, .ref aQ])), (aO, .inr (2, [.int 0, .ref aO1, .ref aO2, .ref aO3, .ref aO4, .ref aO5, .ref aO6, .ref aO7, .ref aO8, .ref aO9, .ref aO10]))] s.heap := hP
  have hl := lv_entry ([.ref g, .int p0, .int p1]) (n := 3) (Nat.le_of_ble_eq_true rfl)
  rw [lg_entry_eq]
  generalize (lg_sl ([.ref g, .int p0, .int p1]) ++ List.replicate (3 - (lg_sl ([.ref g, .int p0, .int p1])).length) Slot.unset).toArray = ls at hl ⊢
  have hl : lv_has ls 3 [(0, .ref g), (1, .int p0), (2, .int p1)] := hl
  refine lv_aload_n hx hb dX8_reserved_0 rfl (lv_at hl 0 rfl) ?_
  refine lv_iload_n hx hb dX8_reserved_1 rfl (lv_at hl 1 rfl) ?_
  have hPc := hP.sub (ws' := [(g, .inr (8, [.ref nw, .ref la, .ref pn])), (nw, .inr (6, [.int dy, .ref aI, .ref aS, .ref aP, .ref aL, .ref aO, .ref aT, .ref aA, .ref aQ])), (aO, .inr (2, [.int 0, .ref aO1, .ref aO2, .ref aO3, .ref aO4, .ref aO5, .ref aO6, .ref aO7, .ref aO8, .ref aO9, .ref aO10]))]) [0, 1, 2] rfl
  have hDc := hD.sub (ws' := [(g, .inr (8, [.ref nw, .ref la, .ref pn])), (nw, .inr (6, [.int dy, .ref aI, .ref aS, .ref aP, .ref aL, .ref aO, .ref aT, .ref aA, .ref aQ])), (aO, .inr (2, [.int 0, .ref aO1, .ref aO2, .ref aO3, .ref aO4, .ref aO5, .ref aO6, .ref aO7, .ref aO8, .ref aO9, .ref aO10]))]) [0, 1, 2] (by decide) rfl
  have hFc := va_free (wc := [(g, .inr (8, [.ref nw, .ref la, .ref pn])), (nw, .inr (6, [.int dy, .ref aI, .ref aS, .ref aP, .ref aL, .ref aO, .ref aT, .ref aA, .ref aQ])), (aO, .inr (2, [.int 0, .ref aO1, .ref aO2, .ref aO3, .ref aO4, .ref aO5, .ref aO6, .ref aO7, .ref aO8, .ref aO9, .ref aO10]))]) hD hS hA [0, 1, 2] rfl
  refine vx_callv (vx_runV (As := [.int p0]) (rest := []) ⟨hx, hb, hml, hown, hts⟩ (c_needOrder l hl9 D cI cZ cJ lo s.heap.size g nw la pn dy aI aS aP aL aO aT aA aQ aO1 aO2 aO3 aO4 aO5 aO6 aO7 aO8 aO9 aO10 p0) (cwV 1 hts gX8_reserved_X8_needOrder rfl rfl rfl (by decide +kernel) ⟨(Nat.le_of_ble_eq_true rfl), (Nat.le_of_ble_eq_true rfl)⟩) ⟨Pre.blind, va_recv hK hP (ci := 8) (q0 := 0) rfl rfl, Pre.mk hPc (hDc.weaken (fun _ _ _ h => hAlo _ h)) hC hS hAlo⟩ rfl rfl hl.1 rfl (lv_room (Nat.le_of_ble_eq_true rfl)) dX8_reserved_2 ⟨(Nat.le_of_ble_eq_true rfl), (Nat.le_of_ble_eq_true rfl)⟩) hS (fun q _ h => hFc q h) hFc (fun q _ h => hFc q h) (fun E ce q9 u t H1 locs1 ht hvm hpx hbx hz1 hk1 hS1 hce hcv hcl => ?_) (fun u t H1 locs1 ht hvm e_1 hB hz1 hk1 hS1 => ?_)
  · have px_2 : True := hpx
    have hE : E = "java/lang/IndexOutOfBoundsException" := hbx
    subst hE
    exact vx_out (fun x9 h9 => (ht9 x9 h9).elim) hlocks hce hcv hcl (fun t9 ht9b _ => ⟨(), trivial, rfl, hS1.F ht9b⟩) hS1.2.2 (by omega) (by omega)
  · exact False.elim e_1

set_option maxHeartbeats 4000000 in
set_option maxRecDepth 100000 in
/-- ofTransport on a fresh object: throws -/
theorem c_ofTransport (l : Launch) (hl9 : l.stackTraces = false) (D : va_G) (cI cZ cJ : ClassId) (lo sz : Nat) (g : Nat) (nw : Nat) (la : Nat) (pn : Nat) (dy : Int32) (aI : Nat) (aS : Nat) (aP : Nat) (aL : Nat) (aO : Nat) (aT : Nat) (aA : Nat) (aQ : Nat) (aT1 : Nat) (aT2 : Nat) (aT3 : Nat) (aT4 : Nat) (aT5 : Nat) (aT6 : Nat) (p0 : Int32) (p1 : Int32) : vx_Met l yX8_ofTransport wsX8_ofTransport ({ frames := 7, cells := 1, slots := 6, locals := 102 }) (Pre lo D cI cZ cJ [.ref g, .int p0, .int p1] sz [(g, .inr (8, [.ref nw, .ref la, .ref pn])), (nw, .inr (6, [.int dy, .ref aI, .ref aS, .ref aP, .ref aL, .ref aO, .ref aT, .ref aA, .ref aQ])), (aT, .inr (7, [.int 0, .ref aT1, .ref aT2, .ref aT3, .ref aT4, .ref aT5, .ref aT6]))]) (va_Qi (fun (r : Int32) (_ : Unit) => False) (fun _ t => True) (va_A [(g, .inr (8, [.ref nw, .ref la, .ref pn])), (nw, .inr (6, [.int dy, .ref aI, .ref aS, .ref aP, .ref aL, .ref aO, .ref aT, .ref aA, .ref aQ])), (aT, .inr (7, [.int 0, .ref aT1, .ref aT2, .ref aT3, .ref aT4, .ref aT5, .ref aT6]))] sz)) (vx_X (fun _ : Unit => True) (fun E _ _ => E = "java/lang/IndexOutOfBoundsException") (va_A [(g, .inr (8, [.ref nw, .ref la, .ref pn])), (nw, .inr (6, [.int dy, .ref aI, .ref aS, .ref aP, .ref aL, .ref aO, .ref aT, .ref aA, .ref aQ])), (aT, .inr (7, [.int 0, .ref aT1, .ref aT2, .ref aT3, .ref aT4, .ref aT5, .ref aT6]))] sz)) 1 6 (va_A [(g, .inr (8, [.ref nw, .ref la, .ref pn])), (nw, .inr (6, [.int dy, .ref aI, .ref aS, .ref aP, .ref aL, .ref aO, .ref aT, .ref aA, .ref aQ])), (aT, .inr (7, [.int 0, .ref aT1, .ref aT2, .ref aT3, .ref aT4, .ref aT5, .ref aT6]))] sz) := by
  refine vx_ofW (cc := cX8_ofTransport) (maxL := 3) (ret := (some .int)) (by decide) rfl ?_
  intro p e s m args below meth c s₁ B hml ht9 hv
  obtain ⟨rfl, hsz, hP, hD0, hC⟩ := hv
  have hx := B.exec
  have hb := B.bytes
  have hr := B.returns
  have hts := atoms_spec (ws := wsX8_ofTransport) B.pre
  have hown : s.vm.findClass RX8 = some m.cls := findClass_of_methodNamed B.named
  have hlocks := B.notSynchronized
  subst hsz
  have hK := hC.K
  have hD := hD0.self (sz := s.heap.size)
  have hAlo0 := va_A_lo hD0 hC.1
  generalize hAe : va_A [(g, .inr (8, [.ref nw, .ref la, .ref pn])), (nw, .inr (6, [.int dy, .ref aI, .ref aS, .ref aP, .ref aL, .ref aO, .ref aT, .ref aA, .ref aQ])), (aT, .inr (7, [.int 0, .ref aT1, .ref aT2, .ref aT3, .ref aT4, .ref aT5, .ref aT6]))] s.heap.size = A at hD hAlo0 ⊢
  have hA : ∀ q : Nat, s.heap.size ≤ q → A q := fun q h => by rw [← hAe]; exact Or.inr h
  have hAlo : ∀ q, A q → lo ≤ q := hAlo0
  have hS : va_S A s.heap s.heap [] := va_S.rf
  have hP : va_P D vwCl [(g, .inr (8, [.ref nw, .ref la, .ref pn])), (nw, .inr (6, [.int dy, .ref aI, .ref aS, .ref aP, .ref aL, .ref aO, .ref aT, .ref aA, .ref aQ])), (aT, .inr (7, [.int 0, .ref aT1, .ref aT2, .ref aT3, .ref aT4, .ref aT5, .ref aT6]))] s.heap := hP
  have hl := lv_entry ([.ref g, .int p0, .int p1]) (n := 3) (Nat.le_of_ble_eq_true rfl)
  rw [lg_entry_eq]
  generalize (lg_sl ([.ref g, .int p0, .int p1]) ++ List.replicate (3 - (lg_sl ([.ref g, .int p0, .int p1])).length) Slot.unset).toArray = ls at hl ⊢
  have hl : lv_has ls 3 [(0, .ref g), (1, .int p0), (2, .int p1)] := hl
  have in6 : ∀ w ∈ u_ws RX6 TX6 9, w ∈ wsX8_ofTransport := by decide +kernel
  have in8 : ∀ w ∈ u_ws RX8 TX8 3, w ∈ wsX8_ofTransport := by decide +kernel
  refine lv_aload_n hx hb dX8_ofTransport_0 rfl (lv_at hl 0 rfl) ?_
  refine va_get (D := D) (ci := 8) (v := .ref nw) (C := RX8) (T := TX8) (N := 3) hx hb hts in8 hown hK hP 0 rfl rfl 0 (by decide) (hts (.fieldLink RX8 10 "Granary" "now" "LGranary$Stock;") (by decide +kernel)) (fun _ h9 => h9) rfl dX8_ofTransport_1 ?_
  refine va_get (D := D) (ci := 6) (v := .ref aT) (C := RX6) (T := TX6) (N := 9) hx hb hts in6 hown hK hP 1 rfl rfl 6 (by decide) (hts (.fieldLink RX8 183 "Granary$Stock" "transports" "LGranary$Transports;") (by decide +kernel)) (fun _ h9 => h9) rfl dX8_ofTransport_4 ?_
  refine lv_iload_n hx hb dX8_ofTransport_7 rfl (lv_at hl 1 rfl) ?_
  have hPc := hP.sub (ws' := [(aT, .inr (7, [.int 0, .ref aT1, .ref aT2, .ref aT3, .ref aT4, .ref aT5, .ref aT6]))]) [2] rfl
  have hDc := hD.sub (ws' := [(aT, .inr (7, [.int 0, .ref aT1, .ref aT2, .ref aT3, .ref aT4, .ref aT5, .ref aT6]))]) [2] (by decide) rfl
  refine vp_callSi (W.runV (As := [.int p0]) (rest := []) ⟨hx, hb, hml, hown, hts⟩ (c_X7_has l D cI cZ cJ lo s.heap.size aT aT1 aT2 aT3 aT4 aT5 aT6 p0) (cwV 1 hts gX8_ofTransport_X7_has rfl rfl rfl (by decide +kernel) ⟨(Nat.le_of_ble_eq_true rfl), (Nat.le_of_ble_eq_true rfl)⟩) ⟨Pre.blind, va_recv hK hP (ci := 7) (q0 := 2) rfl rfl, Pre.mk hPc (hDc.weaken (fun _ _ _ h => hAlo _ h)) hC hS hAlo⟩ rfl rfl hl.1 rfl (lv_room (Nat.le_of_ble_eq_true rfl)) dX8_ofTransport_8 ⟨(Nat.le_of_ble_eq_true rfl), (Nat.le_of_ble_eq_true rfl)⟩) (fun r_1 e_2 => ?_)
  have e_2 : r_1 = 0 := e_2
  subst e_2
  have hPc := hP.sub (ws' := []) [] rfl
  have hDc := hD.sub (ws' := []) [] (by decide) rfl
  have hFc := va_free (wc := []) hD hS hA [] rfl
  refine vx_callv (vx_runS (As := [.int 0]) (rest := []) ⟨hx, hb, hml, hown, hts⟩ (c_needIndex l hl9 D cI cZ cJ lo s.heap.size 0) (va_cwS 1 hts gX8_ofTransport_X8_needIndex rfl rfl rfl (by decide +kernel) ⟨(Nat.le_of_ble_eq_true rfl), (Nat.le_of_ble_eq_true rfl)⟩) ⟨Pre.blind, Pre.mk hPc (hDc.weaken (fun _ _ _ h => hAlo _ h)) hC hS hAlo⟩ rfl rfl hl.1 rfl (lv_room (Nat.le_of_ble_eq_true rfl)) dX8_ofTransport_11 ⟨(Nat.le_of_ble_eq_true rfl), (Nat.le_of_ble_eq_true rfl)⟩) hS (fun q _ h => hFc q h) hFc (fun q _ h => hFc q h) (fun E ce q9 u t H1 locs1 ht hvm hpx hbx hz1 hk1 hS1 hce hcv hcl => ?_) (fun u t H1 locs1 ht hvm e_3 hB hz1 hk1 hS1 => ?_)
  · have px_4 : (0 : Int32) = 0 := hpx
    have hE : E = "java/lang/IndexOutOfBoundsException" := hbx
    subst hE
    exact vx_out (fun x9 h9 => (ht9 x9 h9).elim) hlocks hce hcv hcl (fun t9 ht9b _ => ⟨(), trivial, rfl, hS1.F ht9b⟩) hS1.2.2 (by omega) (by omega)
  · exact absurd rfl e_3

set_option maxHeartbeats 4000000 in
set_option maxRecDepth 100000 in
/-- route on a fresh object: throws -/
theorem c_route (l : Launch) (hl9 : l.stackTraces = false) (D : va_G) (cI cZ cJ : ClassId) (lo sz : Nat) (g : Nat) (nw : Nat) (la : Nat) (pn : Nat) (dy : Int32) (aI : Nat) (aS : Nat) (aP : Nat) (aL : Nat) (aO : Nat) (aT : Nat) (aA : Nat) (aQ : Nat) (aS1 : Nat) (aS2 : Nat) (p0 : Int32) (p1 : Int32) : vx_Met l yX8_route wsX8_route ({ frames := 8, cells := 1, slots := 6, locals := 123 }) (Pre lo D cI cZ cJ [.ref g, .int p0, .int p1] sz [(g, .inr (8, [.ref nw, .ref la, .ref pn])), (nw, .inr (6, [.int dy, .ref aI, .ref aS, .ref aP, .ref aL, .ref aO, .ref aT, .ref aA, .ref aQ])), (aS, .inr (5, [.int 0, .ref aS1, .ref aS2]))]) (va_Qi (fun (r : Int32) (_ : Unit) => False) (fun _ t => True) (va_A [(g, .inr (8, [.ref nw, .ref la, .ref pn])), (nw, .inr (6, [.int dy, .ref aI, .ref aS, .ref aP, .ref aL, .ref aO, .ref aT, .ref aA, .ref aQ])), (aS, .inr (5, [.int 0, .ref aS1, .ref aS2]))] sz)) (vx_X (fun _ : Unit => True) (fun E _ _ => E = "java/lang/IndexOutOfBoundsException") (va_A [(g, .inr (8, [.ref nw, .ref la, .ref pn])), (nw, .inr (6, [.int dy, .ref aI, .ref aS, .ref aP, .ref aL, .ref aO, .ref aT, .ref aA, .ref aQ])), (aS, .inr (5, [.int 0, .ref aS1, .ref aS2]))] sz)) 1 6 (va_A [(g, .inr (8, [.ref nw, .ref la, .ref pn])), (nw, .inr (6, [.int dy, .ref aI, .ref aS, .ref aP, .ref aL, .ref aO, .ref aT, .ref aA, .ref aQ])), (aS, .inr (5, [.int 0, .ref aS1, .ref aS2]))] sz) := by
  refine vx_ofW (cc := cX8_route) (maxL := 3) (ret := (some .int)) (by decide) rfl ?_
  intro p e s m args below meth c s₁ B hml ht9 hv
  obtain ⟨rfl, hsz, hP, hD0, hC⟩ := hv
  have hx := B.exec
  have hb := B.bytes
  have hr := B.returns
  have hts := atoms_spec (ws := wsX8_route) B.pre
  have hown : s.vm.findClass RX8 = some m.cls := findClass_of_methodNamed B.named
  have hlocks := B.notSynchronized
  subst hsz
  have hK := hC.K
  have hD := hD0.self (sz := s.heap.size)
  have hAlo0 := va_A_lo hD0 hC.1
  generalize hAe : va_A [(g, .inr (8, [.ref nw, .ref la, .ref pn])), (nw, .inr (6, [.int dy, .ref aI, .ref aS, .ref aP, .ref aL, .ref aO, .ref aT, .ref aA, .ref aQ])), (aS, .inr (5, [.int 0, .ref aS1, .ref aS2]))] s.heap.size = A at hD hAlo0 ⊢
  have hA : ∀ q : Nat, s.heap.size ≤ q → A q := fun q h => by rw [← hAe]; exact Or.inr h
  have hAlo : ∀ q, A q → lo ≤ q := hAlo0
  have hS : va_S A s.heap s.heap [] := va_S.rf
  have hP : va_P D vwCl [(g, .inr (8, [.ref nw, .ref la, .ref pn])), (nw, .inr (6, [.int dy, .ref aI, .ref aS, .ref aP, .ref aL, .ref aO, .ref aT, .ref aA, .ref aQ])), (aS, .inr (5, [.int 0, .ref aS1, .ref aS2]))] s.heap := hP
  have hl := lv_entry ([.ref g, .int p0, .int p1]) (n := 3) (Nat.le_of_ble_eq_true rfl)
  rw [lg_entry_eq]
  generalize (lg_sl ([.ref g, .int p0, .int p1]) ++ List.replicate (3 - (lg_sl ([.ref g, .int p0, .int p1])).length) Slot.unset).toArray = ls at hl ⊢
  have hl : lv_has ls 3 [(0, .ref g), (1, .int p0), (2, .int p1)] := hl
  refine lv_aload_n hx hb dX8_route_0 rfl (lv_at hl 0 rfl) ?_
  refine lv_iload_n hx hb dX8_route_1 rfl (lv_at hl 1 rfl) ?_
  have hPc := hP.sub (ws' := [(g, .inr (8, [.ref nw, .ref la, .ref pn])), (nw, .inr (6, [.int dy, .ref aI, .ref aS, .ref aP, .ref aL, .ref aO, .ref aT, .ref aA, .ref aQ])), (aS, .inr (5, [.int 0, .ref aS1, .ref aS2]))]) [0, 1, 2] rfl
  have hDc := hD.sub (ws' := [(g, .inr (8, [.ref nw, .ref la, .ref pn])), (nw, .inr (6, [.int dy, .ref aI, .ref aS, .ref aP, .ref aL, .ref aO, .ref aT, .ref aA, .ref aQ])), (aS, .inr (5, [.int 0, .ref aS1, .ref aS2]))]) [0, 1, 2] (by decide) rfl
  have hFc := va_free (wc := [(g, .inr (8, [.ref nw, .ref la, .ref pn])), (nw, .inr (6, [.int dy, .ref aI, .ref aS, .ref aP, .ref aL, .ref aO, .ref aT, .ref aA, .ref aQ])), (aS, .inr (5, [.int 0, .ref aS1, .ref aS2]))]) hD hS hA [0, 1, 2] rfl
  refine vx_callv (vx_runV (As := [.int p0]) (rest := []) ⟨hx, hb, hml, hown, hts⟩ (c_needSite l hl9 D cI cZ cJ lo s.heap.size g nw la pn dy aI aS aP aL aO aT aA aQ aS1 aS2 p0) (cwV 1 hts gX8_route_X8_needSite rfl rfl rfl (by decide +kernel) ⟨(Nat.le_of_ble_eq_true rfl), (Nat.le_of_ble_eq_true rfl)⟩) ⟨Pre.blind, va_recv hK hP (ci := 8) (q0 := 0) rfl rfl, Pre.mk hPc (hDc.weaken (fun _ _ _ h => hAlo _ h)) hC hS hAlo⟩ rfl rfl hl.1 rfl (lv_room (Nat.le_of_ble_eq_true rfl)) dX8_route_2 ⟨(Nat.le_of_ble_eq_true rfl), (Nat.le_of_ble_eq_true rfl)⟩) hS (fun q _ h => hFc q h) hFc (fun q _ h => hFc q h) (fun E ce q9 u t H1 locs1 ht hvm hpx hbx hz1 hk1 hS1 hce hcv hcl => ?_) (fun u t H1 locs1 ht hvm e_1 hB hz1 hk1 hS1 => ?_)
  · have px_2 : True := hpx
    have hE : E = "java/lang/IndexOutOfBoundsException" := hbx
    subst hE
    exact vx_out (fun x9 h9 => (ht9 x9 h9).elim) hlocks hce hcv hcl (fun t9 ht9b _ => ⟨(), trivial, rfl, hS1.F ht9b⟩) hS1.2.2 (by omega) (by omega)
  · exact False.elim e_1

set_option maxHeartbeats 4000000 in
set_option maxRecDepth 100000 in
/-- hasPolicy on a fresh object: throws -/
theorem c_hasPolicy (l : Launch) (hl9 : l.stackTraces = false) (D : va_G) (cI cZ cJ : ClassId) (lo sz : Nat) (g : Nat) (nw : Nat) (la : Nat) (pn : Nat) (dy : Int32) (aI : Nat) (aS : Nat) (aP : Nat) (aL : Nat) (aO : Nat) (aT : Nat) (aA : Nat) (aQ : Nat) (aI1 : Nat) (aI2 : Nat) (aI3 : Nat) (aI4 : Nat) (p0 : Int32) (p1 : Int32) : vx_Met l yX8_hasPolicy wsX8_hasPolicy ({ frames := 8, cells := 1, slots := 6, locals := 123 }) (Pre lo D cI cZ cJ [.ref g, .int p0, .int p1] sz [(g, .inr (8, [.ref nw, .ref la, .ref pn])), (nw, .inr (6, [.int dy, .ref aI, .ref aS, .ref aP, .ref aL, .ref aO, .ref aT, .ref aA, .ref aQ])), (aI, .inr (0, [.int 0, .ref aI1, .ref aI2, .ref aI3, .ref aI4]))]) (va_Qi (fun (r : Int32) (_ : Unit) => False) (fun _ t => True) (va_A [(g, .inr (8, [.ref nw, .ref la, .ref pn])), (nw, .inr (6, [.int dy, .ref aI, .ref aS, .ref aP, .ref aL, .ref aO, .ref aT, .ref aA, .ref aQ])), (aI, .inr (0, [.int 0, .ref aI1, .ref aI2, .ref aI3, .ref aI4]))] sz)) (vx_X (fun _ : Unit => True) (fun E _ _ => E = "java/lang/IndexOutOfBoundsException") (va_A [(g, .inr (8, [.ref nw, .ref la, .ref pn])), (nw, .inr (6, [.int dy, .ref aI, .ref aS, .ref aP, .ref aL, .ref aO, .ref aT, .ref aA, .ref aQ])), (aI, .inr (0, [.int 0, .ref aI1, .ref aI2, .ref aI3, .ref aI4]))] sz)) 1 6 (va_A [(g, .inr (8, [.ref nw, .ref la, .ref pn])), (nw, .inr (6, [.int dy, .ref aI, .ref aS, .ref aP, .ref aL, .ref aO, .ref aT, .ref aA, .ref aQ])), (aI, .inr (0, [.int 0, .ref aI1, .ref aI2, .ref aI3, .ref aI4]))] sz) := by
  refine vx_ofW (cc := cX8_hasPolicy) (maxL := 3) (ret := (some .boolean)) (by decide) rfl ?_
  intro p e s m args below meth c s₁ B hml ht9 hv
  obtain ⟨rfl, hsz, hP, hD0, hC⟩ := hv
  have hx := B.exec
  have hb := B.bytes
  have hr := B.returns
  have hts := atoms_spec (ws := wsX8_hasPolicy) B.pre
  have hown : s.vm.findClass RX8 = some m.cls := findClass_of_methodNamed B.named
  have hlocks := B.notSynchronized
  subst hsz
  have hK := hC.K
  have hD := hD0.self (sz := s.heap.size)
  have hAlo0 := va_A_lo hD0 hC.1
  generalize hAe : va_A [(g, .inr (8, [.ref nw, .ref la, .ref pn])), (nw, .inr (6, [.int dy, .ref aI, .ref aS, .ref aP, .ref aL, .ref aO, .ref aT, .ref aA, .ref aQ])), (aI, .inr (0, [.int 0, .ref aI1, .ref aI2, .ref aI3, .ref aI4]))] s.heap.size = A at hD hAlo0 ⊢
  have hA : ∀ q : Nat, s.heap.size ≤ q → A q := fun q h => by rw [← hAe]; exact Or.inr h
  have hAlo : ∀ q, A q → lo ≤ q := hAlo0
  have hS : va_S A s.heap s.heap [] := va_S.rf
  have hP : va_P D vwCl [(g, .inr (8, [.ref nw, .ref la, .ref pn])), (nw, .inr (6, [.int dy, .ref aI, .ref aS, .ref aP, .ref aL, .ref aO, .ref aT, .ref aA, .ref aQ])), (aI, .inr (0, [.int 0, .ref aI1, .ref aI2, .ref aI3, .ref aI4]))] s.heap := hP
  have hl := lv_entry ([.ref g, .int p0, .int p1]) (n := 3) (Nat.le_of_ble_eq_true rfl)
  rw [lg_entry_eq]
  generalize (lg_sl ([.ref g, .int p0, .int p1]) ++ List.replicate (3 - (lg_sl ([.ref g, .int p0, .int p1])).length) Slot.unset).toArray = ls at hl ⊢
  have hl : lv_has ls 3 [(0, .ref g), (1, .int p0), (2, .int p1)] := hl
  refine lv_aload_n hx hb dX8_hasPolicy_0 rfl (lv_at hl 0 rfl) ?_
  refine lv_iload_n hx hb dX8_hasPolicy_1 rfl (lv_at hl 1 rfl) ?_
  have hPc := hP.sub (ws' := [(g, .inr (8, [.ref nw, .ref la, .ref pn])), (nw, .inr (6, [.int dy, .ref aI, .ref aS, .ref aP, .ref aL, .ref aO, .ref aT, .ref aA, .ref aQ])), (aI, .inr (0, [.int 0, .ref aI1, .ref aI2, .ref aI3, .ref aI4]))]) [0, 1, 2] rfl
  have hDc := hD.sub (ws' := [(g, .inr (8, [.ref nw, .ref la, .ref pn])), (nw, .inr (6, [.int dy, .ref aI, .ref aS, .ref aP, .ref aL, .ref aO, .ref aT, .ref aA, .ref aQ])), (aI, .inr (0, [.int 0, .ref aI1, .ref aI2, .ref aI3, .ref aI4]))]) [0, 1, 2] (by decide) rfl
  have hFc := va_free (wc := [(g, .inr (8, [.ref nw, .ref la, .ref pn])), (nw, .inr (6, [.int dy, .ref aI, .ref aS, .ref aP, .ref aL, .ref aO, .ref aT, .ref aA, .ref aQ])), (aI, .inr (0, [.int 0, .ref aI1, .ref aI2, .ref aI3, .ref aI4]))]) hD hS hA [0, 1, 2] rfl
  refine vx_callv (vx_runV (As := [.int p0]) (rest := []) ⟨hx, hb, hml, hown, hts⟩ (c_needItem l hl9 D cI cZ cJ lo s.heap.size g nw la pn dy aI aS aP aL aO aT aA aQ aI1 aI2 aI3 aI4 p0) (cwV 1 hts gX8_hasPolicy_X8_needItem rfl rfl rfl (by decide +kernel) ⟨(Nat.le_of_ble_eq_true rfl), (Nat.le_of_ble_eq_true rfl)⟩) ⟨Pre.blind, va_recv hK hP (ci := 8) (q0 := 0) rfl rfl, Pre.mk hPc (hDc.weaken (fun _ _ _ h => hAlo _ h)) hC hS hAlo⟩ rfl rfl hl.1 rfl (lv_room (Nat.le_of_ble_eq_true rfl)) dX8_hasPolicy_2 ⟨(Nat.le_of_ble_eq_true rfl), (Nat.le_of_ble_eq_true rfl)⟩) hS (fun q _ h => hFc q h) hFc (fun q _ h => hFc q h) (fun E ce q9 u t H1 locs1 ht hvm hpx hbx hz1 hk1 hS1 hce hcv hcl => ?_) (fun u t H1 locs1 ht hvm e_1 hB hz1 hk1 hS1 => ?_)
  · have px_2 : True := hpx
    have hE : E = "java/lang/IndexOutOfBoundsException" := hbx
    subst hE
    exact vx_out (fun x9 h9 => (ht9 x9 h9).elim) hlocks hce hcv hcl (fun t9 ht9b _ => ⟨(), trivial, rfl, hS1.F ht9b⟩) hS1.2.2 (by omega) (by omega)
  · exact False.elim e_1

set_option maxHeartbeats 4000000 in
set_option maxRecDepth 100000 in
/-- onHand on a fresh object: throws -/
theorem c_onHand (l : Launch) (hl9 : l.stackTraces = false) (D : va_G) (cI cZ cJ : ClassId) (lo sz : Nat) (g : Nat) (nw : Nat) (la : Nat) (pn : Nat) (dy : Int32) (aI : Nat) (aS : Nat) (aP : Nat) (aL : Nat) (aO : Nat) (aT : Nat) (aA : Nat) (aQ : Nat) (aI1 : Nat) (aI2 : Nat) (aI3 : Nat) (aI4 : Nat) (p0 : Int32) (p1 : Int32) : vx_Met l yX8_onHand wsX8_onHand ({ frames := 8, cells := 1, slots := 6, locals := 123 }) (Pre lo D cI cZ cJ [.ref g, .int p0, .int p1] sz [(g, .inr (8, [.ref nw, .ref la, .ref pn])), (nw, .inr (6, [.int dy, .ref aI, .ref aS, .ref aP, .ref aL, .ref aO, .ref aT, .ref aA, .ref aQ])), (aI, .inr (0, [.int 0, .ref aI1, .ref aI2, .ref aI3, .ref aI4]))]) (va_Qi (fun (r : Int32) (_ : Unit) => False) (fun _ t => True) (va_A [(g, .inr (8, [.ref nw, .ref la, .ref pn])), (nw, .inr (6, [.int dy, .ref aI, .ref aS, .ref aP, .ref aL, .ref aO, .ref aT, .ref aA, .ref aQ])), (aI, .inr (0, [.int 0, .ref aI1, .ref aI2, .ref aI3, .ref aI4]))] sz)) (vx_X (fun _ : Unit => True) (fun E _ _ => E = "java/lang/IndexOutOfBoundsException") (va_A [(g, .inr (8, [.ref nw, .ref la, .ref pn])), (nw, .inr (6, [.int dy, .ref aI, .ref aS, .ref aP, .ref aL, .ref aO, .ref aT, .ref aA, .ref aQ])), (aI, .inr (0, [.int 0, .ref aI1, .ref aI2, .ref aI3, .ref aI4]))] sz)) 1 6 (va_A [(g, .inr (8, [.ref nw, .ref la, .ref pn])), (nw, .inr (6, [.int dy, .ref aI, .ref aS, .ref aP, .ref aL, .ref aO, .ref aT, .ref aA, .ref aQ])), (aI, .inr (0, [.int 0, .ref aI1, .ref aI2, .ref aI3, .ref aI4]))] sz) := by
  refine vx_ofW (cc := cX8_onHand) (maxL := 3) (ret := (some .int)) (by decide) rfl ?_
  intro p e s m args below meth c s₁ B hml ht9 hv
  obtain ⟨rfl, hsz, hP, hD0, hC⟩ := hv
  have hx := B.exec
  have hb := B.bytes
  have hr := B.returns
  have hts := atoms_spec (ws := wsX8_onHand) B.pre
  have hown : s.vm.findClass RX8 = some m.cls := findClass_of_methodNamed B.named
  have hlocks := B.notSynchronized
  subst hsz
  have hK := hC.K
  have hD := hD0.self (sz := s.heap.size)
  have hAlo0 := va_A_lo hD0 hC.1
  generalize hAe : va_A [(g, .inr (8, [.ref nw, .ref la, .ref pn])), (nw, .inr (6, [.int dy, .ref aI, .ref aS, .ref aP, .ref aL, .ref aO, .ref aT, .ref aA, .ref aQ])), (aI, .inr (0, [.int 0, .ref aI1, .ref aI2, .ref aI3, .ref aI4]))] s.heap.size = A at hD hAlo0 ⊢
  have hA : ∀ q : Nat, s.heap.size ≤ q → A q := fun q h => by rw [← hAe]; exact Or.inr h
  have hAlo : ∀ q, A q → lo ≤ q := hAlo0
  have hS : va_S A s.heap s.heap [] := va_S.rf
  have hP : va_P D vwCl [(g, .inr (8, [.ref nw, .ref la, .ref pn])), (nw, .inr (6, [.int dy, .ref aI, .ref aS, .ref aP, .ref aL, .ref aO, .ref aT, .ref aA, .ref aQ])), (aI, .inr (0, [.int 0, .ref aI1, .ref aI2, .ref aI3, .ref aI4]))] s.heap := hP
  have hl := lv_entry ([.ref g, .int p0, .int p1]) (n := 3) (Nat.le_of_ble_eq_true rfl)
  rw [lg_entry_eq]
  generalize (lg_sl ([.ref g, .int p0, .int p1]) ++ List.replicate (3 - (lg_sl ([.ref g, .int p0, .int p1])).length) Slot.unset).toArray = ls at hl ⊢
  have hl : lv_has ls 3 [(0, .ref g), (1, .int p0), (2, .int p1)] := hl
  refine lv_aload_n hx hb dX8_onHand_0 rfl (lv_at hl 0 rfl) ?_
  refine lv_iload_n hx hb dX8_onHand_1 rfl (lv_at hl 1 rfl) ?_
  have hPc := hP.sub (ws' := [(g, .inr (8, [.ref nw, .ref la, .ref pn])), (nw, .inr (6, [.int dy, .ref aI, .ref aS, .ref aP, .ref aL, .ref aO, .ref aT, .ref aA, .ref aQ])), (aI, .inr (0, [.int 0, .ref aI1, .ref aI2, .ref aI3, .ref aI4]))]) [0, 1, 2] rfl
  have hDc := hD.sub (ws' := [(g, .inr (8, [.ref nw, .ref la, .ref pn])), (nw, .inr (6, [.int dy, .ref aI, .ref aS, .ref aP, .ref aL, .ref aO, .ref aT, .ref aA, .ref aQ])), (aI, .inr (0, [.int 0, .ref aI1, .ref aI2, .ref aI3, .ref aI4]))]) [0, 1, 2] (by decide) rfl
  have hFc := va_free (wc := [(g, .inr (8, [.ref nw, .ref la, .ref pn])), (nw, .inr (6, [.int dy, .ref aI, .ref aS, .ref aP, .ref aL, .ref aO, .ref aT, .ref aA, .ref aQ])), (aI, .inr (0, [.int 0, .ref aI1, .ref aI2, .ref aI3, .ref aI4]))]) hD hS hA [0, 1, 2] rfl
  refine vx_callv (vx_runV (As := [.int p0]) (rest := []) ⟨hx, hb, hml, hown, hts⟩ (c_needItem l hl9 D cI cZ cJ lo s.heap.size g nw la pn dy aI aS aP aL aO aT aA aQ aI1 aI2 aI3 aI4 p0) (cwV 1 hts gX8_onHand_X8_needItem rfl rfl rfl (by decide +kernel) ⟨(Nat.le_of_ble_eq_true rfl), (Nat.le_of_ble_eq_true rfl)⟩) ⟨Pre.blind, va_recv hK hP (ci := 8) (q0 := 0) rfl rfl, Pre.mk hPc (hDc.weaken (fun _ _ _ h => hAlo _ h)) hC hS hAlo⟩ rfl rfl hl.1 rfl (lv_room (Nat.le_of_ble_eq_true rfl)) dX8_onHand_2 ⟨(Nat.le_of_ble_eq_true rfl), (Nat.le_of_ble_eq_true rfl)⟩) hS (fun q _ h => hFc q h) hFc (fun q _ h => hFc q h) (fun E ce q9 u t H1 locs1 ht hvm hpx hbx hz1 hk1 hS1 hce hcv hcl => ?_) (fun u t H1 locs1 ht hvm e_1 hB hz1 hk1 hS1 => ?_)
  · have px_2 : True := hpx
    have hE : E = "java/lang/IndexOutOfBoundsException" := hbx
    subst hE
    exact vx_out (fun x9 h9 => (ht9 x9 h9).elim) hlocks hce hcv hcl (fun t9 ht9b _ => ⟨(), trivial, rfl, hS1.F ht9b⟩) hS1.2.2 (by omega) (by omega)
  · exact False.elim e_1

set_option maxHeartbeats 4000000 in
set_option maxRecDepth 100000 in
/-- free on a fresh object: throws -/
theorem c_free (l : Launch) (hl9 : l.stackTraces = false) (D : va_G) (cI cZ cJ : ClassId) (lo sz : Nat) (g : Nat) (nw : Nat) (la : Nat) (pn : Nat) (dy : Int32) (aI : Nat) (aS : Nat) (aP : Nat) (aL : Nat) (aO : Nat) (aT : Nat) (aA : Nat) (aQ : Nat) (aI1 : Nat) (aI2 : Nat) (aI3 : Nat) (aI4 : Nat) (p0 : Int32) (p1 : Int32) : vx_Met l yX8_free wsX8_free ({ frames := 8, cells := 1, slots := 6, locals := 123 }) (Pre lo D cI cZ cJ [.ref g, .int p0, .int p1] sz [(g, .inr (8, [.ref nw, .ref la, .ref pn])), (nw, .inr (6, [.int dy, .ref aI, .ref aS, .ref aP, .ref aL, .ref aO, .ref aT, .ref aA, .ref aQ])), (aI, .inr (0, [.int 0, .ref aI1, .ref aI2, .ref aI3, .ref aI4]))]) (va_Qi (fun (r : Int32) (_ : Unit) => False) (fun _ t => True) (va_A [(g, .inr (8, [.ref nw, .ref la, .ref pn])), (nw, .inr (6, [.int dy, .ref aI, .ref aS, .ref aP, .ref aL, .ref aO, .ref aT, .ref aA, .ref aQ])), (aI, .inr (0, [.int 0, .ref aI1, .ref aI2, .ref aI3, .ref aI4]))] sz)) (vx_X (fun _ : Unit => True) (fun E _ _ => E = "java/lang/IndexOutOfBoundsException") (va_A [(g, .inr (8, [.ref nw, .ref la, .ref pn])), (nw, .inr (6, [.int dy, .ref aI, .ref aS, .ref aP, .ref aL, .ref aO, .ref aT, .ref aA, .ref aQ])), (aI, .inr (0, [.int 0, .ref aI1, .ref aI2, .ref aI3, .ref aI4]))] sz)) 1 6 (va_A [(g, .inr (8, [.ref nw, .ref la, .ref pn])), (nw, .inr (6, [.int dy, .ref aI, .ref aS, .ref aP, .ref aL, .ref aO, .ref aT, .ref aA, .ref aQ])), (aI, .inr (0, [.int 0, .ref aI1, .ref aI2, .ref aI3, .ref aI4]))] sz) := by
  refine vx_ofW (cc := cX8_free) (maxL := 3) (ret := (some .int)) (by decide) rfl ?_
  intro p e s m args below meth c s₁ B hml ht9 hv
  obtain ⟨rfl, hsz, hP, hD0, hC⟩ := hv
  have hx := B.exec
  have hb := B.bytes
  have hr := B.returns
  have hts := atoms_spec (ws := wsX8_free) B.pre
  have hown : s.vm.findClass RX8 = some m.cls := findClass_of_methodNamed B.named
  have hlocks := B.notSynchronized
  subst hsz
  have hK := hC.K
  have hD := hD0.self (sz := s.heap.size)
  have hAlo0 := va_A_lo hD0 hC.1
  generalize hAe : va_A [(g, .inr (8, [.ref nw, .ref la, .ref pn])), (nw, .inr (6, [.int dy, .ref aI, .ref aS, .ref aP, .ref aL, .ref aO, .ref aT, .ref aA, .ref aQ])), (aI, .inr (0, [.int 0, .ref aI1, .ref aI2, .ref aI3, .ref aI4]))] s.heap.size = A at hD hAlo0 ⊢
  have hA : ∀ q : Nat, s.heap.size ≤ q → A q := fun q h => by rw [← hAe]; exact Or.inr h
  have hAlo : ∀ q, A q → lo ≤ q := hAlo0
  have hS : va_S A s.heap s.heap [] := va_S.rf
  have hP : va_P D vwCl [(g, .inr (8, [.ref nw, .ref la, .ref pn])), (nw, .inr (6, [.int dy, .ref aI, .ref aS, .ref aP, .ref aL, .ref aO, .ref aT, .ref aA, .ref aQ])), (aI, .inr (0, [.int 0, .ref aI1, .ref aI2, .ref aI3, .ref aI4]))] s.heap := hP
  have hl := lv_entry ([.ref g, .int p0, .int p1]) (n := 3) (Nat.le_of_ble_eq_true rfl)
  rw [lg_entry_eq]
  generalize (lg_sl ([.ref g, .int p0, .int p1]) ++ List.replicate (3 - (lg_sl ([.ref g, .int p0, .int p1])).length) Slot.unset).toArray = ls at hl ⊢
  have hl : lv_has ls 3 [(0, .ref g), (1, .int p0), (2, .int p1)] := hl
  refine lv_aload_n hx hb dX8_free_0 rfl (lv_at hl 0 rfl) ?_
  refine lv_iload_n hx hb dX8_free_1 rfl (lv_at hl 1 rfl) ?_
  have hPc := hP.sub (ws' := [(g, .inr (8, [.ref nw, .ref la, .ref pn])), (nw, .inr (6, [.int dy, .ref aI, .ref aS, .ref aP, .ref aL, .ref aO, .ref aT, .ref aA, .ref aQ])), (aI, .inr (0, [.int 0, .ref aI1, .ref aI2, .ref aI3, .ref aI4]))]) [0, 1, 2] rfl
  have hDc := hD.sub (ws' := [(g, .inr (8, [.ref nw, .ref la, .ref pn])), (nw, .inr (6, [.int dy, .ref aI, .ref aS, .ref aP, .ref aL, .ref aO, .ref aT, .ref aA, .ref aQ])), (aI, .inr (0, [.int 0, .ref aI1, .ref aI2, .ref aI3, .ref aI4]))]) [0, 1, 2] (by decide) rfl
  have hFc := va_free (wc := [(g, .inr (8, [.ref nw, .ref la, .ref pn])), (nw, .inr (6, [.int dy, .ref aI, .ref aS, .ref aP, .ref aL, .ref aO, .ref aT, .ref aA, .ref aQ])), (aI, .inr (0, [.int 0, .ref aI1, .ref aI2, .ref aI3, .ref aI4]))]) hD hS hA [0, 1, 2] rfl
  refine vx_callv (vx_runV (As := [.int p0]) (rest := []) ⟨hx, hb, hml, hown, hts⟩ (c_needItem l hl9 D cI cZ cJ lo s.heap.size g nw la pn dy aI aS aP aL aO aT aA aQ aI1 aI2 aI3 aI4 p0) (cwV 1 hts gX8_free_X8_needItem rfl rfl rfl (by decide +kernel) ⟨(Nat.le_of_ble_eq_true rfl), (Nat.le_of_ble_eq_true rfl)⟩) ⟨Pre.blind, va_recv hK hP (ci := 8) (q0 := 0) rfl rfl, Pre.mk hPc (hDc.weaken (fun _ _ _ h => hAlo _ h)) hC hS hAlo⟩ rfl rfl hl.1 rfl (lv_room (Nat.le_of_ble_eq_true rfl)) dX8_free_2 ⟨(Nat.le_of_ble_eq_true rfl), (Nat.le_of_ble_eq_true rfl)⟩) hS (fun q _ h => hFc q h) hFc (fun q _ h => hFc q h) (fun E ce q9 u t H1 locs1 ht hvm hpx hbx hz1 hk1 hS1 hce hcv hcl => ?_) (fun u t H1 locs1 ht hvm e_1 hB hz1 hk1 hS1 => ?_)
  · have px_2 : True := hpx
    have hE : E = "java/lang/IndexOutOfBoundsException" := hbx
    subst hE
    exact vx_out (fun x9 h9 => (ht9 x9 h9).elim) hlocks hce hcv hcl (fun t9 ht9b _ => ⟨(), trivial, rfl, hS1.F ht9b⟩) hS1.2.2 (by omega) (by omega)
  · exact False.elim e_1

set_option maxHeartbeats 4000000 in
set_option maxRecDepth 100000 in
/-- underWay on a fresh object: throws -/
theorem c_underWay (l : Launch) (hl9 : l.stackTraces = false) (D : va_G) (cI cZ cJ : ClassId) (lo sz : Nat) (g : Nat) (nw : Nat) (la : Nat) (pn : Nat) (dy : Int32) (aI : Nat) (aS : Nat) (aP : Nat) (aL : Nat) (aO : Nat) (aT : Nat) (aA : Nat) (aQ : Nat) (aI1 : Nat) (aI2 : Nat) (aI3 : Nat) (aI4 : Nat) (p0 : Int32) (p1 : Int32) : vx_Met l yX8_underWay wsX8_underWay ({ frames := 8, cells := 1, slots := 6, locals := 123 }) (Pre lo D cI cZ cJ [.ref g, .int p0, .int p1] sz [(g, .inr (8, [.ref nw, .ref la, .ref pn])), (nw, .inr (6, [.int dy, .ref aI, .ref aS, .ref aP, .ref aL, .ref aO, .ref aT, .ref aA, .ref aQ])), (aI, .inr (0, [.int 0, .ref aI1, .ref aI2, .ref aI3, .ref aI4]))]) (va_Qi (fun (r : Int32) (_ : Unit) => False) (fun _ t => True) (va_A [(g, .inr (8, [.ref nw, .ref la, .ref pn])), (nw, .inr (6, [.int dy, .ref aI, .ref aS, .ref aP, .ref aL, .ref aO, .ref aT, .ref aA, .ref aQ])), (aI, .inr (0, [.int 0, .ref aI1, .ref aI2, .ref aI3, .ref aI4]))] sz)) (vx_X (fun _ : Unit => True) (fun E _ _ => E = "java/lang/IndexOutOfBoundsException") (va_A [(g, .inr (8, [.ref nw, .ref la, .ref pn])), (nw, .inr (6, [.int dy, .ref aI, .ref aS, .ref aP, .ref aL, .ref aO, .ref aT, .ref aA, .ref aQ])), (aI, .inr (0, [.int 0, .ref aI1, .ref aI2, .ref aI3, .ref aI4]))] sz)) 1 6 (va_A [(g, .inr (8, [.ref nw, .ref la, .ref pn])), (nw, .inr (6, [.int dy, .ref aI, .ref aS, .ref aP, .ref aL, .ref aO, .ref aT, .ref aA, .ref aQ])), (aI, .inr (0, [.int 0, .ref aI1, .ref aI2, .ref aI3, .ref aI4]))] sz) := by
  refine vx_ofW (cc := cX8_underWay) (maxL := 3) (ret := (some .int)) (by decide) rfl ?_
  intro p e s m args below meth c s₁ B hml ht9 hv
  obtain ⟨rfl, hsz, hP, hD0, hC⟩ := hv
  have hx := B.exec
  have hb := B.bytes
  have hr := B.returns
  have hts := atoms_spec (ws := wsX8_underWay) B.pre
  have hown : s.vm.findClass RX8 = some m.cls := findClass_of_methodNamed B.named
  have hlocks := B.notSynchronized
  subst hsz
  have hK := hC.K
  have hD := hD0.self (sz := s.heap.size)
  have hAlo0 := va_A_lo hD0 hC.1
  generalize hAe : va_A [(g, .inr (8, [.ref nw, .ref la, .ref pn])), (nw, .inr (6, [.int dy, .ref aI, .ref aS, .ref aP, .ref aL, .ref aO, .ref aT, .ref aA, .ref aQ])), (aI, .inr (0, [.int 0, .ref aI1, .ref aI2, .ref aI3, .ref aI4]))] s.heap.size = A at hD hAlo0 ⊢
  have hA : ∀ q : Nat, s.heap.size ≤ q → A q := fun q h => by rw [← hAe]; exact Or.inr h
  have hAlo : ∀ q, A q → lo ≤ q := hAlo0
  have hS : va_S A s.heap s.heap [] := va_S.rf
  have hP : va_P D vwCl [(g, .inr (8, [.ref nw, .ref la, .ref pn])), (nw, .inr (6, [.int dy, .ref aI, .ref aS, .ref aP, .ref aL, .ref aO, .ref aT, .ref aA, .ref aQ])), (aI, .inr (0, [.int 0, .ref aI1, .ref aI2, .ref aI3, .ref aI4]))] s.heap := hP
  have hl := lv_entry ([.ref g, .int p0, .int p1]) (n := 3) (Nat.le_of_ble_eq_true rfl)
  rw [lg_entry_eq]
  generalize (lg_sl ([.ref g, .int p0, .int p1]) ++ List.replicate (3 - (lg_sl ([.ref g, .int p0, .int p1])).length) Slot.unset).toArray = ls at hl ⊢
  have hl : lv_has ls 3 [(0, .ref g), (1, .int p0), (2, .int p1)] := hl
  refine lv_aload_n hx hb dX8_underWay_0 rfl (lv_at hl 0 rfl) ?_
  refine lv_iload_n hx hb dX8_underWay_1 rfl (lv_at hl 1 rfl) ?_
  have hPc := hP.sub (ws' := [(g, .inr (8, [.ref nw, .ref la, .ref pn])), (nw, .inr (6, [.int dy, .ref aI, .ref aS, .ref aP, .ref aL, .ref aO, .ref aT, .ref aA, .ref aQ])), (aI, .inr (0, [.int 0, .ref aI1, .ref aI2, .ref aI3, .ref aI4]))]) [0, 1, 2] rfl
  have hDc := hD.sub (ws' := [(g, .inr (8, [.ref nw, .ref la, .ref pn])), (nw, .inr (6, [.int dy, .ref aI, .ref aS, .ref aP, .ref aL, .ref aO, .ref aT, .ref aA, .ref aQ])), (aI, .inr (0, [.int 0, .ref aI1, .ref aI2, .ref aI3, .ref aI4]))]) [0, 1, 2] (by decide) rfl
  have hFc := va_free (wc := [(g, .inr (8, [.ref nw, .ref la, .ref pn])), (nw, .inr (6, [.int dy, .ref aI, .ref aS, .ref aP, .ref aL, .ref aO, .ref aT, .ref aA, .ref aQ])), (aI, .inr (0, [.int 0, .ref aI1, .ref aI2, .ref aI3, .ref aI4]))]) hD hS hA [0, 1, 2] rfl
  refine vx_callv (vx_runV (As := [.int p0]) (rest := []) ⟨hx, hb, hml, hown, hts⟩ (c_needItem l hl9 D cI cZ cJ lo s.heap.size g nw la pn dy aI aS aP aL aO aT aA aQ aI1 aI2 aI3 aI4 p0) (cwV 1 hts gX8_underWay_X8_needItem rfl rfl rfl (by decide +kernel) ⟨(Nat.le_of_ble_eq_true rfl), (Nat.le_of_ble_eq_true rfl)⟩) ⟨Pre.blind, va_recv hK hP (ci := 8) (q0 := 0) rfl rfl, Pre.mk hPc (hDc.weaken (fun _ _ _ h => hAlo _ h)) hC hS hAlo⟩ rfl rfl hl.1 rfl (lv_room (Nat.le_of_ble_eq_true rfl)) dX8_underWay_2 ⟨(Nat.le_of_ble_eq_true rfl), (Nat.le_of_ble_eq_true rfl)⟩) hS (fun q _ h => hFc q h) hFc (fun q _ h => hFc q h) (fun E ce q9 u t H1 locs1 ht hvm hpx hbx hz1 hk1 hS1 hce hcv hcl => ?_) (fun u t H1 locs1 ht hvm e_1 hB hz1 hk1 hS1 => ?_)
  · have px_2 : True := hpx
    have hE : E = "java/lang/IndexOutOfBoundsException" := hbx
    subst hE
    exact vx_out (fun x9 h9 => (ht9 x9 h9).elim) hlocks hce hcv hcl (fun t9 ht9b _ => ⟨(), trivial, rfl, hS1.F ht9b⟩) hS1.2.2 (by omega) (by omega)
  · exact False.elim e_1

set_option maxHeartbeats 4000000 in
set_option maxRecDepth 100000 in
/-- position on a fresh object: throws -/
theorem c_position (l : Launch) (hl9 : l.stackTraces = false) (D : va_G) (cI cZ cJ : ClassId) (lo sz : Nat) (g : Nat) (nw : Nat) (la : Nat) (pn : Nat) (dy : Int32) (aI : Nat) (aS : Nat) (aP : Nat) (aL : Nat) (aO : Nat) (aT : Nat) (aA : Nat) (aQ : Nat) (aI1 : Nat) (aI2 : Nat) (aI3 : Nat) (aI4 : Nat) (p0 : Int32) (p1 : Int32) : vx_Met l yX8_position wsX8_position ({ frames := 8, cells := 1, slots := 6, locals := 123 }) (Pre lo D cI cZ cJ [.ref g, .int p0, .int p1] sz [(g, .inr (8, [.ref nw, .ref la, .ref pn])), (nw, .inr (6, [.int dy, .ref aI, .ref aS, .ref aP, .ref aL, .ref aO, .ref aT, .ref aA, .ref aQ])), (aI, .inr (0, [.int 0, .ref aI1, .ref aI2, .ref aI3, .ref aI4]))]) (va_Qi (fun (r : Int32) (_ : Unit) => False) (fun _ t => True) (va_A [(g, .inr (8, [.ref nw, .ref la, .ref pn])), (nw, .inr (6, [.int dy, .ref aI, .ref aS, .ref aP, .ref aL, .ref aO, .ref aT, .ref aA, .ref aQ])), (aI, .inr (0, [.int 0, .ref aI1, .ref aI2, .ref aI3, .ref aI4]))] sz)) (vx_X (fun _ : Unit => True) (fun E _ _ => E = "java/lang/IndexOutOfBoundsException") (va_A [(g, .inr (8, [.ref nw, .ref la, .ref pn])), (nw, .inr (6, [.int dy, .ref aI, .ref aS, .ref aP, .ref aL, .ref aO, .ref aT, .ref aA, .ref aQ])), (aI, .inr (0, [.int 0, .ref aI1, .ref aI2, .ref aI3, .ref aI4]))] sz)) 1 6 (va_A [(g, .inr (8, [.ref nw, .ref la, .ref pn])), (nw, .inr (6, [.int dy, .ref aI, .ref aS, .ref aP, .ref aL, .ref aO, .ref aT, .ref aA, .ref aQ])), (aI, .inr (0, [.int 0, .ref aI1, .ref aI2, .ref aI3, .ref aI4]))] sz) := by
  refine vx_ofW (cc := cX8_position) (maxL := 3) (ret := (some .int)) (by decide) rfl ?_
  intro p e s m args below meth c s₁ B hml ht9 hv
  obtain ⟨rfl, hsz, hP, hD0, hC⟩ := hv
  have hx := B.exec
  have hb := B.bytes
  have hr := B.returns
  have hts := atoms_spec (ws := wsX8_position) B.pre
  have hown : s.vm.findClass RX8 = some m.cls := findClass_of_methodNamed B.named
  have hlocks := B.notSynchronized
  subst hsz
  have hK := hC.K
  have hD := hD0.self (sz := s.heap.size)
  have hAlo0 := va_A_lo hD0 hC.1
  generalize hAe : va_A [(g, .inr (8, [.ref nw, .ref la, .ref pn])), (nw, .inr (6, [.int dy, .ref aI, .ref aS, .ref aP, .ref aL, .ref aO, .ref aT, .ref aA, .ref aQ])), (aI, .inr (0, [.int 0, .ref aI1, .ref aI2, .ref aI3, .ref aI4]))] s.heap.size = A at hD hAlo0 ⊢
  have hA : ∀ q : Nat, s.heap.size ≤ q → A q := fun q h => by rw [← hAe]; exact Or.inr h
  have hAlo : ∀ q, A q → lo ≤ q := hAlo0
  have hS : va_S A s.heap s.heap [] := va_S.rf
  have hP : va_P D vwCl [(g, .inr (8, [.ref nw, .ref la, .ref pn])), (nw, .inr (6, [.int dy, .ref aI, .ref aS, .ref aP, .ref aL, .ref aO, .ref aT, .ref aA, .ref aQ])), (aI, .inr (0, [.int 0, .ref aI1, .ref aI2, .ref aI3, .ref aI4]))] s.heap := hP
  have hl := lv_entry ([.ref g, .int p0, .int p1]) (n := 3) (Nat.le_of_ble_eq_true rfl)
  rw [lg_entry_eq]
  generalize (lg_sl ([.ref g, .int p0, .int p1]) ++ List.replicate (3 - (lg_sl ([.ref g, .int p0, .int p1])).length) Slot.unset).toArray = ls at hl ⊢
  have hl : lv_has ls 3 [(0, .ref g), (1, .int p0), (2, .int p1)] := hl
  refine lv_aload_n hx hb dX8_position_0 rfl (lv_at hl 0 rfl) ?_
  refine lv_iload_n hx hb dX8_position_1 rfl (lv_at hl 1 rfl) ?_
  have hPc := hP.sub (ws' := [(g, .inr (8, [.ref nw, .ref la, .ref pn])), (nw, .inr (6, [.int dy, .ref aI, .ref aS, .ref aP, .ref aL, .ref aO, .ref aT, .ref aA, .ref aQ])), (aI, .inr (0, [.int 0, .ref aI1, .ref aI2, .ref aI3, .ref aI4]))]) [0, 1, 2] rfl
  have hDc := hD.sub (ws' := [(g, .inr (8, [.ref nw, .ref la, .ref pn])), (nw, .inr (6, [.int dy, .ref aI, .ref aS, .ref aP, .ref aL, .ref aO, .ref aT, .ref aA, .ref aQ])), (aI, .inr (0, [.int 0, .ref aI1, .ref aI2, .ref aI3, .ref aI4]))]) [0, 1, 2] (by decide) rfl
  have hFc := va_free (wc := [(g, .inr (8, [.ref nw, .ref la, .ref pn])), (nw, .inr (6, [.int dy, .ref aI, .ref aS, .ref aP, .ref aL, .ref aO, .ref aT, .ref aA, .ref aQ])), (aI, .inr (0, [.int 0, .ref aI1, .ref aI2, .ref aI3, .ref aI4]))]) hD hS hA [0, 1, 2] rfl
  refine vx_callv (vx_runV (As := [.int p0]) (rest := []) ⟨hx, hb, hml, hown, hts⟩ (c_needItem l hl9 D cI cZ cJ lo s.heap.size g nw la pn dy aI aS aP aL aO aT aA aQ aI1 aI2 aI3 aI4 p0) (cwV 1 hts gX8_position_X8_needItem rfl rfl rfl (by decide +kernel) ⟨(Nat.le_of_ble_eq_true rfl), (Nat.le_of_ble_eq_true rfl)⟩) ⟨Pre.blind, va_recv hK hP (ci := 8) (q0 := 0) rfl rfl, Pre.mk hPc (hDc.weaken (fun _ _ _ h => hAlo _ h)) hC hS hAlo⟩ rfl rfl hl.1 rfl (lv_room (Nat.le_of_ble_eq_true rfl)) dX8_position_2 ⟨(Nat.le_of_ble_eq_true rfl), (Nat.le_of_ble_eq_true rfl)⟩) hS (fun q _ h => hFc q h) hFc (fun q _ h => hFc q h) (fun E ce q9 u t H1 locs1 ht hvm hpx hbx hz1 hk1 hS1 hce hcv hcl => ?_) (fun u t H1 locs1 ht hvm e_1 hB hz1 hk1 hS1 => ?_)
  · have px_2 : True := hpx
    have hE : E = "java/lang/IndexOutOfBoundsException" := hbx
    subst hE
    exact vx_out (fun x9 h9 => (ht9 x9 h9).elim) hlocks hce hcv hcl (fun t9 ht9b _ => ⟨(), trivial, rfl, hS1.F ht9b⟩) hS1.2.2 (by omega) (by omega)
  · exact False.elim e_1

set_option maxHeartbeats 4000000 in
set_option maxRecDepth 100000 in
/-- roomLeft on a fresh object: throws -/
theorem c_roomLeft (l : Launch) (hl9 : l.stackTraces = false) (D : va_G) (cI cZ cJ : ClassId) (lo sz : Nat) (g : Nat) (nw : Nat) (la : Nat) (pn : Nat) (dy : Int32) (aI : Nat) (aS : Nat) (aP : Nat) (aL : Nat) (aO : Nat) (aT : Nat) (aA : Nat) (aQ : Nat) (aS1 : Nat) (aS2 : Nat) (p0 : Int32) : vx_Met l yX8_roomLeft wsX8_roomLeft ({ frames := 8, cells := 1, slots := 6, locals := 123 }) (Pre lo D cI cZ cJ [.ref g, .int p0] sz [(g, .inr (8, [.ref nw, .ref la, .ref pn])), (nw, .inr (6, [.int dy, .ref aI, .ref aS, .ref aP, .ref aL, .ref aO, .ref aT, .ref aA, .ref aQ])), (aS, .inr (5, [.int 0, .ref aS1, .ref aS2]))]) (va_Qi (fun (r : Int32) (_ : Unit) => False) (fun _ t => True) (va_A [(g, .inr (8, [.ref nw, .ref la, .ref pn])), (nw, .inr (6, [.int dy, .ref aI, .ref aS, .ref aP, .ref aL, .ref aO, .ref aT, .ref aA, .ref aQ])), (aS, .inr (5, [.int 0, .ref aS1, .ref aS2]))] sz)) (vx_X (fun _ : Unit => True) (fun E _ _ => E = "java/lang/IndexOutOfBoundsException") (va_A [(g, .inr (8, [.ref nw, .ref la, .ref pn])), (nw, .inr (6, [.int dy, .ref aI, .ref aS, .ref aP, .ref aL, .ref aO, .ref aT, .ref aA, .ref aQ])), (aS, .inr (5, [.int 0, .ref aS1, .ref aS2]))] sz)) 1 6 (va_A [(g, .inr (8, [.ref nw, .ref la, .ref pn])), (nw, .inr (6, [.int dy, .ref aI, .ref aS, .ref aP, .ref aL, .ref aO, .ref aT, .ref aA, .ref aQ])), (aS, .inr (5, [.int 0, .ref aS1, .ref aS2]))] sz) := by
  refine vx_ofW (cc := cX8_roomLeft) (maxL := 2) (ret := (some .int)) (by decide) rfl ?_
  intro p e s m args below meth c s₁ B hml ht9 hv
  obtain ⟨rfl, hsz, hP, hD0, hC⟩ := hv
  have hx := B.exec
  have hb := B.bytes
  have hr := B.returns
  have hts := atoms_spec (ws := wsX8_roomLeft) B.pre
  have hown : s.vm.findClass RX8 = some m.cls := findClass_of_methodNamed B.named
  have hlocks := B.notSynchronized
  subst hsz
  have hK := hC.K
  have hD := hD0.self (sz := s.heap.size)
  have hAlo0 := va_A_lo hD0 hC.1
  generalize hAe : va_A [(g, .inr (8, [.ref nw, .ref la, .ref pn])), (nw, .inr (6, [.int dy, .ref aI, .ref aS, .ref aP, .ref aL, .ref aO, .ref aT, .ref aA, .ref aQ])), (aS, .inr (5, [.int 0, .ref aS1, .ref aS2]))] s.heap.size = A at hD hAlo0 ⊢
  have hA : ∀ q : Nat, s.heap.size ≤ q → A q := fun q h => by rw [← hAe]; exact Or.inr h
  have hAlo : ∀ q, A q → lo ≤ q := hAlo0
  have hS : va_S A s.heap s.heap [] := va_S.rf
  have hP : va_P D vwCl [(g, .inr (8, [.ref nw, .ref la, .ref pn])), (nw, .inr (6, [.int dy, .ref aI, .ref aS, .ref aP, .ref aL, .ref aO, .ref aT, .ref aA, .ref aQ])), (aS, .inr (5, [.int 0, .ref aS1, .ref aS2]))] s.heap := hP
  have hl := lv_entry ([.ref g, .int p0]) (n := 2) (Nat.le_of_ble_eq_true rfl)
  rw [lg_entry_eq]
  generalize (lg_sl ([.ref g, .int p0]) ++ List.replicate (2 - (lg_sl ([.ref g, .int p0])).length) Slot.unset).toArray = ls at hl ⊢
  have hl : lv_has ls 2 [(0, .ref g), (1, .int p0)] := hl
  refine lv_aload_n hx hb dX8_roomLeft_0 rfl (lv_at hl 0 rfl) ?_
  refine lv_iload_n hx hb dX8_roomLeft_1 rfl (lv_at hl 1 rfl) ?_
  have hPc := hP.sub (ws' := [(g, .inr (8, [.ref nw, .ref la, .ref pn])), (nw, .inr (6, [.int dy, .ref aI, .ref aS, .ref aP, .ref aL, .ref aO, .ref aT, .ref aA, .ref aQ])), (aS, .inr (5, [.int 0, .ref aS1, .ref aS2]))]) [0, 1, 2] rfl
  have hDc := hD.sub (ws' := [(g, .inr (8, [.ref nw, .ref la, .ref pn])), (nw, .inr (6, [.int dy, .ref aI, .ref aS, .ref aP, .ref aL, .ref aO, .ref aT, .ref aA, .ref aQ])), (aS, .inr (5, [.int 0, .ref aS1, .ref aS2]))]) [0, 1, 2] (by decide) rfl
  have hFc := va_free (wc := [(g, .inr (8, [.ref nw, .ref la, .ref pn])), (nw, .inr (6, [.int dy, .ref aI, .ref aS, .ref aP, .ref aL, .ref aO, .ref aT, .ref aA, .ref aQ])), (aS, .inr (5, [.int 0, .ref aS1, .ref aS2]))]) hD hS hA [0, 1, 2] rfl
  refine vx_callv (vx_runV (As := [.int p0]) (rest := []) ⟨hx, hb, hml, hown, hts⟩ (c_needSite l hl9 D cI cZ cJ lo s.heap.size g nw la pn dy aI aS aP aL aO aT aA aQ aS1 aS2 p0) (cwV 1 hts gX8_roomLeft_X8_needSite rfl rfl rfl (by decide +kernel) ⟨(Nat.le_of_ble_eq_true rfl), (Nat.le_of_ble_eq_true rfl)⟩) ⟨Pre.blind, va_recv hK hP (ci := 8) (q0 := 0) rfl rfl, Pre.mk hPc (hDc.weaken (fun _ _ _ h => hAlo _ h)) hC hS hAlo⟩ rfl rfl hl.1 rfl (lv_room (Nat.le_of_ble_eq_true rfl)) dX8_roomLeft_2 ⟨(Nat.le_of_ble_eq_true rfl), (Nat.le_of_ble_eq_true rfl)⟩) hS (fun q _ h => hFc q h) hFc (fun q _ h => hFc q h) (fun E ce q9 u t H1 locs1 ht hvm hpx hbx hz1 hk1 hS1 hce hcv hcl => ?_) (fun u t H1 locs1 ht hvm e_1 hB hz1 hk1 hS1 => ?_)
  · have px_2 : True := hpx
    have hE : E = "java/lang/IndexOutOfBoundsException" := hbx
    subst hE
    exact vx_out (fun x9 h9 => (ht9 x9 h9).elim) hlocks hce hcv hcl (fun t9 ht9b _ => ⟨(), trivial, rfl, hS1.F ht9b⟩) hS1.2.2 (by omega) (by omega)
  · exact False.elim e_1

set_option maxHeartbeats 4000000 in
set_option maxRecDepth 100000 in
/-- expiring on a fresh object: throws -/
theorem c_expiring (l : Launch) (hl9 : l.stackTraces = false) (D : va_G) (cI cZ cJ : ClassId) (lo sz : Nat) (g : Nat) (nw : Nat) (la : Nat) (pn : Nat) (dy : Int32) (aI : Nat) (aS : Nat) (aP : Nat) (aL : Nat) (aO : Nat) (aT : Nat) (aA : Nat) (aQ : Nat) (aI1 : Nat) (aI2 : Nat) (aI3 : Nat) (aI4 : Nat) (p0 : Int32) (p1 : Int32) (p2 : Int32) : vx_Met l yX8_expiring wsX8_expiring ({ frames := 8, cells := 1, slots := 6, locals := 123 }) (Pre lo D cI cZ cJ [.ref g, .int p0, .int p1, .int p2] sz [(g, .inr (8, [.ref nw, .ref la, .ref pn])), (nw, .inr (6, [.int dy, .ref aI, .ref aS, .ref aP, .ref aL, .ref aO, .ref aT, .ref aA, .ref aQ])), (aI, .inr (0, [.int 0, .ref aI1, .ref aI2, .ref aI3, .ref aI4]))]) (va_Qi (fun (r : Int32) (_ : Unit) => False) (fun _ t => True) (va_A [(g, .inr (8, [.ref nw, .ref la, .ref pn])), (nw, .inr (6, [.int dy, .ref aI, .ref aS, .ref aP, .ref aL, .ref aO, .ref aT, .ref aA, .ref aQ])), (aI, .inr (0, [.int 0, .ref aI1, .ref aI2, .ref aI3, .ref aI4]))] sz)) (vx_X (fun _ : Unit => True) (fun E _ _ => E = "java/lang/IndexOutOfBoundsException") (va_A [(g, .inr (8, [.ref nw, .ref la, .ref pn])), (nw, .inr (6, [.int dy, .ref aI, .ref aS, .ref aP, .ref aL, .ref aO, .ref aT, .ref aA, .ref aQ])), (aI, .inr (0, [.int 0, .ref aI1, .ref aI2, .ref aI3, .ref aI4]))] sz)) 1 6 (va_A [(g, .inr (8, [.ref nw, .ref la, .ref pn])), (nw, .inr (6, [.int dy, .ref aI, .ref aS, .ref aP, .ref aL, .ref aO, .ref aT, .ref aA, .ref aQ])), (aI, .inr (0, [.int 0, .ref aI1, .ref aI2, .ref aI3, .ref aI4]))] sz) := by
  refine vx_ofW (cc := cX8_expiring) (maxL := 4) (ret := (some .int)) (by decide) rfl ?_
  intro p e s m args below meth c s₁ B hml ht9 hv
  obtain ⟨rfl, hsz, hP, hD0, hC⟩ := hv
  have hx := B.exec
  have hb := B.bytes
  have hr := B.returns
  have hts := atoms_spec (ws := wsX8_expiring) B.pre
  have hown : s.vm.findClass RX8 = some m.cls := findClass_of_methodNamed B.named
  have hlocks := B.notSynchronized
  subst hsz
  have hK := hC.K
  have hD := hD0.self (sz := s.heap.size)
  have hAlo0 := va_A_lo hD0 hC.1
  generalize hAe : va_A [(g, .inr (8, [.ref nw, .ref la, .ref pn])), (nw, .inr (6, [.int dy, .ref aI, .ref aS, .ref aP, .ref aL, .ref aO, .ref aT, .ref aA, .ref aQ])), (aI, .inr (0, [.int 0, .ref aI1, .ref aI2, .ref aI3, .ref aI4]))] s.heap.size = A at hD hAlo0 ⊢
  have hA : ∀ q : Nat, s.heap.size ≤ q → A q := fun q h => by rw [← hAe]; exact Or.inr h
  have hAlo : ∀ q, A q → lo ≤ q := hAlo0
  have hS : va_S A s.heap s.heap [] := va_S.rf
  have hP : va_P D vwCl [(g, .inr (8, [.ref nw, .ref la, .ref pn])), (nw, .inr (6, [.int dy, .ref aI, .ref aS, .ref aP, .ref aL, .ref aO, .ref aT, .ref aA, .ref aQ])), (aI, .inr (0, [.int 0, .ref aI1, .ref aI2, .ref aI3, .ref aI4]))] s.heap := hP
  have hl := lv_entry ([.ref g, .int p0, .int p1, .int p2]) (n := 4) (Nat.le_of_ble_eq_true rfl)
  rw [lg_entry_eq]
  generalize (lg_sl ([.ref g, .int p0, .int p1, .int p2]) ++ List.replicate (4 - (lg_sl ([.ref g, .int p0, .int p1, .int p2])).length) Slot.unset).toArray = ls at hl ⊢
  have hl : lv_has ls 4 [(0, .ref g), (1, .int p0), (2, .int p1), (3, .int p2)] := hl
  refine lv_aload_n hx hb dX8_expiring_0 rfl (lv_at hl 0 rfl) ?_
  refine lv_iload_n hx hb dX8_expiring_1 rfl (lv_at hl 1 rfl) ?_
  have hPc := hP.sub (ws' := [(g, .inr (8, [.ref nw, .ref la, .ref pn])), (nw, .inr (6, [.int dy, .ref aI, .ref aS, .ref aP, .ref aL, .ref aO, .ref aT, .ref aA, .ref aQ])), (aI, .inr (0, [.int 0, .ref aI1, .ref aI2, .ref aI3, .ref aI4]))]) [0, 1, 2] rfl
  have hDc := hD.sub (ws' := [(g, .inr (8, [.ref nw, .ref la, .ref pn])), (nw, .inr (6, [.int dy, .ref aI, .ref aS, .ref aP, .ref aL, .ref aO, .ref aT, .ref aA, .ref aQ])), (aI, .inr (0, [.int 0, .ref aI1, .ref aI2, .ref aI3, .ref aI4]))]) [0, 1, 2] (by decide) rfl
  have hFc := va_free (wc := [(g, .inr (8, [.ref nw, .ref la, .ref pn])), (nw, .inr (6, [.int dy, .ref aI, .ref aS, .ref aP, .ref aL, .ref aO, .ref aT, .ref aA, .ref aQ])), (aI, .inr (0, [.int 0, .ref aI1, .ref aI2, .ref aI3, .ref aI4]))]) hD hS hA [0, 1, 2] rfl
  refine vx_callv (vx_runV (As := [.int p0]) (rest := []) ⟨hx, hb, hml, hown, hts⟩ (c_needItem l hl9 D cI cZ cJ lo s.heap.size g nw la pn dy aI aS aP aL aO aT aA aQ aI1 aI2 aI3 aI4 p0) (cwV 1 hts gX8_expiring_X8_needItem rfl rfl rfl (by decide +kernel) ⟨(Nat.le_of_ble_eq_true rfl), (Nat.le_of_ble_eq_true rfl)⟩) ⟨Pre.blind, va_recv hK hP (ci := 8) (q0 := 0) rfl rfl, Pre.mk hPc (hDc.weaken (fun _ _ _ h => hAlo _ h)) hC hS hAlo⟩ rfl rfl hl.1 rfl (lv_room (Nat.le_of_ble_eq_true rfl)) dX8_expiring_2 ⟨(Nat.le_of_ble_eq_true rfl), (Nat.le_of_ble_eq_true rfl)⟩) hS (fun q _ h => hFc q h) hFc (fun q _ h => hFc q h) (fun E ce q9 u t H1 locs1 ht hvm hpx hbx hz1 hk1 hS1 hce hcv hcl => ?_) (fun u t H1 locs1 ht hvm e_1 hB hz1 hk1 hS1 => ?_)
  · have px_2 : True := hpx
    have hE : E = "java/lang/IndexOutOfBoundsException" := hbx
    subst hE
    exact vx_out (fun x9 h9 => (ht9 x9 h9).elim) hlocks hce hcv hcl (fun t9 ht9b _ => ⟨(), trivial, rfl, hS1.F ht9b⟩) hS1.2.2 (by omega) (by omega)
  · exact False.elim e_1

set_option maxHeartbeats 4000000 in
set_option maxRecDepth 100000 in
/-- couldTake on a fresh object: throws -/
theorem c_couldTake (l : Launch) (hl9 : l.stackTraces = false) (D : va_G) (cI cZ cJ : ClassId) (lo sz : Nat) (g : Nat) (nw : Nat) (la : Nat) (pn : Nat) (dy : Int32) (aI : Nat) (aS : Nat) (aP : Nat) (aL : Nat) (aO : Nat) (aT : Nat) (aA : Nat) (aQ : Nat) (aI1 : Nat) (aI2 : Nat) (aI3 : Nat) (aI4 : Nat) (p0 : Int32) (p1 : Int32) (p2 : Int32) : vx_Met l yX8_couldTake wsX8_couldTake ({ frames := 8, cells := 1, slots := 6, locals := 123 }) (Pre lo D cI cZ cJ [.ref g, .int p0, .int p1, .int p2] sz [(g, .inr (8, [.ref nw, .ref la, .ref pn])), (nw, .inr (6, [.int dy, .ref aI, .ref aS, .ref aP, .ref aL, .ref aO, .ref aT, .ref aA, .ref aQ])), (aI, .inr (0, [.int 0, .ref aI1, .ref aI2, .ref aI3, .ref aI4]))]) (va_Qi (fun (r : Int32) (_ : Unit) => False) (fun _ t => True) (va_A [(g, .inr (8, [.ref nw, .ref la, .ref pn])), (nw, .inr (6, [.int dy, .ref aI, .ref aS, .ref aP, .ref aL, .ref aO, .ref aT, .ref aA, .ref aQ])), (aI, .inr (0, [.int 0, .ref aI1, .ref aI2, .ref aI3, .ref aI4]))] sz)) (vx_X (fun _ : Unit => True) (fun E _ _ => E = "java/lang/IndexOutOfBoundsException") (va_A [(g, .inr (8, [.ref nw, .ref la, .ref pn])), (nw, .inr (6, [.int dy, .ref aI, .ref aS, .ref aP, .ref aL, .ref aO, .ref aT, .ref aA, .ref aQ])), (aI, .inr (0, [.int 0, .ref aI1, .ref aI2, .ref aI3, .ref aI4]))] sz)) 1 6 (va_A [(g, .inr (8, [.ref nw, .ref la, .ref pn])), (nw, .inr (6, [.int dy, .ref aI, .ref aS, .ref aP, .ref aL, .ref aO, .ref aT, .ref aA, .ref aQ])), (aI, .inr (0, [.int 0, .ref aI1, .ref aI2, .ref aI3, .ref aI4]))] sz) := by
  refine vx_ofW (cc := cX8_couldTake) (maxL := 4) (ret := (some .boolean)) (by decide) rfl ?_
  intro p e s m args below meth c s₁ B hml ht9 hv
  obtain ⟨rfl, hsz, hP, hD0, hC⟩ := hv
  have hx := B.exec
  have hb := B.bytes
  have hr := B.returns
  have hts := atoms_spec (ws := wsX8_couldTake) B.pre
  have hown : s.vm.findClass RX8 = some m.cls := findClass_of_methodNamed B.named
  have hlocks := B.notSynchronized
  subst hsz
  have hK := hC.K
  have hD := hD0.self (sz := s.heap.size)
  have hAlo0 := va_A_lo hD0 hC.1
  generalize hAe : va_A [(g, .inr (8, [.ref nw, .ref la, .ref pn])), (nw, .inr (6, [.int dy, .ref aI, .ref aS, .ref aP, .ref aL, .ref aO, .ref aT, .ref aA, .ref aQ])), (aI, .inr (0, [.int 0, .ref aI1, .ref aI2, .ref aI3, .ref aI4]))] s.heap.size = A at hD hAlo0 ⊢
  have hA : ∀ q : Nat, s.heap.size ≤ q → A q := fun q h => by rw [← hAe]; exact Or.inr h
  have hAlo : ∀ q, A q → lo ≤ q := hAlo0
  have hS : va_S A s.heap s.heap [] := va_S.rf
  have hP : va_P D vwCl [(g, .inr (8, [.ref nw, .ref la, .ref pn])), (nw, .inr (6, [.int dy, .ref aI, .ref aS, .ref aP, .ref aL, .ref aO, .ref aT, .ref aA, .ref aQ])), (aI, .inr (0, [.int 0, .ref aI1, .ref aI2, .ref aI3, .ref aI4]))] s.heap := hP
  have hl := lv_entry ([.ref g, .int p0, .int p1, .int p2]) (n := 4) (Nat.le_of_ble_eq_true rfl)
  rw [lg_entry_eq]
  generalize (lg_sl ([.ref g, .int p0, .int p1, .int p2]) ++ List.replicate (4 - (lg_sl ([.ref g, .int p0, .int p1, .int p2])).length) Slot.unset).toArray = ls at hl ⊢
  have hl : lv_has ls 4 [(0, .ref g), (1, .int p0), (2, .int p1), (3, .int p2)] := hl
  refine lv_aload_n hx hb dX8_couldTake_0 rfl (lv_at hl 0 rfl) ?_
  refine lv_iload_n hx hb dX8_couldTake_1 rfl (lv_at hl 1 rfl) ?_
  have hPc := hP.sub (ws' := [(g, .inr (8, [.ref nw, .ref la, .ref pn])), (nw, .inr (6, [.int dy, .ref aI, .ref aS, .ref aP, .ref aL, .ref aO, .ref aT, .ref aA, .ref aQ])), (aI, .inr (0, [.int 0, .ref aI1, .ref aI2, .ref aI3, .ref aI4]))]) [0, 1, 2] rfl
  have hDc := hD.sub (ws' := [(g, .inr (8, [.ref nw, .ref la, .ref pn])), (nw, .inr (6, [.int dy, .ref aI, .ref aS, .ref aP, .ref aL, .ref aO, .ref aT, .ref aA, .ref aQ])), (aI, .inr (0, [.int 0, .ref aI1, .ref aI2, .ref aI3, .ref aI4]))]) [0, 1, 2] (by decide) rfl
  have hFc := va_free (wc := [(g, .inr (8, [.ref nw, .ref la, .ref pn])), (nw, .inr (6, [.int dy, .ref aI, .ref aS, .ref aP, .ref aL, .ref aO, .ref aT, .ref aA, .ref aQ])), (aI, .inr (0, [.int 0, .ref aI1, .ref aI2, .ref aI3, .ref aI4]))]) hD hS hA [0, 1, 2] rfl
  refine vx_callv (vx_runV (As := [.int p0]) (rest := []) ⟨hx, hb, hml, hown, hts⟩ (c_needItem l hl9 D cI cZ cJ lo s.heap.size g nw la pn dy aI aS aP aL aO aT aA aQ aI1 aI2 aI3 aI4 p0) (cwV 1 hts gX8_couldTake_X8_needItem rfl rfl rfl (by decide +kernel) ⟨(Nat.le_of_ble_eq_true rfl), (Nat.le_of_ble_eq_true rfl)⟩) ⟨Pre.blind, va_recv hK hP (ci := 8) (q0 := 0) rfl rfl, Pre.mk hPc (hDc.weaken (fun _ _ _ h => hAlo _ h)) hC hS hAlo⟩ rfl rfl hl.1 rfl (lv_room (Nat.le_of_ble_eq_true rfl)) dX8_couldTake_2 ⟨(Nat.le_of_ble_eq_true rfl), (Nat.le_of_ble_eq_true rfl)⟩) hS (fun q _ h => hFc q h) hFc (fun q _ h => hFc q h) (fun E ce q9 u t H1 locs1 ht hvm hpx hbx hz1 hk1 hS1 hce hcv hcl => ?_) (fun u t H1 locs1 ht hvm e_1 hB hz1 hk1 hS1 => ?_)
  · have px_2 : True := hpx
    have hE : E = "java/lang/IndexOutOfBoundsException" := hbx
    subst hE
    exact vx_out (fun x9 h9 => (ht9 x9 h9).elim) hlocks hce hcv hcl (fun t9 ht9b _ => ⟨(), trivial, rfl, hS1.F ht9b⟩) hS1.2.2 (by omega) (by omega)
  · exact False.elim e_1

set_option maxHeartbeats 4000000 in
set_option maxRecDepth 100000 in
/-- rate on a fresh object: throws -/
theorem c_rate (l : Launch) (hl9 : l.stackTraces = false) (D : va_G) (cI cZ cJ : ClassId) (lo sz : Nat) (g : Nat) (nw : Nat) (la : Nat) (pn : Nat) (dy : Int32) (aI : Nat) (aS : Nat) (aP : Nat) (aL : Nat) (aO : Nat) (aT : Nat) (aA : Nat) (aQ : Nat) (aI1 : Nat) (aI2 : Nat) (aI3 : Nat) (aI4 : Nat) (p0 : Int32) (p1 : Int32) (p2 : Int32) : vx_Met l yX8_rate wsX8_rate ({ frames := 8, cells := 1, slots := 6, locals := 123 }) (Pre lo D cI cZ cJ [.ref g, .int p0, .int p1, .int p2] sz [(g, .inr (8, [.ref nw, .ref la, .ref pn])), (nw, .inr (6, [.int dy, .ref aI, .ref aS, .ref aP, .ref aL, .ref aO, .ref aT, .ref aA, .ref aQ])), (aI, .inr (0, [.int 0, .ref aI1, .ref aI2, .ref aI3, .ref aI4]))]) (va_Qi (fun (r : Int32) (_ : Unit) => False) (fun _ t => True) (va_A [(g, .inr (8, [.ref nw, .ref la, .ref pn])), (nw, .inr (6, [.int dy, .ref aI, .ref aS, .ref aP, .ref aL, .ref aO, .ref aT, .ref aA, .ref aQ])), (aI, .inr (0, [.int 0, .ref aI1, .ref aI2, .ref aI3, .ref aI4]))] sz)) (vx_X (fun _ : Unit => True) (fun E _ _ => E = "java/lang/IndexOutOfBoundsException") (va_A [(g, .inr (8, [.ref nw, .ref la, .ref pn])), (nw, .inr (6, [.int dy, .ref aI, .ref aS, .ref aP, .ref aL, .ref aO, .ref aT, .ref aA, .ref aQ])), (aI, .inr (0, [.int 0, .ref aI1, .ref aI2, .ref aI3, .ref aI4]))] sz)) 1 6 (va_A [(g, .inr (8, [.ref nw, .ref la, .ref pn])), (nw, .inr (6, [.int dy, .ref aI, .ref aS, .ref aP, .ref aL, .ref aO, .ref aT, .ref aA, .ref aQ])), (aI, .inr (0, [.int 0, .ref aI1, .ref aI2, .ref aI3, .ref aI4]))] sz) := by
  refine vx_ofW (cc := cX8_rate) (maxL := 4) (ret := (some .int)) (by decide) rfl ?_
  intro p e s m args below meth c s₁ B hml ht9 hv
  obtain ⟨rfl, hsz, hP, hD0, hC⟩ := hv
  have hx := B.exec
  have hb := B.bytes
  have hr := B.returns
  have hts := atoms_spec (ws := wsX8_rate) B.pre
  have hown : s.vm.findClass RX8 = some m.cls := findClass_of_methodNamed B.named
  have hlocks := B.notSynchronized
  subst hsz
  have hK := hC.K
  have hD := hD0.self (sz := s.heap.size)
  have hAlo0 := va_A_lo hD0 hC.1
  generalize hAe : va_A [(g, .inr (8, [.ref nw, .ref la, .ref pn])), (nw, .inr (6, [.int dy, .ref aI, .ref aS, .ref aP, .ref aL, .ref aO, .ref aT, .ref aA, .ref aQ])), (aI, .inr (0, [.int 0, .ref aI1, .ref aI2, .ref aI3, .ref aI4]))] s.heap.size = A at hD hAlo0 ⊢
  have hA : ∀ q : Nat, s.heap.size ≤ q → A q := fun q h => by rw [← hAe]; exact Or.inr h
  have hAlo : ∀ q, A q → lo ≤ q := hAlo0
  have hS : va_S A s.heap s.heap [] := va_S.rf
  have hP : va_P D vwCl [(g, .inr (8, [.ref nw, .ref la, .ref pn])), (nw, .inr (6, [.int dy, .ref aI, .ref aS, .ref aP, .ref aL, .ref aO, .ref aT, .ref aA, .ref aQ])), (aI, .inr (0, [.int 0, .ref aI1, .ref aI2, .ref aI3, .ref aI4]))] s.heap := hP
  have hl := lv_entry ([.ref g, .int p0, .int p1, .int p2]) (n := 4) (Nat.le_of_ble_eq_true rfl)
  rw [lg_entry_eq]
  generalize (lg_sl ([.ref g, .int p0, .int p1, .int p2]) ++ List.replicate (4 - (lg_sl ([.ref g, .int p0, .int p1, .int p2])).length) Slot.unset).toArray = ls at hl ⊢
  have hl : lv_has ls 4 [(0, .ref g), (1, .int p0), (2, .int p1), (3, .int p2)] := hl
  refine lv_aload_n hx hb dX8_rate_0 rfl (lv_at hl 0 rfl) ?_
  refine lv_iload_n hx hb dX8_rate_1 rfl (lv_at hl 1 rfl) ?_
  have hPc := hP.sub (ws' := [(g, .inr (8, [.ref nw, .ref la, .ref pn])), (nw, .inr (6, [.int dy, .ref aI, .ref aS, .ref aP, .ref aL, .ref aO, .ref aT, .ref aA, .ref aQ])), (aI, .inr (0, [.int 0, .ref aI1, .ref aI2, .ref aI3, .ref aI4]))]) [0, 1, 2] rfl
  have hDc := hD.sub (ws' := [(g, .inr (8, [.ref nw, .ref la, .ref pn])), (nw, .inr (6, [.int dy, .ref aI, .ref aS, .ref aP, .ref aL, .ref aO, .ref aT, .ref aA, .ref aQ])), (aI, .inr (0, [.int 0, .ref aI1, .ref aI2, .ref aI3, .ref aI4]))]) [0, 1, 2] (by decide) rfl
  have hFc := va_free (wc := [(g, .inr (8, [.ref nw, .ref la, .ref pn])), (nw, .inr (6, [.int dy, .ref aI, .ref aS, .ref aP, .ref aL, .ref aO, .ref aT, .ref aA, .ref aQ])), (aI, .inr (0, [.int 0, .ref aI1, .ref aI2, .ref aI3, .ref aI4]))]) hD hS hA [0, 1, 2] rfl
  refine vx_callv (vx_runV (As := [.int p0]) (rest := []) ⟨hx, hb, hml, hown, hts⟩ (c_needItem l hl9 D cI cZ cJ lo s.heap.size g nw la pn dy aI aS aP aL aO aT aA aQ aI1 aI2 aI3 aI4 p0) (cwV 1 hts gX8_rate_X8_needItem rfl rfl rfl (by decide +kernel) ⟨(Nat.le_of_ble_eq_true rfl), (Nat.le_of_ble_eq_true rfl)⟩) ⟨Pre.blind, va_recv hK hP (ci := 8) (q0 := 0) rfl rfl, Pre.mk hPc (hDc.weaken (fun _ _ _ h => hAlo _ h)) hC hS hAlo⟩ rfl rfl hl.1 rfl (lv_room (Nat.le_of_ble_eq_true rfl)) dX8_rate_2 ⟨(Nat.le_of_ble_eq_true rfl), (Nat.le_of_ble_eq_true rfl)⟩) hS (fun q _ h => hFc q h) hFc (fun q _ h => hFc q h) (fun E ce q9 u t H1 locs1 ht hvm hpx hbx hz1 hk1 hS1 hce hcv hcl => ?_) (fun u t H1 locs1 ht hvm e_1 hB hz1 hk1 hS1 => ?_)
  · have px_2 : True := hpx
    have hE : E = "java/lang/IndexOutOfBoundsException" := hbx
    subst hE
    exact vx_out (fun x9 h9 => (ht9 x9 h9).elim) hlocks hce hcv hcl (fun t9 ht9b _ => ⟨(), trivial, rfl, hS1.F ht9b⟩) hS1.2.2 (by omega) (by omega)
  · exact False.elim e_1

set_option maxHeartbeats 4000000 in
set_option maxRecDepth 100000 in
/-- pointFor on a fresh object: throws -/
theorem c_pointFor (l : Launch) (hl9 : l.stackTraces = false) (D : va_G) (cI cZ cJ : ClassId) (lo sz : Nat) (g : Nat) (nw : Nat) (la : Nat) (pn : Nat) (dy : Int32) (aI : Nat) (aS : Nat) (aP : Nat) (aL : Nat) (aO : Nat) (aT : Nat) (aA : Nat) (aQ : Nat) (aI1 : Nat) (aI2 : Nat) (aI3 : Nat) (aI4 : Nat) (p0 : Int32) (p1 : Int32) (p2 : Int32) (p3 : Int32) : vx_Met l yX8_pointFor wsX8_pointFor ({ frames := 8, cells := 1, slots := 6, locals := 123 }) (Pre lo D cI cZ cJ [.ref g, .int p0, .int p1, .int p2, .int p3] sz [(g, .inr (8, [.ref nw, .ref la, .ref pn])), (nw, .inr (6, [.int dy, .ref aI, .ref aS, .ref aP, .ref aL, .ref aO, .ref aT, .ref aA, .ref aQ])), (aI, .inr (0, [.int 0, .ref aI1, .ref aI2, .ref aI3, .ref aI4]))]) (va_Qi (fun (r : Int32) (_ : Unit) => False) (fun _ t => True) (va_A [(g, .inr (8, [.ref nw, .ref la, .ref pn])), (nw, .inr (6, [.int dy, .ref aI, .ref aS, .ref aP, .ref aL, .ref aO, .ref aT, .ref aA, .ref aQ])), (aI, .inr (0, [.int 0, .ref aI1, .ref aI2, .ref aI3, .ref aI4]))] sz)) (vx_X (fun _ : Unit => True) (fun E _ _ => E = "java/lang/IndexOutOfBoundsException") (va_A [(g, .inr (8, [.ref nw, .ref la, .ref pn])), (nw, .inr (6, [.int dy, .ref aI, .ref aS, .ref aP, .ref aL, .ref aO, .ref aT, .ref aA, .ref aQ])), (aI, .inr (0, [.int 0, .ref aI1, .ref aI2, .ref aI3, .ref aI4]))] sz)) 1 6 (va_A [(g, .inr (8, [.ref nw, .ref la, .ref pn])), (nw, .inr (6, [.int dy, .ref aI, .ref aS, .ref aP, .ref aL, .ref aO, .ref aT, .ref aA, .ref aQ])), (aI, .inr (0, [.int 0, .ref aI1, .ref aI2, .ref aI3, .ref aI4]))] sz) := by
  refine vx_ofW (cc := cX8_pointFor) (maxL := 8) (ret := (some .int)) (by decide) rfl ?_
  intro p e s m args below meth c s₁ B hml ht9 hv
  obtain ⟨rfl, hsz, hP, hD0, hC⟩ := hv
  have hx := B.exec
  have hb := B.bytes
  have hr := B.returns
  have hts := atoms_spec (ws := wsX8_pointFor) B.pre
  have hown : s.vm.findClass RX8 = some m.cls := findClass_of_methodNamed B.named
  have hlocks := B.notSynchronized
  subst hsz
  have hK := hC.K
  have hD := hD0.self (sz := s.heap.size)
  have hAlo0 := va_A_lo hD0 hC.1
  generalize hAe : va_A [(g, .inr (8, [.ref nw, .ref la, .ref pn])), (nw, .inr (6, [.int dy, .ref aI, .ref aS, .ref aP, .ref aL, .ref aO, .ref aT, .ref aA, .ref aQ])), (aI, .inr (0, [.int 0, .ref aI1, .ref aI2, .ref aI3, .ref aI4]))] s.heap.size = A at hD hAlo0 ⊢
  have hA : ∀ q : Nat, s.heap.size ≤ q → A q := fun q h => by rw [← hAe]; exact Or.inr h
  have hAlo : ∀ q, A q → lo ≤ q := hAlo0
  have hS : va_S A s.heap s.heap [] := va_S.rf
  have hP : va_P D vwCl [(g, .inr (8, [.ref nw, .ref la, .ref pn])), (nw, .inr (6, [.int dy, .ref aI, .ref aS, .ref aP, .ref aL, .ref aO, .ref aT, .ref aA, .ref aQ])), (aI, .inr (0, [.int 0, .ref aI1, .ref aI2, .ref aI3, .ref aI4]))] s.heap := hP
  have hl := lv_entry ([.ref g, .int p0, .int p1, .int p2, .int p3]) (n := 8) (Nat.le_of_ble_eq_true rfl)
  rw [lg_entry_eq]
  generalize (lg_sl ([.ref g, .int p0, .int p1, .int p2, .int p3]) ++ List.replicate (8 - (lg_sl ([.ref g, .int p0, .int p1, .int p2, .int p3])).length) Slot.unset).toArray = ls at hl ⊢
  have hl : lv_has ls 8 [(0, .ref g), (1, .int p0), (2, .int p1), (3, .int p2), (4, .int p3)] := hl
  refine lv_aload_n hx hb dX8_pointFor_0 rfl (lv_at hl 0 rfl) ?_
  refine lv_iload_n hx hb dX8_pointFor_1 rfl (lv_at hl 1 rfl) ?_
  have hPc := hP.sub (ws' := [(g, .inr (8, [.ref nw, .ref la, .ref pn])), (nw, .inr (6, [.int dy, .ref aI, .ref aS, .ref aP, .ref aL, .ref aO, .ref aT, .ref aA, .ref aQ])), (aI, .inr (0, [.int 0, .ref aI1, .ref aI2, .ref aI3, .ref aI4]))]) [0, 1, 2] rfl
  have hDc := hD.sub (ws' := [(g, .inr (8, [.ref nw, .ref la, .ref pn])), (nw, .inr (6, [.int dy, .ref aI, .ref aS, .ref aP, .ref aL, .ref aO, .ref aT, .ref aA, .ref aQ])), (aI, .inr (0, [.int 0, .ref aI1, .ref aI2, .ref aI3, .ref aI4]))]) [0, 1, 2] (by decide) rfl
  have hFc := va_free (wc := [(g, .inr (8, [.ref nw, .ref la, .ref pn])), (nw, .inr (6, [.int dy, .ref aI, .ref aS, .ref aP, .ref aL, .ref aO, .ref aT, .ref aA, .ref aQ])), (aI, .inr (0, [.int 0, .ref aI1, .ref aI2, .ref aI3, .ref aI4]))]) hD hS hA [0, 1, 2] rfl
  refine vx_callv (vx_runV (As := [.int p0]) (rest := []) ⟨hx, hb, hml, hown, hts⟩ (c_needItem l hl9 D cI cZ cJ lo s.heap.size g nw la pn dy aI aS aP aL aO aT aA aQ aI1 aI2 aI3 aI4 p0) (cwV 1 hts gX8_pointFor_X8_needItem rfl rfl rfl (by decide +kernel) ⟨(Nat.le_of_ble_eq_true rfl), (Nat.le_of_ble_eq_true rfl)⟩) ⟨Pre.blind, va_recv hK hP (ci := 8) (q0 := 0) rfl rfl, Pre.mk hPc (hDc.weaken (fun _ _ _ h => hAlo _ h)) hC hS hAlo⟩ rfl rfl hl.1 rfl (lv_room (Nat.le_of_ble_eq_true rfl)) dX8_pointFor_2 ⟨(Nat.le_of_ble_eq_true rfl), (Nat.le_of_ble_eq_true rfl)⟩) hS (fun q _ h => hFc q h) hFc (fun q _ h => hFc q h) (fun E ce q9 u t H1 locs1 ht hvm hpx hbx hz1 hk1 hS1 hce hcv hcl => ?_) (fun u t H1 locs1 ht hvm e_1 hB hz1 hk1 hS1 => ?_)
  · have px_2 : True := hpx
    have hE : E = "java/lang/IndexOutOfBoundsException" := hbx
    subst hE
    exact vx_out (fun x9 h9 => (ht9 x9 h9).elim) hlocks hce hcv hcl (fun t9 ht9b _ => ⟨(), trivial, rfl, hS1.F ht9b⟩) hS1.2.2 (by omega) (by omega)
  · exact False.elim e_1

set_option maxHeartbeats 4000000 in
set_option maxRecDepth 100000 in
/-- classOf on a fresh object: throws -/
theorem c_classOf (l : Launch) (hl9 : l.stackTraces = false) (D : va_G) (cI cZ cJ : ClassId) (lo sz : Nat) (g : Nat) (nw : Nat) (la : Nat) (pn : Nat) (dy : Int32) (aI : Nat) (aS : Nat) (aP : Nat) (aL : Nat) (aO : Nat) (aT : Nat) (aA : Nat) (aQ : Nat) (aI1 : Nat) (aI2 : Nat) (aI3 : Nat) (aI4 : Nat) (p0 : Int32) : vx_Met l yX8_classOf wsX8_classOf ({ frames := 8, cells := 1, slots := 6, locals := 123 }) (Pre lo D cI cZ cJ [.ref g, .int p0] sz [(g, .inr (8, [.ref nw, .ref la, .ref pn])), (nw, .inr (6, [.int dy, .ref aI, .ref aS, .ref aP, .ref aL, .ref aO, .ref aT, .ref aA, .ref aQ])), (aI, .inr (0, [.int 0, .ref aI1, .ref aI2, .ref aI3, .ref aI4]))]) (va_Qi (fun (r : Int32) (_ : Unit) => False) (fun _ t => True) (va_A [(g, .inr (8, [.ref nw, .ref la, .ref pn])), (nw, .inr (6, [.int dy, .ref aI, .ref aS, .ref aP, .ref aL, .ref aO, .ref aT, .ref aA, .ref aQ])), (aI, .inr (0, [.int 0, .ref aI1, .ref aI2, .ref aI3, .ref aI4]))] sz)) (vx_X (fun _ : Unit => True) (fun E _ _ => E = "java/lang/IndexOutOfBoundsException") (va_A [(g, .inr (8, [.ref nw, .ref la, .ref pn])), (nw, .inr (6, [.int dy, .ref aI, .ref aS, .ref aP, .ref aL, .ref aO, .ref aT, .ref aA, .ref aQ])), (aI, .inr (0, [.int 0, .ref aI1, .ref aI2, .ref aI3, .ref aI4]))] sz)) 1 6 (va_A [(g, .inr (8, [.ref nw, .ref la, .ref pn])), (nw, .inr (6, [.int dy, .ref aI, .ref aS, .ref aP, .ref aL, .ref aO, .ref aT, .ref aA, .ref aQ])), (aI, .inr (0, [.int 0, .ref aI1, .ref aI2, .ref aI3, .ref aI4]))] sz) := by
  refine vx_ofW (cc := cX8_classOf) (maxL := 2) (ret := (some .int)) (by decide) rfl ?_
  intro p e s m args below meth c s₁ B hml ht9 hv
  obtain ⟨rfl, hsz, hP, hD0, hC⟩ := hv
  have hx := B.exec
  have hb := B.bytes
  have hr := B.returns
  have hts := atoms_spec (ws := wsX8_classOf) B.pre
  have hown : s.vm.findClass RX8 = some m.cls := findClass_of_methodNamed B.named
  have hlocks := B.notSynchronized
  subst hsz
  have hK := hC.K
  have hD := hD0.self (sz := s.heap.size)
  have hAlo0 := va_A_lo hD0 hC.1
  generalize hAe : va_A [(g, .inr (8, [.ref nw, .ref la, .ref pn])), (nw, .inr (6, [.int dy, .ref aI, .ref aS, .ref aP, .ref aL, .ref aO, .ref aT, .ref aA, .ref aQ])), (aI, .inr (0, [.int 0, .ref aI1, .ref aI2, .ref aI3, .ref aI4]))] s.heap.size = A at hD hAlo0 ⊢
  have hA : ∀ q : Nat, s.heap.size ≤ q → A q := fun q h => by rw [← hAe]; exact Or.inr h
  have hAlo : ∀ q, A q → lo ≤ q := hAlo0
  have hS : va_S A s.heap s.heap [] := va_S.rf
  have hP : va_P D vwCl [(g, .inr (8, [.ref nw, .ref la, .ref pn])), (nw, .inr (6, [.int dy, .ref aI, .ref aS, .ref aP, .ref aL, .ref aO, .ref aT, .ref aA, .ref aQ])), (aI, .inr (0, [.int 0, .ref aI1, .ref aI2, .ref aI3, .ref aI4]))] s.heap := hP
  have hl := lv_entry ([.ref g, .int p0]) (n := 2) (Nat.le_of_ble_eq_true rfl)
  rw [lg_entry_eq]
  generalize (lg_sl ([.ref g, .int p0]) ++ List.replicate (2 - (lg_sl ([.ref g, .int p0])).length) Slot.unset).toArray = ls at hl ⊢
  have hl : lv_has ls 2 [(0, .ref g), (1, .int p0)] := hl
  refine lv_aload_n hx hb dX8_classOf_0 rfl (lv_at hl 0 rfl) ?_
  refine lv_iload_n hx hb dX8_classOf_1 rfl (lv_at hl 1 rfl) ?_
  have hPc := hP.sub (ws' := [(g, .inr (8, [.ref nw, .ref la, .ref pn])), (nw, .inr (6, [.int dy, .ref aI, .ref aS, .ref aP, .ref aL, .ref aO, .ref aT, .ref aA, .ref aQ])), (aI, .inr (0, [.int 0, .ref aI1, .ref aI2, .ref aI3, .ref aI4]))]) [0, 1, 2] rfl
  have hDc := hD.sub (ws' := [(g, .inr (8, [.ref nw, .ref la, .ref pn])), (nw, .inr (6, [.int dy, .ref aI, .ref aS, .ref aP, .ref aL, .ref aO, .ref aT, .ref aA, .ref aQ])), (aI, .inr (0, [.int 0, .ref aI1, .ref aI2, .ref aI3, .ref aI4]))]) [0, 1, 2] (by decide) rfl
  have hFc := va_free (wc := [(g, .inr (8, [.ref nw, .ref la, .ref pn])), (nw, .inr (6, [.int dy, .ref aI, .ref aS, .ref aP, .ref aL, .ref aO, .ref aT, .ref aA, .ref aQ])), (aI, .inr (0, [.int 0, .ref aI1, .ref aI2, .ref aI3, .ref aI4]))]) hD hS hA [0, 1, 2] rfl
  refine vx_callv (vx_runV (As := [.int p0]) (rest := []) ⟨hx, hb, hml, hown, hts⟩ (c_needItem l hl9 D cI cZ cJ lo s.heap.size g nw la pn dy aI aS aP aL aO aT aA aQ aI1 aI2 aI3 aI4 p0) (cwV 1 hts gX8_classOf_X8_needItem rfl rfl rfl (by decide +kernel) ⟨(Nat.le_of_ble_eq_true rfl), (Nat.le_of_ble_eq_true rfl)⟩) ⟨Pre.blind, va_recv hK hP (ci := 8) (q0 := 0) rfl rfl, Pre.mk hPc (hDc.weaken (fun _ _ _ h => hAlo _ h)) hC hS hAlo⟩ rfl rfl hl.1 rfl (lv_room (Nat.le_of_ble_eq_true rfl)) dX8_classOf_2 ⟨(Nat.le_of_ble_eq_true rfl), (Nat.le_of_ble_eq_true rfl)⟩) hS (fun q _ h => hFc q h) hFc (fun q _ h => hFc q h) (fun E ce q9 u t H1 locs1 ht hvm hpx hbx hz1 hk1 hS1 hce hcv hcl => ?_) (fun u t H1 locs1 ht hvm e_1 hB hz1 hk1 hS1 => ?_)
  · have px_2 : True := hpx
    have hE : E = "java/lang/IndexOutOfBoundsException" := hbx
    subst hE
    exact vx_out (fun x9 h9 => (ht9 x9 h9).elim) hlocks hce hcv hcl (fun t9 ht9b _ => ⟨(), trivial, rfl, hS1.F ht9b⟩) hS1.2.2 (by omega) (by omega)
  · exact False.elim e_1

set_option maxHeartbeats 4000000 in
set_option maxRecDepth 100000 in
/-- lacks on a fresh object: throws -/
theorem c_lacks (l : Launch) (hl9 : l.stackTraces = false) (D : va_G) (cI cZ cJ : ClassId) (lo sz : Nat) (g : Nat) (nw : Nat) (la : Nat) (pn : Nat) (dy : Int32) (aI : Nat) (aS : Nat) (aP : Nat) (aL : Nat) (aO : Nat) (aT : Nat) (aA : Nat) (aQ : Nat) (aI1 : Nat) (aI2 : Nat) (aI3 : Nat) (aI4 : Nat) (p0 : Int32) (p1 : Int32) : vx_Met l yX8_lacks wsX8_lacks ({ frames := 8, cells := 1, slots := 6, locals := 123 }) (Pre lo D cI cZ cJ [.ref g, .int p0, .int p1] sz [(g, .inr (8, [.ref nw, .ref la, .ref pn])), (nw, .inr (6, [.int dy, .ref aI, .ref aS, .ref aP, .ref aL, .ref aO, .ref aT, .ref aA, .ref aQ])), (aI, .inr (0, [.int 0, .ref aI1, .ref aI2, .ref aI3, .ref aI4]))]) (va_Qi (fun (r : Int32) (_ : Unit) => False) (fun _ t => True) (va_A [(g, .inr (8, [.ref nw, .ref la, .ref pn])), (nw, .inr (6, [.int dy, .ref aI, .ref aS, .ref aP, .ref aL, .ref aO, .ref aT, .ref aA, .ref aQ])), (aI, .inr (0, [.int 0, .ref aI1, .ref aI2, .ref aI3, .ref aI4]))] sz)) (vx_X (fun _ : Unit => True) (fun E _ _ => E = "java/lang/IndexOutOfBoundsException") (va_A [(g, .inr (8, [.ref nw, .ref la, .ref pn])), (nw, .inr (6, [.int dy, .ref aI, .ref aS, .ref aP, .ref aL, .ref aO, .ref aT, .ref aA, .ref aQ])), (aI, .inr (0, [.int 0, .ref aI1, .ref aI2, .ref aI3, .ref aI4]))] sz)) 1 6 (va_A [(g, .inr (8, [.ref nw, .ref la, .ref pn])), (nw, .inr (6, [.int dy, .ref aI, .ref aS, .ref aP, .ref aL, .ref aO, .ref aT, .ref aA, .ref aQ])), (aI, .inr (0, [.int 0, .ref aI1, .ref aI2, .ref aI3, .ref aI4]))] sz) := by
  refine vx_ofW (cc := cX8_lacks) (maxL := 3) (ret := (some .int)) (by decide) rfl ?_
  intro p e s m args below meth c s₁ B hml ht9 hv
  obtain ⟨rfl, hsz, hP, hD0, hC⟩ := hv
  have hx := B.exec
  have hb := B.bytes
  have hr := B.returns
  have hts := atoms_spec (ws := wsX8_lacks) B.pre
  have hown : s.vm.findClass RX8 = some m.cls := findClass_of_methodNamed B.named
  have hlocks := B.notSynchronized
  subst hsz
  have hK := hC.K
  have hD := hD0.self (sz := s.heap.size)
  have hAlo0 := va_A_lo hD0 hC.1
  generalize hAe : va_A [(g, .inr (8, [.ref nw, .ref la, .ref pn])), (nw, .inr (6, [.int dy, .ref aI, .ref aS, .ref aP, .ref aL, .ref aO, .ref aT, .ref aA, .ref aQ])), (aI, .inr (0, [.int 0, .ref aI1, .ref aI2, .ref aI3, .ref aI4]))] s.heap.size = A at hD hAlo0 ⊢
  have hA : ∀ q : Nat, s.heap.size ≤ q → A q := fun q h => by rw [← hAe]; exact Or.inr h
  have hAlo : ∀ q, A q → lo ≤ q := hAlo0
  have hS : va_S A s.heap s.heap [] := va_S.rf
  have hP : va_P D vwCl [(g, .inr (8, [.ref nw, .ref la, .ref pn])), (nw, .inr (6, [.int dy, .ref aI, .ref aS, .ref aP, .ref aL, .ref aO, .ref aT, .ref aA, .ref aQ])), (aI, .inr (0, [.int 0, .ref aI1, .ref aI2, .ref aI3, .ref aI4]))] s.heap := hP
  have hl := lv_entry ([.ref g, .int p0, .int p1]) (n := 3) (Nat.le_of_ble_eq_true rfl)
  rw [lg_entry_eq]
  generalize (lg_sl ([.ref g, .int p0, .int p1]) ++ List.replicate (3 - (lg_sl ([.ref g, .int p0, .int p1])).length) Slot.unset).toArray = ls at hl ⊢
  have hl : lv_has ls 3 [(0, .ref g), (1, .int p0), (2, .int p1)] := hl
  refine lv_aload_n hx hb dX8_lacks_0 rfl (lv_at hl 0 rfl) ?_
  refine lv_iload_n hx hb dX8_lacks_1 rfl (lv_at hl 1 rfl) ?_
  have hPc := hP.sub (ws' := [(g, .inr (8, [.ref nw, .ref la, .ref pn])), (nw, .inr (6, [.int dy, .ref aI, .ref aS, .ref aP, .ref aL, .ref aO, .ref aT, .ref aA, .ref aQ])), (aI, .inr (0, [.int 0, .ref aI1, .ref aI2, .ref aI3, .ref aI4]))]) [0, 1, 2] rfl
  have hDc := hD.sub (ws' := [(g, .inr (8, [.ref nw, .ref la, .ref pn])), (nw, .inr (6, [.int dy, .ref aI, .ref aS, .ref aP, .ref aL, .ref aO, .ref aT, .ref aA, .ref aQ])), (aI, .inr (0, [.int 0, .ref aI1, .ref aI2, .ref aI3, .ref aI4]))]) [0, 1, 2] (by decide) rfl
  have hFc := va_free (wc := [(g, .inr (8, [.ref nw, .ref la, .ref pn])), (nw, .inr (6, [.int dy, .ref aI, .ref aS, .ref aP, .ref aL, .ref aO, .ref aT, .ref aA, .ref aQ])), (aI, .inr (0, [.int 0, .ref aI1, .ref aI2, .ref aI3, .ref aI4]))]) hD hS hA [0, 1, 2] rfl
  refine vx_callv (vx_runV (As := [.int p0]) (rest := []) ⟨hx, hb, hml, hown, hts⟩ (c_needItem l hl9 D cI cZ cJ lo s.heap.size g nw la pn dy aI aS aP aL aO aT aA aQ aI1 aI2 aI3 aI4 p0) (cwV 1 hts gX8_lacks_X8_needItem rfl rfl rfl (by decide +kernel) ⟨(Nat.le_of_ble_eq_true rfl), (Nat.le_of_ble_eq_true rfl)⟩) ⟨Pre.blind, va_recv hK hP (ci := 8) (q0 := 0) rfl rfl, Pre.mk hPc (hDc.weaken (fun _ _ _ h => hAlo _ h)) hC hS hAlo⟩ rfl rfl hl.1 rfl (lv_room (Nat.le_of_ble_eq_true rfl)) dX8_lacks_2 ⟨(Nat.le_of_ble_eq_true rfl), (Nat.le_of_ble_eq_true rfl)⟩) hS (fun q _ h => hFc q h) hFc (fun q _ h => hFc q h) (fun E ce q9 u t H1 locs1 ht hvm hpx hbx hz1 hk1 hS1 hce hcv hcl => ?_) (fun u t H1 locs1 ht hvm e_1 hB hz1 hk1 hS1 => ?_)
  · have px_2 : True := hpx
    have hE : E = "java/lang/IndexOutOfBoundsException" := hbx
    subst hE
    exact vx_out (fun x9 h9 => (ht9 x9 h9).elim) hlocks hce hcv hcl (fun t9 ht9b _ => ⟨(), trivial, rfl, hS1.F ht9b⟩) hS1.2.2 (by omega) (by omega)
  · exact False.elim e_1

set_option maxHeartbeats 4000000 in
set_option maxRecDepth 100000 in
/-- spares on a fresh object: throws -/
theorem c_spares (l : Launch) (hl9 : l.stackTraces = false) (D : va_G) (cI cZ cJ : ClassId) (lo sz : Nat) (g : Nat) (nw : Nat) (la : Nat) (pn : Nat) (dy : Int32) (aI : Nat) (aS : Nat) (aP : Nat) (aL : Nat) (aO : Nat) (aT : Nat) (aA : Nat) (aQ : Nat) (aI1 : Nat) (aI2 : Nat) (aI3 : Nat) (aI4 : Nat) (p0 : Int32) (p1 : Int32) : vx_Met l yX8_spares wsX8_spares ({ frames := 8, cells := 1, slots := 6, locals := 123 }) (Pre lo D cI cZ cJ [.ref g, .int p0, .int p1] sz [(g, .inr (8, [.ref nw, .ref la, .ref pn])), (nw, .inr (6, [.int dy, .ref aI, .ref aS, .ref aP, .ref aL, .ref aO, .ref aT, .ref aA, .ref aQ])), (aI, .inr (0, [.int 0, .ref aI1, .ref aI2, .ref aI3, .ref aI4]))]) (va_Qi (fun (r : Int32) (_ : Unit) => False) (fun _ t => True) (va_A [(g, .inr (8, [.ref nw, .ref la, .ref pn])), (nw, .inr (6, [.int dy, .ref aI, .ref aS, .ref aP, .ref aL, .ref aO, .ref aT, .ref aA, .ref aQ])), (aI, .inr (0, [.int 0, .ref aI1, .ref aI2, .ref aI3, .ref aI4]))] sz)) (vx_X (fun _ : Unit => True) (fun E _ _ => E = "java/lang/IndexOutOfBoundsException") (va_A [(g, .inr (8, [.ref nw, .ref la, .ref pn])), (nw, .inr (6, [.int dy, .ref aI, .ref aS, .ref aP, .ref aL, .ref aO, .ref aT, .ref aA, .ref aQ])), (aI, .inr (0, [.int 0, .ref aI1, .ref aI2, .ref aI3, .ref aI4]))] sz)) 1 6 (va_A [(g, .inr (8, [.ref nw, .ref la, .ref pn])), (nw, .inr (6, [.int dy, .ref aI, .ref aS, .ref aP, .ref aL, .ref aO, .ref aT, .ref aA, .ref aQ])), (aI, .inr (0, [.int 0, .ref aI1, .ref aI2, .ref aI3, .ref aI4]))] sz) := by
  refine vx_ofW (cc := cX8_spares) (maxL := 3) (ret := (some .int)) (by decide) rfl ?_
  intro p e s m args below meth c s₁ B hml ht9 hv
  obtain ⟨rfl, hsz, hP, hD0, hC⟩ := hv
  have hx := B.exec
  have hb := B.bytes
  have hr := B.returns
  have hts := atoms_spec (ws := wsX8_spares) B.pre
  have hown : s.vm.findClass RX8 = some m.cls := findClass_of_methodNamed B.named
  have hlocks := B.notSynchronized
  subst hsz
  have hK := hC.K
  have hD := hD0.self (sz := s.heap.size)
  have hAlo0 := va_A_lo hD0 hC.1
  generalize hAe : va_A [(g, .inr (8, [.ref nw, .ref la, .ref pn])), (nw, .inr (6, [.int dy, .ref aI, .ref aS, .ref aP, .ref aL, .ref aO, .ref aT, .ref aA, .ref aQ])), (aI, .inr (0, [.int 0, .ref aI1, .ref aI2, .ref aI3, .ref aI4]))] s.heap.size = A at hD hAlo0 ⊢
  have hA : ∀ q : Nat, s.heap.size ≤ q → A q := fun q h => by rw [← hAe]; exact Or.inr h
  have hAlo : ∀ q, A q → lo ≤ q := hAlo0
  have hS : va_S A s.heap s.heap [] := va_S.rf
  have hP : va_P D vwCl [(g, .inr (8, [.ref nw, .ref la, .ref pn])), (nw, .inr (6, [.int dy, .ref aI, .ref aS, .ref aP, .ref aL, .ref aO, .ref aT, .ref aA, .ref aQ])), (aI, .inr (0, [.int 0, .ref aI1, .ref aI2, .ref aI3, .ref aI4]))] s.heap := hP
  have hl := lv_entry ([.ref g, .int p0, .int p1]) (n := 3) (Nat.le_of_ble_eq_true rfl)
  rw [lg_entry_eq]
  generalize (lg_sl ([.ref g, .int p0, .int p1]) ++ List.replicate (3 - (lg_sl ([.ref g, .int p0, .int p1])).length) Slot.unset).toArray = ls at hl ⊢
  have hl : lv_has ls 3 [(0, .ref g), (1, .int p0), (2, .int p1)] := hl
  refine lv_aload_n hx hb dX8_spares_0 rfl (lv_at hl 0 rfl) ?_
  refine lv_iload_n hx hb dX8_spares_1 rfl (lv_at hl 1 rfl) ?_
  have hPc := hP.sub (ws' := [(g, .inr (8, [.ref nw, .ref la, .ref pn])), (nw, .inr (6, [.int dy, .ref aI, .ref aS, .ref aP, .ref aL, .ref aO, .ref aT, .ref aA, .ref aQ])), (aI, .inr (0, [.int 0, .ref aI1, .ref aI2, .ref aI3, .ref aI4]))]) [0, 1, 2] rfl
  have hDc := hD.sub (ws' := [(g, .inr (8, [.ref nw, .ref la, .ref pn])), (nw, .inr (6, [.int dy, .ref aI, .ref aS, .ref aP, .ref aL, .ref aO, .ref aT, .ref aA, .ref aQ])), (aI, .inr (0, [.int 0, .ref aI1, .ref aI2, .ref aI3, .ref aI4]))]) [0, 1, 2] (by decide) rfl
  have hFc := va_free (wc := [(g, .inr (8, [.ref nw, .ref la, .ref pn])), (nw, .inr (6, [.int dy, .ref aI, .ref aS, .ref aP, .ref aL, .ref aO, .ref aT, .ref aA, .ref aQ])), (aI, .inr (0, [.int 0, .ref aI1, .ref aI2, .ref aI3, .ref aI4]))]) hD hS hA [0, 1, 2] rfl
  refine vx_callv (vx_runV (As := [.int p0]) (rest := []) ⟨hx, hb, hml, hown, hts⟩ (c_needItem l hl9 D cI cZ cJ lo s.heap.size g nw la pn dy aI aS aP aL aO aT aA aQ aI1 aI2 aI3 aI4 p0) (cwV 1 hts gX8_spares_X8_needItem rfl rfl rfl (by decide +kernel) ⟨(Nat.le_of_ble_eq_true rfl), (Nat.le_of_ble_eq_true rfl)⟩) ⟨Pre.blind, va_recv hK hP (ci := 8) (q0 := 0) rfl rfl, Pre.mk hPc (hDc.weaken (fun _ _ _ h => hAlo _ h)) hC hS hAlo⟩ rfl rfl hl.1 rfl (lv_room (Nat.le_of_ble_eq_true rfl)) dX8_spares_2 ⟨(Nat.le_of_ble_eq_true rfl), (Nat.le_of_ble_eq_true rfl)⟩) hS (fun q _ h => hFc q h) hFc (fun q _ h => hFc q h) (fun E ce q9 u t H1 locs1 ht hvm hpx hbx hz1 hk1 hS1 hce hcv hcl => ?_) (fun u t H1 locs1 ht hvm e_1 hB hz1 hk1 hS1 => ?_)
  · have px_2 : True := hpx
    have hE : E = "java/lang/IndexOutOfBoundsException" := hbx
    subst hE
    exact vx_out (fun x9 h9 => (ht9 x9 h9).elim) hlocks hce hcv hcl (fun t9 ht9b _ => ⟨(), trivial, rfl, hS1.F ht9b⟩) hS1.2.2 (by omega) (by omega)
  · exact False.elim e_1

set_option maxHeartbeats 4000000 in
set_option maxRecDepth 100000 in
/-- planned on a fresh object: throws -/
theorem c_planned (l : Launch) (hl9 : l.stackTraces = false) (D : va_G) (cI cZ cJ : ClassId) (lo sz : Nat) (g : Nat) (nw : Nat) (la : Nat) (pn : Nat) (dy : Int32) (aI : Nat) (aS : Nat) (aP : Nat) (aL : Nat) (aO : Nat) (aT : Nat) (aA : Nat) (aQ : Nat) (aI1 : Nat) (aI2 : Nat) (aI3 : Nat) (aI4 : Nat) (p0 : Int32) (p1 : Int32) (p2 : Int32) : vx_Met l yX8_planned wsX8_planned ({ frames := 8, cells := 1, slots := 6, locals := 123 }) (Pre lo D cI cZ cJ [.ref g, .int p0, .int p1, .int p2] sz [(g, .inr (8, [.ref nw, .ref la, .ref pn])), (nw, .inr (6, [.int dy, .ref aI, .ref aS, .ref aP, .ref aL, .ref aO, .ref aT, .ref aA, .ref aQ])), (aI, .inr (0, [.int 0, .ref aI1, .ref aI2, .ref aI3, .ref aI4]))]) (va_Qi (fun (r : Int32) (_ : Unit) => False) (fun _ t => True) (va_A [(g, .inr (8, [.ref nw, .ref la, .ref pn])), (nw, .inr (6, [.int dy, .ref aI, .ref aS, .ref aP, .ref aL, .ref aO, .ref aT, .ref aA, .ref aQ])), (aI, .inr (0, [.int 0, .ref aI1, .ref aI2, .ref aI3, .ref aI4]))] sz)) (vx_X (fun _ : Unit => True) (fun E _ _ => E = "java/lang/IndexOutOfBoundsException") (va_A [(g, .inr (8, [.ref nw, .ref la, .ref pn])), (nw, .inr (6, [.int dy, .ref aI, .ref aS, .ref aP, .ref aL, .ref aO, .ref aT, .ref aA, .ref aQ])), (aI, .inr (0, [.int 0, .ref aI1, .ref aI2, .ref aI3, .ref aI4]))] sz)) 1 6 (va_A [(g, .inr (8, [.ref nw, .ref la, .ref pn])), (nw, .inr (6, [.int dy, .ref aI, .ref aS, .ref aP, .ref aL, .ref aO, .ref aT, .ref aA, .ref aQ])), (aI, .inr (0, [.int 0, .ref aI1, .ref aI2, .ref aI3, .ref aI4]))] sz) := by
  refine vx_ofW (cc := cX8_planned) (maxL := 4) (ret := (some .int)) (by decide) rfl ?_
  intro p e s m args below meth c s₁ B hml ht9 hv
  obtain ⟨rfl, hsz, hP, hD0, hC⟩ := hv
  have hx := B.exec
  have hb := B.bytes
  have hr := B.returns
  have hts := atoms_spec (ws := wsX8_planned) B.pre
  have hown : s.vm.findClass RX8 = some m.cls := findClass_of_methodNamed B.named
  have hlocks := B.notSynchronized
  subst hsz
  have hK := hC.K
  have hD := hD0.self (sz := s.heap.size)
  have hAlo0 := va_A_lo hD0 hC.1
  generalize hAe : va_A [(g, .inr (8, [.ref nw, .ref la, .ref pn])), (nw, .inr (6, [.int dy, .ref aI, .ref aS, .ref aP, .ref aL, .ref aO, .ref aT, .ref aA, .ref aQ])), (aI, .inr (0, [.int 0, .ref aI1, .ref aI2, .ref aI3, .ref aI4]))] s.heap.size = A at hD hAlo0 ⊢
  have hA : ∀ q : Nat, s.heap.size ≤ q → A q := fun q h => by rw [← hAe]; exact Or.inr h
  have hAlo : ∀ q, A q → lo ≤ q := hAlo0
  have hS : va_S A s.heap s.heap [] := va_S.rf
  have hP : va_P D vwCl [(g, .inr (8, [.ref nw, .ref la, .ref pn])), (nw, .inr (6, [.int dy, .ref aI, .ref aS, .ref aP, .ref aL, .ref aO, .ref aT, .ref aA, .ref aQ])), (aI, .inr (0, [.int 0, .ref aI1, .ref aI2, .ref aI3, .ref aI4]))] s.heap := hP
  have hl := lv_entry ([.ref g, .int p0, .int p1, .int p2]) (n := 4) (Nat.le_of_ble_eq_true rfl)
  rw [lg_entry_eq]
  generalize (lg_sl ([.ref g, .int p0, .int p1, .int p2]) ++ List.replicate (4 - (lg_sl ([.ref g, .int p0, .int p1, .int p2])).length) Slot.unset).toArray = ls at hl ⊢
  have hl : lv_has ls 4 [(0, .ref g), (1, .int p0), (2, .int p1), (3, .int p2)] := hl
  refine lv_aload_n hx hb dX8_planned_0 rfl (lv_at hl 0 rfl) ?_
  refine lv_iload_n hx hb dX8_planned_1 rfl (lv_at hl 1 rfl) ?_
  have hPc := hP.sub (ws' := [(g, .inr (8, [.ref nw, .ref la, .ref pn])), (nw, .inr (6, [.int dy, .ref aI, .ref aS, .ref aP, .ref aL, .ref aO, .ref aT, .ref aA, .ref aQ])), (aI, .inr (0, [.int 0, .ref aI1, .ref aI2, .ref aI3, .ref aI4]))]) [0, 1, 2] rfl
  have hDc := hD.sub (ws' := [(g, .inr (8, [.ref nw, .ref la, .ref pn])), (nw, .inr (6, [.int dy, .ref aI, .ref aS, .ref aP, .ref aL, .ref aO, .ref aT, .ref aA, .ref aQ])), (aI, .inr (0, [.int 0, .ref aI1, .ref aI2, .ref aI3, .ref aI4]))]) [0, 1, 2] (by decide) rfl
  have hFc := va_free (wc := [(g, .inr (8, [.ref nw, .ref la, .ref pn])), (nw, .inr (6, [.int dy, .ref aI, .ref aS, .ref aP, .ref aL, .ref aO, .ref aT, .ref aA, .ref aQ])), (aI, .inr (0, [.int 0, .ref aI1, .ref aI2, .ref aI3, .ref aI4]))]) hD hS hA [0, 1, 2] rfl
  refine vx_callv (vx_runV (As := [.int p0]) (rest := []) ⟨hx, hb, hml, hown, hts⟩ (c_needItem l hl9 D cI cZ cJ lo s.heap.size g nw la pn dy aI aS aP aL aO aT aA aQ aI1 aI2 aI3 aI4 p0) (cwV 1 hts gX8_planned_X8_needItem rfl rfl rfl (by decide +kernel) ⟨(Nat.le_of_ble_eq_true rfl), (Nat.le_of_ble_eq_true rfl)⟩) ⟨Pre.blind, va_recv hK hP (ci := 8) (q0 := 0) rfl rfl, Pre.mk hPc (hDc.weaken (fun _ _ _ h => hAlo _ h)) hC hS hAlo⟩ rfl rfl hl.1 rfl (lv_room (Nat.le_of_ble_eq_true rfl)) dX8_planned_2 ⟨(Nat.le_of_ble_eq_true rfl), (Nat.le_of_ble_eq_true rfl)⟩) hS (fun q _ h => hFc q h) hFc (fun q _ h => hFc q h) (fun E ce q9 u t H1 locs1 ht hvm hpx hbx hz1 hk1 hS1 hce hcv hcl => ?_) (fun u t H1 locs1 ht hvm e_1 hB hz1 hk1 hS1 => ?_)
  · have px_2 : True := hpx
    have hE : E = "java/lang/IndexOutOfBoundsException" := hbx
    subst hE
    exact vx_out (fun x9 h9 => (ht9 x9 h9).elim) hlocks hce hcv hcl (fun t9 ht9b _ => ⟨(), trivial, rfl, hS1.F ht9b⟩) hS1.2.2 (by omega) (by omega)
  · exact False.elim e_1

set_option maxHeartbeats 4000000 in
set_option maxRecDepth 100000 in
/-- onHandIn on a fresh object: throws -/
theorem c_onHandIn (l : Launch) (hl9 : l.stackTraces = false) (D : va_G) (cI cZ cJ : ClassId) (lo sz : Nat) (g : Nat) (nw : Nat) (la : Nat) (pn : Nat) (dy : Int32) (aI : Nat) (aS : Nat) (aP : Nat) (aL : Nat) (aO : Nat) (aT : Nat) (aA : Nat) (aQ : Nat) (aI1 : Nat) (aI2 : Nat) (aI3 : Nat) (aI4 : Nat) (p0 : Int32) (p1 : Int32) (p2 : Int32) : vx_Met l yX8_onHandIn wsX8_onHandIn ({ frames := 8, cells := 1, slots := 6, locals := 123 }) (Pre lo D cI cZ cJ [.ref g, .int p0, .int p1, .int p2] sz [(g, .inr (8, [.ref nw, .ref la, .ref pn])), (nw, .inr (6, [.int dy, .ref aI, .ref aS, .ref aP, .ref aL, .ref aO, .ref aT, .ref aA, .ref aQ])), (aI, .inr (0, [.int 0, .ref aI1, .ref aI2, .ref aI3, .ref aI4]))]) (va_Qi (fun (r : Int32) (_ : Unit) => False) (fun _ t => True) (va_A [(g, .inr (8, [.ref nw, .ref la, .ref pn])), (nw, .inr (6, [.int dy, .ref aI, .ref aS, .ref aP, .ref aL, .ref aO, .ref aT, .ref aA, .ref aQ])), (aI, .inr (0, [.int 0, .ref aI1, .ref aI2, .ref aI3, .ref aI4]))] sz)) (vx_X (fun _ : Unit => True) (fun E _ _ => E = "java/lang/IndexOutOfBoundsException") (va_A [(g, .inr (8, [.ref nw, .ref la, .ref pn])), (nw, .inr (6, [.int dy, .ref aI, .ref aS, .ref aP, .ref aL, .ref aO, .ref aT, .ref aA, .ref aQ])), (aI, .inr (0, [.int 0, .ref aI1, .ref aI2, .ref aI3, .ref aI4]))] sz)) 1 6 (va_A [(g, .inr (8, [.ref nw, .ref la, .ref pn])), (nw, .inr (6, [.int dy, .ref aI, .ref aS, .ref aP, .ref aL, .ref aO, .ref aT, .ref aA, .ref aQ])), (aI, .inr (0, [.int 0, .ref aI1, .ref aI2, .ref aI3, .ref aI4]))] sz) := by
  refine vx_ofW (cc := cX8_onHandIn) (maxL := 4) (ret := (some .int)) (by decide) rfl ?_
  intro p e s m args below meth c s₁ B hml ht9 hv
  obtain ⟨rfl, hsz, hP, hD0, hC⟩ := hv
  have hx := B.exec
  have hb := B.bytes
  have hr := B.returns
  have hts := atoms_spec (ws := wsX8_onHandIn) B.pre
  have hown : s.vm.findClass RX8 = some m.cls := findClass_of_methodNamed B.named
  have hlocks := B.notSynchronized
  subst hsz
  have hK := hC.K
  have hD := hD0.self (sz := s.heap.size)
  have hAlo0 := va_A_lo hD0 hC.1
  generalize hAe : va_A [(g, .inr (8, [.ref nw, .ref la, .ref pn])), (nw, .inr (6, [.int dy, .ref aI, .ref aS, .ref aP, .ref aL, .ref aO, .ref aT, .ref aA, .ref aQ])), (aI, .inr (0, [.int 0, .ref aI1, .ref aI2, .ref aI3, .ref aI4]))] s.heap.size = A at hD hAlo0 ⊢
  have hA : ∀ q : Nat, s.heap.size ≤ q → A q := fun q h => by rw [← hAe]; exact Or.inr h
  have hAlo : ∀ q, A q → lo ≤ q := hAlo0
  have hS : va_S A s.heap s.heap [] := va_S.rf
  have hP : va_P D vwCl [(g, .inr (8, [.ref nw, .ref la, .ref pn])), (nw, .inr (6, [.int dy, .ref aI, .ref aS, .ref aP, .ref aL, .ref aO, .ref aT, .ref aA, .ref aQ])), (aI, .inr (0, [.int 0, .ref aI1, .ref aI2, .ref aI3, .ref aI4]))] s.heap := hP
  have hl := lv_entry ([.ref g, .int p0, .int p1, .int p2]) (n := 4) (Nat.le_of_ble_eq_true rfl)
  rw [lg_entry_eq]
  generalize (lg_sl ([.ref g, .int p0, .int p1, .int p2]) ++ List.replicate (4 - (lg_sl ([.ref g, .int p0, .int p1, .int p2])).length) Slot.unset).toArray = ls at hl ⊢
  have hl : lv_has ls 4 [(0, .ref g), (1, .int p0), (2, .int p1), (3, .int p2)] := hl
  refine lv_aload_n hx hb dX8_onHandIn_0 rfl (lv_at hl 0 rfl) ?_
  refine lv_iload_n hx hb dX8_onHandIn_1 rfl (lv_at hl 1 rfl) ?_
  have hPc := hP.sub (ws' := [(g, .inr (8, [.ref nw, .ref la, .ref pn])), (nw, .inr (6, [.int dy, .ref aI, .ref aS, .ref aP, .ref aL, .ref aO, .ref aT, .ref aA, .ref aQ])), (aI, .inr (0, [.int 0, .ref aI1, .ref aI2, .ref aI3, .ref aI4]))]) [0, 1, 2] rfl
  have hDc := hD.sub (ws' := [(g, .inr (8, [.ref nw, .ref la, .ref pn])), (nw, .inr (6, [.int dy, .ref aI, .ref aS, .ref aP, .ref aL, .ref aO, .ref aT, .ref aA, .ref aQ])), (aI, .inr (0, [.int 0, .ref aI1, .ref aI2, .ref aI3, .ref aI4]))]) [0, 1, 2] (by decide) rfl
  have hFc := va_free (wc := [(g, .inr (8, [.ref nw, .ref la, .ref pn])), (nw, .inr (6, [.int dy, .ref aI, .ref aS, .ref aP, .ref aL, .ref aO, .ref aT, .ref aA, .ref aQ])), (aI, .inr (0, [.int 0, .ref aI1, .ref aI2, .ref aI3, .ref aI4]))]) hD hS hA [0, 1, 2] rfl
  refine vx_callv (vx_runV (As := [.int p0]) (rest := []) ⟨hx, hb, hml, hown, hts⟩ (c_needItem l hl9 D cI cZ cJ lo s.heap.size g nw la pn dy aI aS aP aL aO aT aA aQ aI1 aI2 aI3 aI4 p0) (cwV 1 hts gX8_onHandIn_X8_needItem rfl rfl rfl (by decide +kernel) ⟨(Nat.le_of_ble_eq_true rfl), (Nat.le_of_ble_eq_true rfl)⟩) ⟨Pre.blind, va_recv hK hP (ci := 8) (q0 := 0) rfl rfl, Pre.mk hPc (hDc.weaken (fun _ _ _ h => hAlo _ h)) hC hS hAlo⟩ rfl rfl hl.1 rfl (lv_room (Nat.le_of_ble_eq_true rfl)) dX8_onHandIn_2 ⟨(Nat.le_of_ble_eq_true rfl), (Nat.le_of_ble_eq_true rfl)⟩) hS (fun q _ h => hFc q h) hFc (fun q _ h => hFc q h) (fun E ce q9 u t H1 locs1 ht hvm hpx hbx hz1 hk1 hS1 hce hcv hcl => ?_) (fun u t H1 locs1 ht hvm e_1 hB hz1 hk1 hS1 => ?_)
  · have px_2 : True := hpx
    have hE : E = "java/lang/IndexOutOfBoundsException" := hbx
    subst hE
    exact vx_out (fun x9 h9 => (ht9 x9 h9).elim) hlocks hce hcv hcl (fun t9 ht9b _ => ⟨(), trivial, rfl, hS1.F ht9b⟩) hS1.2.2 (by omega) (by omega)
  · exact False.elim e_1

set_option maxHeartbeats 4000000 in
set_option maxRecDepth 100000 in
/-- shippedOn on a fresh object: throws -/
theorem c_shippedOn (l : Launch) (hl9 : l.stackTraces = false) (D : va_G) (cI cZ cJ : ClassId) (lo sz : Nat) (g : Nat) (nw : Nat) (la : Nat) (pn : Nat) (dy : Int32) (aI : Nat) (aS : Nat) (aP : Nat) (aL : Nat) (aO : Nat) (aT : Nat) (aA : Nat) (aQ : Nat) (aO1 : Nat) (aO2 : Nat) (aO3 : Nat) (aO4 : Nat) (aO5 : Nat) (aO6 : Nat) (aO7 : Nat) (aO8 : Nat) (aO9 : Nat) (aO10 : Nat) (p0 : Int32) (p1 : Int32) : vx_Met l yX8_shippedOn wsX8_shippedOn ({ frames := 8, cells := 1, slots := 6, locals := 123 }) (Pre lo D cI cZ cJ [.ref g, .int p0, .int p1] sz [(g, .inr (8, [.ref nw, .ref la, .ref pn])), (nw, .inr (6, [.int dy, .ref aI, .ref aS, .ref aP, .ref aL, .ref aO, .ref aT, .ref aA, .ref aQ])), (aO, .inr (2, [.int 0, .ref aO1, .ref aO2, .ref aO3, .ref aO4, .ref aO5, .ref aO6, .ref aO7, .ref aO8, .ref aO9, .ref aO10]))]) (va_Qi (fun (r : Int32) (_ : Unit) => False) (fun _ t => True) (va_A [(g, .inr (8, [.ref nw, .ref la, .ref pn])), (nw, .inr (6, [.int dy, .ref aI, .ref aS, .ref aP, .ref aL, .ref aO, .ref aT, .ref aA, .ref aQ])), (aO, .inr (2, [.int 0, .ref aO1, .ref aO2, .ref aO3, .ref aO4, .ref aO5, .ref aO6, .ref aO7, .ref aO8, .ref aO9, .ref aO10]))] sz)) (vx_X (fun _ : Unit => True) (fun E _ _ => E = "java/lang/IndexOutOfBoundsException") (va_A [(g, .inr (8, [.ref nw, .ref la, .ref pn])), (nw, .inr (6, [.int dy, .ref aI, .ref aS, .ref aP, .ref aL, .ref aO, .ref aT, .ref aA, .ref aQ])), (aO, .inr (2, [.int 0, .ref aO1, .ref aO2, .ref aO3, .ref aO4, .ref aO5, .ref aO6, .ref aO7, .ref aO8, .ref aO9, .ref aO10]))] sz)) 1 6 (va_A [(g, .inr (8, [.ref nw, .ref la, .ref pn])), (nw, .inr (6, [.int dy, .ref aI, .ref aS, .ref aP, .ref aL, .ref aO, .ref aT, .ref aA, .ref aQ])), (aO, .inr (2, [.int 0, .ref aO1, .ref aO2, .ref aO3, .ref aO4, .ref aO5, .ref aO6, .ref aO7, .ref aO8, .ref aO9, .ref aO10]))] sz) := by
  refine vx_ofW (cc := cX8_shippedOn) (maxL := 4) (ret := (some .int)) (by decide) rfl ?_
  intro p e s m args below meth c s₁ B hml ht9 hv
  obtain ⟨rfl, hsz, hP, hD0, hC⟩ := hv
  have hx := B.exec
  have hb := B.bytes
  have hr := B.returns
  have hts := atoms_spec (ws := wsX8_shippedOn) B.pre
  have hown : s.vm.findClass RX8 = some m.cls := findClass_of_methodNamed B.named
  have hlocks := B.notSynchronized
  subst hsz
  have hK := hC.K
  have hD := hD0.self (sz := s.heap.size)
  have hAlo0 := va_A_lo hD0 hC.1
  generalize hAe : va_A [(g, .inr (8, [.ref nw, .ref la, .ref pn])), (nw, .inr (6, [.int dy, .ref aI, .ref aS, .ref aP, .ref aL, .ref aO, .ref aT, .ref aA, .ref aQ])), (aO, .inr (2, [.int 0, .ref aO1, .ref aO2, .ref aO3, .ref aO4, .ref aO5, .ref aO6, .ref aO7, .ref aO8, .ref aO9, .ref aO10]))] s.heap.size = A at hD hAlo0 ⊢
  have hA : ∀ q : Nat, s.heap.size ≤ q → A q := fun q h => by rw [← hAe]; exact Or.inr h
  have hAlo : ∀ q, A q → lo ≤ q := hAlo0
  have hS : va_S A s.heap s.heap [] := va_S.rf
  have hP : va_P D vwCl [(g, .inr (8, [.ref nw, .ref la, .ref pn])), (nw, .inr (6, [.int dy, .ref aI, .ref aS, .ref aP, .ref aL, .ref aO, .ref aT, .ref aA, .ref aQ])), (aO, .inr (2, [.int 0, .ref aO1, .ref aO2, .ref aO3, .ref aO4, .ref aO5, .ref aO6, .ref aO7, .ref aO8, .ref aO9, .ref aO10]))] s.heap := hP
  have hl := lv_entry ([.ref g, .int p0, .int p1]) (n := 4) (Nat.le_of_ble_eq_true rfl)
  rw [lg_entry_eq]
  generalize (lg_sl ([.ref g, .int p0, .int p1]) ++ List.replicate (4 - (lg_sl ([.ref g, .int p0, .int p1])).length) Slot.unset).toArray = ls at hl ⊢
  have hl : lv_has ls 4 [(0, .ref g), (1, .int p0), (2, .int p1)] := hl
  refine lv_aload_n hx hb dX8_shippedOn_0 rfl (lv_at hl 0 rfl) ?_
  refine lv_iload_n hx hb dX8_shippedOn_1 rfl (lv_at hl 1 rfl) ?_
  have hPc := hP.sub (ws' := [(g, .inr (8, [.ref nw, .ref la, .ref pn])), (nw, .inr (6, [.int dy, .ref aI, .ref aS, .ref aP, .ref aL, .ref aO, .ref aT, .ref aA, .ref aQ])), (aO, .inr (2, [.int 0, .ref aO1, .ref aO2, .ref aO3, .ref aO4, .ref aO5, .ref aO6, .ref aO7, .ref aO8, .ref aO9, .ref aO10]))]) [0, 1, 2] rfl
  have hDc := hD.sub (ws' := [(g, .inr (8, [.ref nw, .ref la, .ref pn])), (nw, .inr (6, [.int dy, .ref aI, .ref aS, .ref aP, .ref aL, .ref aO, .ref aT, .ref aA, .ref aQ])), (aO, .inr (2, [.int 0, .ref aO1, .ref aO2, .ref aO3, .ref aO4, .ref aO5, .ref aO6, .ref aO7, .ref aO8, .ref aO9, .ref aO10]))]) [0, 1, 2] (by decide) rfl
  have hFc := va_free (wc := [(g, .inr (8, [.ref nw, .ref la, .ref pn])), (nw, .inr (6, [.int dy, .ref aI, .ref aS, .ref aP, .ref aL, .ref aO, .ref aT, .ref aA, .ref aQ])), (aO, .inr (2, [.int 0, .ref aO1, .ref aO2, .ref aO3, .ref aO4, .ref aO5, .ref aO6, .ref aO7, .ref aO8, .ref aO9, .ref aO10]))]) hD hS hA [0, 1, 2] rfl
  refine vx_callv (vx_runV (As := [.int p0]) (rest := []) ⟨hx, hb, hml, hown, hts⟩ (c_needOrder l hl9 D cI cZ cJ lo s.heap.size g nw la pn dy aI aS aP aL aO aT aA aQ aO1 aO2 aO3 aO4 aO5 aO6 aO7 aO8 aO9 aO10 p0) (cwV 1 hts gX8_shippedOn_X8_needOrder rfl rfl rfl (by decide +kernel) ⟨(Nat.le_of_ble_eq_true rfl), (Nat.le_of_ble_eq_true rfl)⟩) ⟨Pre.blind, va_recv hK hP (ci := 8) (q0 := 0) rfl rfl, Pre.mk hPc (hDc.weaken (fun _ _ _ h => hAlo _ h)) hC hS hAlo⟩ rfl rfl hl.1 rfl (lv_room (Nat.le_of_ble_eq_true rfl)) dX8_shippedOn_2 ⟨(Nat.le_of_ble_eq_true rfl), (Nat.le_of_ble_eq_true rfl)⟩) hS (fun q _ h => hFc q h) hFc (fun q _ h => hFc q h) (fun E ce q9 u t H1 locs1 ht hvm hpx hbx hz1 hk1 hS1 hce hcv hcl => ?_) (fun u t H1 locs1 ht hvm e_1 hB hz1 hk1 hS1 => ?_)
  · have px_2 : True := hpx
    have hE : E = "java/lang/IndexOutOfBoundsException" := hbx
    subst hE
    exact vx_out (fun x9 h9 => (ht9 x9 h9).elim) hlocks hce hcv hcl (fun t9 ht9b _ => ⟨(), trivial, rfl, hS1.F ht9b⟩) hS1.2.2 (by omega) (by omega)
  · exact False.elim e_1

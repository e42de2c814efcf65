set_option maxHeartbeats 4000000 in
set_option maxRecDepth 100000 in
/-- the law at a call of lots -/
theorem law_lots {p : Program} {l : Launch} {e : Env} {s : State} {m : MethodId} {below : List Frame} {meth : Method} {c : Code} {Q : State → Prop} (hl9 : l.stackTraces = false) (D : va_G) (cI cZ cJ : ClassId) (b : Nat) (xs : Nat → Int32) (C0 : LC s p m c D cI cZ cJ b xs) (g : Nat) (nw : Nat) (la : Nat) (pn : Nat) (aI : Nat) (aS : Nat) (aP : Nat) (aL : Nat) (aO : Nat) (aT : Nat) (aA : Nat) (aQ : Nat) (aL1 : Nat) (aL2 : Nat) (aL3 : Nat) (aL4 : Nat) (aL5 : Nat) (mm : Nat) (w : Nat) (b2 : Nat) (b3 : Nat) (b4 : Nat) (b5 : Nat) (b7 : Nat) (b8 : Nat) (b9 : Nat) (b10 : Nat) (b11 : Nat) (b12 : Nat) (b14 : Nat) (b15 : Nat) (b16 : Nat) (b17 : Nat) (b19 : Nat) (b20 : Nat) (b21 : Nat) (b22 : Nat) (b23 : Nat) (b24 : Nat) (b25 : Nat) (b26 : Nat) (b27 : Nat) (b29 : Nat) (b30 : Nat) (b31 : Nat) (b32 : Nat) (b33 : Nat) (b34 : Nat) (b35 : Nat) (ou : Nat) (T : LT p l e s m below meth c b Q) {H : Heap} {locs : List Loc} {ls : Array Slot} (hP : va_P D vwCl [(g, .inr (8, [.ref nw, .ref la, .ref pn])), (nw, .inr (6, [.int 0, .ref aI, .ref aS, .ref aP, .ref aL, .ref aO, .ref aT, .ref aA, .ref aQ])), (aL, .inr (1, [.int 0, .ref aL1, .ref aL2, .ref aL3, .ref aL4, .ref aL5])), (mm, .inr (10, [.ref w, .int 0])), (w, .inr (9, [.int 0, .int 0, .ref b2, .ref b3, .ref b4, .ref b5, .int 0, .ref b7, .ref b8, .ref b9, .ref b10, .ref b11, .ref b12, .int 0, .ref b14, .ref b15, .ref b16, .ref b17, .int 0, .ref b19, .ref b20, .ref b21, .ref b22, .ref b23, .ref b24, .ref b25, .ref b26, .ref b27, .int 0, .ref b29, .ref b30, .ref b31, .ref b32, .ref b33, .ref b34, .ref b35]))] H) (hD : va_D (LA s) [(g, .inr (8, [.ref nw, .ref la, .ref pn])), (nw, .inr (6, [.int 0, .ref aI, .ref aS, .ref aP, .ref aL, .ref aO, .ref aT, .ref aA, .ref aQ])), (aL, .inr (1, [.int 0, .ref aL1, .ref aL2, .ref aL3, .ref aL4, .ref aL5])), (mm, .inr (10, [.ref w, .int 0])), (w, .inr (9, [.int 0, .int 0, .ref b2, .ref b3, .ref b4, .ref b5, .int 0, .ref b7, .ref b8, .ref b9, .ref b10, .ref b11, .ref b12, .int 0, .ref b14, .ref b15, .ref b16, .ref b17, .int 0, .ref b19, .ref b20, .ref b21, .ref b22, .ref b23, .ref b24, .ref b25, .ref b26, .ref b27, .int 0, .ref b29, .ref b30, .ref b31, .ref b32, .ref b33, .ref b34, .ref b35]))]) (hS : va_S (LA s) s.heap H locs) (hl : lv_has ls 9 [(0, .ref b), (1, .ref g), (2, .ref mm), (3, .ref ou), (4, .int 0)]) : W p l e room_1 s m #[Value.ref b] below meth c H locs 123 42908 Q (F0 m 1147 ls []) := by
  obtain ⟨hx, hb, hml, hown, hts, hX, hbl, hC⟩ := C0
  have hK := hC.K
  have hA : ∀ q : Nat, s.heap.size ≤ q → LA s q := fun _ h => h
  have hAlo : ∀ q, LA s q → s.heap.size ≤ q := fun _ h => h
  have hbA : ¬ LA s b := Nat.not_le.mpr hbl
  refine lv_aload_n hx hb dL_law_1147 rfl (lv_at hl 1 rfl) ?_
  have hPc := hP.sub (ws' := [(g, .inr (8, [.ref nw, .ref la, .ref pn])), (nw, .inr (6, [.int 0, .ref aI, .ref aS, .ref aP, .ref aL, .ref aO, .ref aT, .ref aA, .ref aQ])), (aL, .inr (1, [.int 0, .ref aL1, .ref aL2, .ref aL3, .ref aL4, .ref aL5]))]) [0, 1, 2] rfl
  have hDc := hD.sub (ws' := [(g, .inr (8, [.ref nw, .ref la, .ref pn])), (nw, .inr (6, [.int 0, .ref aI, .ref aS, .ref aP, .ref aL, .ref aO, .ref aT, .ref aA, .ref aQ])), (aL, .inr (1, [.int 0, .ref aL1, .ref aL2, .ref aL3, .ref aL4, .ref aL5]))]) [0, 1, 2] (by decide) rfl
  refine vp_callSi (W.runV (As := []) (rest := []) ⟨hx, hb, hml, hown, hts⟩ (c_lots l D cI cZ cJ s.heap.size H.size g nw la pn 0 aI aS aP aL aO aT aA aQ aL1 aL2 aL3 aL4 aL5) (cwV 0 hts gL_law_X8_lots rfl rfl rfl (by decide +kernel) ⟨(Nat.le_of_ble_eq_true rfl), (Nat.le_of_ble_eq_true rfl)⟩) ⟨Pre.blind, va_recv hK hP (ci := 8) (q0 := 0) rfl rfl, Pre.mk hPc (hDc.weaken (fun _ _ _ h => hAlo _ h)) hC hS hAlo⟩ rfl rfl hl.1 rfl (lv_room (Nat.le_of_ble_eq_true rfl)) dL_law_1148 ⟨(Nat.le_of_ble_eq_true rfl), (Nat.le_of_ble_eq_true rfl)⟩) (fun r_1 e_2 => ?_)
  clear hPc hDc
  have e_2 : 0 = r_1 := Eq.symm e_2
  subst e_2
  refine lv_aload_n hx hb dL_law_1151 rfl (lv_at hl 2 rfl) ?_
  have hPc := hP.sub (ws' := [(mm, .inr (10, [.ref w, .int 0])), (w, .inr (9, [.int 0, .int 0, .ref b2, .ref b3, .ref b4, .ref b5, .int 0, .ref b7, .ref b8, .ref b9, .ref b10, .ref b11, .ref b12, .int 0, .ref b14, .ref b15, .ref b16, .ref b17, .int 0, .ref b19, .ref b20, .ref b21, .ref b22, .ref b23, .ref b24, .ref b25, .ref b26, .ref b27, .int 0, .ref b29, .ref b30, .ref b31, .ref b32, .ref b33, .ref b34, .ref b35]))]) [3, 4] rfl
  have hDc := hD.sub (ws' := [(mm, .inr (10, [.ref w, .int 0])), (w, .inr (9, [.int 0, .int 0, .ref b2, .ref b3, .ref b4, .ref b5, .int 0, .ref b7, .ref b8, .ref b9, .ref b10, .ref b11, .ref b12, .int 0, .ref b14, .ref b15, .ref b16, .ref b17, .int 0, .ref b19, .ref b20, .ref b21, .ref b22, .ref b23, .ref b24, .ref b25, .ref b26, .ref b27, .int 0, .ref b29, .ref b30, .ref b31, .ref b32, .ref b33, .ref b34, .ref b35]))]) [3, 4] (by decide) rfl
  have hFc := va_free (wc := [(mm, .inr (10, [.ref w, .int 0])), (w, .inr (9, [.int 0, .int 0, .ref b2, .ref b3, .ref b4, .ref b5, .int 0, .ref b7, .ref b8, .ref b9, .ref b10, .ref b11, .ref b12, .int 0, .ref b14, .ref b15, .ref b16, .ref b17, .int 0, .ref b19, .ref b20, .ref b21, .ref b22, .ref b23, .ref b24, .ref b25, .ref b26, .ref b27, .int 0, .ref b29, .ref b30, .ref b31, .ref b32, .ref b33, .ref b34, .ref b35]))]) hD hS hA [3, 4] rfl
  refine va_calli (va_runV (As := []) (rest := [.int 0]) ⟨hx, hb, hml, hown, hts⟩ (m_lots l D cI cZ cJ s.heap.size H.size mm 0 w 0 b2 b3 b4 b5 b7 b8 b9 b10 b11 b12 b14 b15 b16 b17 b19 b20 b21 b22 b23 b24 b25 b26 b27 b29 b30 b31 b32 b33 b34 b35) (cwV 0 hts gL_law_X10_lots rfl rfl rfl (by decide +kernel) ⟨(Nat.le_of_ble_eq_true rfl), (Nat.le_of_ble_eq_true rfl)⟩) ⟨Pre.blind, va_recv hK hP (ci := 10) (q0 := 3) rfl rfl, Pre.mk hPc (hDc.weaken (fun _ _ _ h => hAlo _ h)) hC hS hAlo⟩ rfl rfl hl.1 rfl (lv_room (Nat.le_of_ble_eq_true rfl)) dL_law_1152 ⟨(Nat.le_of_ble_eq_true rfl), (Nat.le_of_ble_eq_true rfl)⟩) hS (fun q _ h => hFc q h) hFc (fun r_3 u t H1 locs1 ht hvm e_4 hB hz1 hk1 hS1 => ?_)
  have hS := hS1
  refine W.widen (k := 123) (n := 42908) (by omega) (by omega) ?_
  obtain ⟨hP, hD⟩ := va_rest (wr := [(g, .inr (8, [.ref nw, .ref la, .ref pn])), (nw, .inr (6, [.int 0, .ref aI, .ref aS, .ref aP, .ref aL, .ref aO, .ref aT, .ref aA, .ref aQ])), (aL, .inr (1, [.int 0, .ref aL1, .ref aL2, .ref aL3, .ref aL4, .ref aL5]))]) hP hD [3, 4] [0, 1, 2] rfl rfl (by decide) (by decide) hk1 hFc
  have e_4 : 0 = r_3 := Eq.symm e_4
  subst e_4
  clear hFc hPc hDc ht hvm hz1 hk1 hS1 hB
  generalize H1 = H at hP hS ⊢
  replace hP : va_P D vwCl [(g, .inr (8, [.ref nw, .ref la, .ref pn])), (nw, .inr (6, [.int 0, .ref aI, .ref aS, .ref aP, .ref aL, .ref aO, .ref aT, .ref aA, .ref aQ])), (aL, .inr (1, [.int 0, .ref aL1, .ref aL2, .ref aL3, .ref aL4, .ref aL5]))] H := hP
  replace hD : va_D (LA s) [(g, .inr (8, [.ref nw, .ref la, .ref pn])), (nw, .inr (6, [.int 0, .ref aI, .ref aS, .ref aP, .ref aL, .ref aO, .ref aT, .ref aA, .ref aQ])), (aL, .inr (1, [.int 0, .ref aL1, .ref aL2, .ref aL3, .ref aL4, .ref aL5]))] := hD
  refine lv_icmp_eq (tgt := 2855) hx hb dL_law_1155 (by decide) (fun _ => ?_) (fun c9 => absurd (show (0 : Int32) = (0 : Int32) from (by decide)) c9)
  refine W.widen (k := 1000) (n := 200000) (Nat.le_of_ble_eq_true rfl) (Nat.le_of_ble_eq_true rfl) ?_
  exact T H _ ls hS (lv_sub hl [0, 4] rfl)

set_option maxHeartbeats 4000000 in
set_option maxRecDepth 100000 in
/-- the law at a call of orders -/
theorem law_orders {p : Program} {l : Launch} {e : Env} {s : State} {m : MethodId} {below : List Frame} {meth : Method} {c : Code} {Q : State → Prop} (hl9 : l.stackTraces = false) (D : va_G) (cI cZ cJ : ClassId) (b : Nat) (xs : Nat → Int32) (C0 : LC s p m c D cI cZ cJ b xs) (g : Nat) (nw : Nat) (la : Nat) (pn : Nat) (aI : Nat) (aS : Nat) (aP : Nat) (aL : Nat) (aO : Nat) (aT : Nat) (aA : Nat) (aQ : Nat) (aO1 : Nat) (aO2 : Nat) (aO3 : Nat) (aO4 : Nat) (aO5 : Nat) (aO6 : Nat) (aO7 : Nat) (aO8 : Nat) (aO9 : Nat) (aO10 : Nat) (mm : Nat) (w : Nat) (b2 : Nat) (b3 : Nat) (b4 : Nat) (b5 : Nat) (b7 : Nat) (b8 : Nat) (b9 : Nat) (b10 : Nat) (b11 : Nat) (b12 : Nat) (b14 : Nat) (b15 : Nat) (b16 : Nat) (b17 : Nat) (b19 : Nat) (b20 : Nat) (b21 : Nat) (b22 : Nat) (b23 : Nat) (b24 : Nat) (b25 : Nat) (b26 : Nat) (b27 : Nat) (b29 : Nat) (b30 : Nat) (b31 : Nat) (b32 : Nat) (b33 : Nat) (b34 : Nat) (b35 : Nat) (ou : Nat) (T : LT p l e s m below meth c b Q) {H : Heap} {locs : List Loc} {ls : Array Slot} (hP : va_P D vwCl [(g, .inr (8, [.ref nw, .ref la, .ref pn])), (nw, .inr (6, [.int 0, .ref aI, .ref aS, .ref aP, .ref aL, .ref aO, .ref aT, .ref aA, .ref aQ])), (aO, .inr (2, [.int 0, .ref aO1, .ref aO2, .ref aO3, .ref aO4, .ref aO5, .ref aO6, .ref aO7, .ref aO8, .ref aO9, .ref aO10])), (mm, .inr (10, [.ref w, .int 0])), (w, .inr (9, [.int 0, .int 0, .ref b2, .ref b3, .ref b4, .ref b5, .int 0, .ref b7, .ref b8, .ref b9, .ref b10, .ref b11, .ref b12, .int 0, .ref b14, .ref b15, .ref b16, .ref b17, .int 0, .ref b19, .ref b20, .ref b21, .ref b22, .ref b23, .ref b24, .ref b25, .ref b26, .ref b27, .int 0, .ref b29, .ref b30, .ref b31, .ref b32, .ref b33, .ref b34, .ref b35]))] H) (hD : va_D (LA s) [(g, .inr (8, [.ref nw, .ref la, .ref pn])), (nw, .inr (6, [.int 0, .ref aI, .ref aS, .ref aP, .ref aL, .ref aO, .ref aT, .ref aA, .ref aQ])), (aO, .inr (2, [.int 0, .ref aO1, .ref aO2, .ref aO3, .ref aO4, .ref aO5, .ref aO6, .ref aO7, .ref aO8, .ref aO9, .ref aO10])), (mm, .inr (10, [.ref w, .int 0])), (w, .inr (9, [.int 0, .int 0, .ref b2, .ref b3, .ref b4, .ref b5, .int 0, .ref b7, .ref b8, .ref b9, .ref b10, .ref b11, .ref b12, .int 0, .ref b14, .ref b15, .ref b16, .ref b17, .int 0, .ref b19, .ref b20, .ref b21, .ref b22, .ref b23, .ref b24, .ref b25, .ref b26, .ref b27, .int 0, .ref b29, .ref b30, .ref b31, .ref b32, .ref b33, .ref b34, .ref b35]))]) (hS : va_S (LA s) s.heap H locs) (hl : lv_has ls 9 [(0, .ref b), (1, .ref g), (2, .ref mm), (3, .ref ou), (4, .int 0)]) : W p l e room_1 s m #[Value.ref b] below meth c H locs 123 42908 Q (F0 m 1160 ls []) := by
  obtain ⟨hx, hb, hml, hown, hts, hX, hbl, hC⟩ := C0
  have hK := hC.K
  have hA : ∀ q : Nat, s.heap.size ≤ q → LA s q := fun _ h => h
  have hAlo : ∀ q, LA s q → s.heap.size ≤ q := fun _ h => h
  have hbA : ¬ LA s b := Nat.not_le.mpr hbl
  refine lv_aload_n hx hb dL_law_1160 rfl (lv_at hl 1 rfl) ?_
  have hPc := hP.sub (ws' := [(g, .inr (8, [.ref nw, .ref la, .ref pn])), (nw, .inr (6, [.int 0, .ref aI, .ref aS, .ref aP, .ref aL, .ref aO, .ref aT, .ref aA, .ref aQ])), (aO, .inr (2, [.int 0, .ref aO1, .ref aO2, .ref aO3, .ref aO4, .ref aO5, .ref aO6, .ref aO7, .ref aO8, .ref aO9, .ref aO10]))]) [0, 1, 2] rfl
  have hDc := hD.sub (ws' := [(g, .inr (8, [.ref nw, .ref la, .ref pn])), (nw, .inr (6, [.int 0, .ref aI, .ref aS, .ref aP, .ref aL, .ref aO, .ref aT, .ref aA, .ref aQ])), (aO, .inr (2, [.int 0, .ref aO1, .ref aO2, .ref aO3, .ref aO4, .ref aO5, .ref aO6, .ref aO7, .ref aO8, .ref aO9, .ref aO10]))]) [0, 1, 2] (by decide) rfl
  refine vp_callSi (W.runV (As := []) (rest := []) ⟨hx, hb, hml, hown, hts⟩ (c_orders l D cI cZ cJ s.heap.size H.size g nw la pn 0 aI aS aP aL aO aT aA aQ aO1 aO2 aO3 aO4 aO5 aO6 aO7 aO8 aO9 aO10) (cwV 0 hts gL_law_X8_orders rfl rfl rfl (by decide +kernel) ⟨(Nat.le_of_ble_eq_true rfl), (Nat.le_of_ble_eq_true rfl)⟩) ⟨Pre.blind, va_recv hK hP (ci := 8) (q0 := 0) rfl rfl, Pre.mk hPc (hDc.weaken (fun _ _ _ h => hAlo _ h)) hC hS hAlo⟩ rfl rfl hl.1 rfl (lv_room (Nat.le_of_ble_eq_true rfl)) dL_law_1161 ⟨(Nat.le_of_ble_eq_true rfl), (Nat.le_of_ble_eq_true rfl)⟩) (fun r_1 e_2 => ?_)
  clear hPc hDc
  have e_2 : 0 = r_1 := Eq.symm e_2
  subst e_2
  refine lv_aload_n hx hb dL_law_1164 rfl (lv_at hl 2 rfl) ?_
  have hPc := hP.sub (ws' := [(mm, .inr (10, [.ref w, .int 0])), (w, .inr (9, [.int 0, .int 0, .ref b2, .ref b3, .ref b4, .ref b5, .int 0, .ref b7, .ref b8, .ref b9, .ref b10, .ref b11, .ref b12, .int 0, .ref b14, .ref b15, .ref b16, .ref b17, .int 0, .ref b19, .ref b20, .ref b21, .ref b22, .ref b23, .ref b24, .ref b25, .ref b26, .ref b27, .int 0, .ref b29, .ref b30, .ref b31, .ref b32, .ref b33, .ref b34, .ref b35]))]) [3, 4] rfl
  have hDc := hD.sub (ws' := [(mm, .inr (10, [.ref w, .int 0])), (w, .inr (9, [.int 0, .int 0, .ref b2, .ref b3, .ref b4, .ref b5, .int 0, .ref b7, .ref b8, .ref b9, .ref b10, .ref b11, .ref b12, .int 0, .ref b14, .ref b15, .ref b16, .ref b17, .int 0, .ref b19, .ref b20, .ref b21, .ref b22, .ref b23, .ref b24, .ref b25, .ref b26, .ref b27, .int 0, .ref b29, .ref b30, .ref b31, .ref b32, .ref b33, .ref b34, .ref b35]))]) [3, 4] (by decide) rfl
  have hFc := va_free (wc := [(mm, .inr (10, [.ref w, .int 0])), (w, .inr (9, [.int 0, .int 0, .ref b2, .ref b3, .ref b4, .ref b5, .int 0, .ref b7, .ref b8, .ref b9, .ref b10, .ref b11, .ref b12, .int 0, .ref b14, .ref b15, .ref b16, .ref b17, .int 0, .ref b19, .ref b20, .ref b21, .ref b22, .ref b23, .ref b24, .ref b25, .ref b26, .ref b27, .int 0, .ref b29, .ref b30, .ref b31, .ref b32, .ref b33, .ref b34, .ref b35]))]) hD hS hA [3, 4] rfl
  refine va_calli (va_runV (As := []) (rest := [.int 0]) ⟨hx, hb, hml, hown, hts⟩ (m_orders l D cI cZ cJ s.heap.size H.size mm 0 w 0 b2 b3 b4 b5 b7 b8 b9 b10 b11 b12 b14 b15 b16 b17 b19 b20 b21 b22 b23 b24 b25 b26 b27 b29 b30 b31 b32 b33 b34 b35) (cwV 0 hts gL_law_X10_orders rfl rfl rfl (by decide +kernel) ⟨(Nat.le_of_ble_eq_true rfl), (Nat.le_of_ble_eq_true rfl)⟩) ⟨Pre.blind, va_recv hK hP (ci := 10) (q0 := 3) rfl rfl, Pre.mk hPc (hDc.weaken (fun _ _ _ h => hAlo _ h)) hC hS hAlo⟩ rfl rfl hl.1 rfl (lv_room (Nat.le_of_ble_eq_true rfl)) dL_law_1165 ⟨(Nat.le_of_ble_eq_true rfl), (Nat.le_of_ble_eq_true rfl)⟩) hS (fun q _ h => hFc q h) hFc (fun r_3 u t H1 locs1 ht hvm e_4 hB hz1 hk1 hS1 => ?_)
  have hS := hS1
  refine W.widen (k := 123) (n := 42908) (by omega) (by omega) ?_
  obtain ⟨hP, hD⟩ := va_rest (wr := [(g, .inr (8, [.ref nw, .ref la, .ref pn])), (nw, .inr (6, [.int 0, .ref aI, .ref aS, .ref aP, .ref aL, .ref aO, .ref aT, .ref aA, .ref aQ])), (aO, .inr (2, [.int 0, .ref aO1, .ref aO2, .ref aO3, .ref aO4, .ref aO5, .ref aO6, .ref aO7, .ref aO8, .ref aO9, .ref aO10]))]) hP hD [3, 4] [0, 1, 2] rfl rfl (by decide) (by decide) hk1 hFc
  have e_4 : 0 = r_3 := Eq.symm e_4
  subst e_4
  clear hFc hPc hDc ht hvm hz1 hk1 hS1 hB
  generalize H1 = H at hP hS ⊢
  replace hP : va_P D vwCl [(g, .inr (8, [.ref nw, .ref la, .ref pn])), (nw, .inr (6, [.int 0, .ref aI, .ref aS, .ref aP, .ref aL, .ref aO, .ref aT, .ref aA, .ref aQ])), (aO, .inr (2, [.int 0, .ref aO1, .ref aO2, .ref aO3, .ref aO4, .ref aO5, .ref aO6, .ref aO7, .ref aO8, .ref aO9, .ref aO10]))] H := hP
  replace hD : va_D (LA s) [(g, .inr (8, [.ref nw, .ref la, .ref pn])), (nw, .inr (6, [.int 0, .ref aI, .ref aS, .ref aP, .ref aL, .ref aO, .ref aT, .ref aA, .ref aQ])), (aO, .inr (2, [.int 0, .ref aO1, .ref aO2, .ref aO3, .ref aO4, .ref aO5, .ref aO6, .ref aO7, .ref aO8, .ref aO9, .ref aO10]))] := hD
  refine lv_icmp_eq (tgt := 2855) hx hb dL_law_1168 (by decide) (fun _ => ?_) (fun c9 => absurd (show (0 : Int32) = (0 : Int32) from (by decide)) c9)
  refine W.widen (k := 1000) (n := 200000) (Nat.le_of_ble_eq_true rfl) (Nat.le_of_ble_eq_true rfl) ?_
  exact T H _ ls hS (lv_sub hl [0, 4] rfl)

set_option maxHeartbeats 4000000 in
set_option maxRecDepth 100000 in
/-- the law at a call of transports -/
theorem law_transports {p : Program} {l : Launch} {e : Env} {s : State} {m : MethodId} {below : List Frame} {meth : Method} {c : Code} {Q : State → Prop} (hl9 : l.stackTraces = false) (D : va_G) (cI cZ cJ : ClassId) (b : Nat) (xs : Nat → Int32) (C0 : LC s p m c D cI cZ cJ b xs) (g : Nat) (nw : Nat) (la : Nat) (pn : Nat) (aI : Nat) (aS : Nat) (aP : Nat) (aL : Nat) (aO : Nat) (aT : Nat) (aA : Nat) (aQ : Nat) (aT1 : Nat) (aT2 : Nat) (aT3 : Nat) (aT4 : Nat) (aT5 : Nat) (aT6 : Nat) (mm : Nat) (w : Nat) (b2 : Nat) (b3 : Nat) (b4 : Nat) (b5 : Nat) (b7 : Nat) (b8 : Nat) (b9 : Nat) (b10 : Nat) (b11 : Nat) (b12 : Nat) (b14 : Nat) (b15 : Nat) (b16 : Nat) (b17 : Nat) (b19 : Nat) (b20 : Nat) (b21 : Nat) (b22 : Nat) (b23 : Nat) (b24 : Nat) (b25 : Nat) (b26 : Nat) (b27 : Nat) (b29 : Nat) (b30 : Nat) (b31 : Nat) (b32 : Nat) (b33 : Nat) (b34 : Nat) (b35 : Nat) (ou : Nat) (T : LT p l e s m below meth c b Q) {H : Heap} {locs : List Loc} {ls : Array Slot} (hP : va_P D vwCl [(g, .inr (8, [.ref nw, .ref la, .ref pn])), (nw, .inr (6, [.int 0, .ref aI, .ref aS, .ref aP, .ref aL, .ref aO, .ref aT, .ref aA, .ref aQ])), (aT, .inr (7, [.int 0, .ref aT1, .ref aT2, .ref aT3, .ref aT4, .ref aT5, .ref aT6])), (mm, .inr (10, [.ref w, .int 0])), (w, .inr (9, [.int 0, .int 0, .ref b2, .ref b3, .ref b4, .ref b5, .int 0, .ref b7, .ref b8, .ref b9, .ref b10, .ref b11, .ref b12, .int 0, .ref b14, .ref b15, .ref b16, .ref b17, .int 0, .ref b19, .ref b20, .ref b21, .ref b22, .ref b23, .ref b24, .ref b25, .ref b26, .ref b27, .int 0, .ref b29, .ref b30, .ref b31, .ref b32, .ref b33, .ref b34, .ref b35]))] H) (hD : va_D (LA s) [(g, .inr (8, [.ref nw, .ref la, .ref pn])), (nw, .inr (6, [.int 0, .ref aI, .ref aS, .ref aP, .ref aL, .ref aO, .ref aT, .ref aA, .ref aQ])), (aT, .inr (7, [.int 0, .ref aT1, .ref aT2, .ref aT3, .ref aT4, .ref aT5, .ref aT6])), (mm, .inr (10, [.ref w, .int 0])), (w, .inr (9, [.int 0, .int 0, .ref b2, .ref b3, .ref b4, .ref b5, .int 0, .ref b7, .ref b8, .ref b9, .ref b10, .ref b11, .ref b12, .int 0, .ref b14, .ref b15, .ref b16, .ref b17, .int 0, .ref b19, .ref b20, .ref b21, .ref b22, .ref b23, .ref b24, .ref b25, .ref b26, .ref b27, .int 0, .ref b29, .ref b30, .ref b31, .ref b32, .ref b33, .ref b34, .ref b35]))]) (hS : va_S (LA s) s.heap H locs) (hl : lv_has ls 9 [(0, .ref b), (1, .ref g), (2, .ref mm), (3, .ref ou), (4, .int 0)]) : W p l e room_1 s m #[Value.ref b] below meth c H locs 123 42908 Q (F0 m 1173 ls []) := by
  obtain ⟨hx, hb, hml, hown, hts, hX, hbl, hC⟩ := C0
  have hK := hC.K
  have hA : ∀ q : Nat, s.heap.size ≤ q → LA s q := fun _ h => h
  have hAlo : ∀ q, LA s q → s.heap.size ≤ q := fun _ h => h
  have hbA : ¬ LA s b := Nat.not_le.mpr hbl
  refine lv_aload_n hx hb dL_law_1173 rfl (lv_at hl 1 rfl) ?_
  have hPc := hP.sub (ws' := [(g, .inr (8, [.ref nw, .ref la, .ref pn])), (nw, .inr (6, [.int 0, .ref aI, .ref aS, .ref aP, .ref aL, .ref aO, .ref aT, .ref aA, .ref aQ])), (aT, .inr (7, [.int 0, .ref aT1, .ref aT2, .ref aT3, .ref aT4, .ref aT5, .ref aT6]))]) [0, 1, 2] rfl
  have hDc := hD.sub (ws' := [(g, .inr (8, [.ref nw, .ref la, .ref pn])), (nw, .inr (6, [.int 0, .ref aI, .ref aS, .ref aP, .ref aL, .ref aO, .ref aT, .ref aA, .ref aQ])), (aT, .inr (7, [.int 0, .ref aT1, .ref aT2, .ref aT3, .ref aT4, .ref aT5, .ref aT6]))]) [0, 1, 2] (by decide) rfl
  refine vp_callSi (W.runV (As := []) (rest := []) ⟨hx, hb, hml, hown, hts⟩ (c_transports l D cI cZ cJ s.heap.size H.size g nw la pn 0 aI aS aP aL aO aT aA aQ aT1 aT2 aT3 aT4 aT5 aT6) (cwV 0 hts gL_law_X8_transports rfl rfl rfl (by decide +kernel) ⟨(Nat.le_of_ble_eq_true rfl), (Nat.le_of_ble_eq_true rfl)⟩) ⟨Pre.blind, va_recv hK hP (ci := 8) (q0 := 0) rfl rfl, Pre.mk hPc (hDc.weaken (fun _ _ _ h => hAlo _ h)) hC hS hAlo⟩ rfl rfl hl.1 rfl (lv_room (Nat.le_of_ble_eq_true rfl)) dL_law_1174 ⟨(Nat.le_of_ble_eq_true rfl), (Nat.le_of_ble_eq_true rfl)⟩) (fun r_1 e_2 => ?_)
  clear hPc hDc
  have e_2 : 0 = r_1 := Eq.symm e_2
  subst e_2
  refine lv_aload_n hx hb dL_law_1177 rfl (lv_at hl 2 rfl) ?_
  have hPc := hP.sub (ws' := [(mm, .inr (10, [.ref w, .int 0])), (w, .inr (9, [.int 0, .int 0, .ref b2, .ref b3, .ref b4, .ref b5, .int 0, .ref b7, .ref b8, .ref b9, .ref b10, .ref b11, .ref b12, .int 0, .ref b14, .ref b15, .ref b16, .ref b17, .int 0, .ref b19, .ref b20, .ref b21, .ref b22, .ref b23, .ref b24, .ref b25, .ref b26, .ref b27, .int 0, .ref b29, .ref b30, .ref b31, .ref b32, .ref b33, .ref b34, .ref b35]))]) [3, 4] rfl
  have hDc := hD.sub (ws' := [(mm, .inr (10, [.ref w, .int 0])), (w, .inr (9, [.int 0, .int 0, .ref b2, .ref b3, .ref b4, .ref b5, .int 0, .ref b7, .ref b8, .ref b9, .ref b10, .ref b11, .ref b12, .int 0, .ref b14, .ref b15, .ref b16, .ref b17, .int 0, .ref b19, .ref b20, .ref b21, .ref b22, .ref b23, .ref b24, .ref b25, .ref b26, .ref b27, .int 0, .ref b29, .ref b30, .ref b31, .ref b32, .ref b33, .ref b34, .ref b35]))]) [3, 4] (by decide) rfl
  have hFc := va_free (wc := [(mm, .inr (10, [.ref w, .int 0])), (w, .inr (9, [.int 0, .int 0, .ref b2, .ref b3, .ref b4, .ref b5, .int 0, .ref b7, .ref b8, .ref b9, .ref b10, .ref b11, .ref b12, .int 0, .ref b14, .ref b15, .ref b16, .ref b17, .int 0, .ref b19, .ref b20, .ref b21, .ref b22, .ref b23, .ref b24, .ref b25, .ref b26, .ref b27, .int 0, .ref b29, .ref b30, .ref b31, .ref b32, .ref b33, .ref b34, .ref b35]))]) hD hS hA [3, 4] rfl
  refine va_calli (va_runV (As := []) (rest := [.int 0]) ⟨hx, hb, hml, hown, hts⟩ (m_transports l D cI cZ cJ s.heap.size H.size mm 0 w 0 b2 b3 b4 b5 b7 b8 b9 b10 b11 b12 b14 b15 b16 b17 b19 b20 b21 b22 b23 b24 b25 b26 b27 b29 b30 b31 b32 b33 b34 b35) (cwV 0 hts gL_law_X10_transports rfl rfl rfl (by decide +kernel) ⟨(Nat.le_of_ble_eq_true rfl), (Nat.le_of_ble_eq_true rfl)⟩) ⟨Pre.blind, va_recv hK hP (ci := 10) (q0 := 3) rfl rfl, Pre.mk hPc (hDc.weaken (fun _ _ _ h => hAlo _ h)) hC hS hAlo⟩ rfl rfl hl.1 rfl (lv_room (Nat.le_of_ble_eq_true rfl)) dL_law_1178 ⟨(Nat.le_of_ble_eq_true rfl), (Nat.le_of_ble_eq_true rfl)⟩) hS (fun q _ h => hFc q h) hFc (fun r_3 u t H1 locs1 ht hvm e_4 hB hz1 hk1 hS1 => ?_)
  have hS := hS1
  refine W.widen (k := 123) (n := 42908) (by omega) (by omega) ?_
  obtain ⟨hP, hD⟩ := va_rest (wr := [(g, .inr (8, [.ref nw, .ref la, .ref pn])), (nw, .inr (6, [.int 0, .ref aI, .ref aS, .ref aP, .ref aL, .ref aO, .ref aT, .ref aA, .ref aQ])), (aT, .inr (7, [.int 0, .ref aT1, .ref aT2, .ref aT3, .ref aT4, .ref aT5, .ref aT6]))]) hP hD [3, 4] [0, 1, 2] rfl rfl (by decide) (by decide) hk1 hFc
  have e_4 : 0 = r_3 := Eq.symm e_4
  subst e_4
  clear hFc hPc hDc ht hvm hz1 hk1 hS1 hB
  generalize H1 = H at hP hS ⊢
  replace hP : va_P D vwCl [(g, .inr (8, [.ref nw, .ref la, .ref pn])), (nw, .inr (6, [.int 0, .ref aI, .ref aS, .ref aP, .ref aL, .ref aO, .ref aT, .ref aA, .ref aQ])), (aT, .inr (7, [.int 0, .ref aT1, .ref aT2, .ref aT3, .ref aT4, .ref aT5, .ref aT6]))] H := hP
  replace hD : va_D (LA s) [(g, .inr (8, [.ref nw, .ref la, .ref pn])), (nw, .inr (6, [.int 0, .ref aI, .ref aS, .ref aP, .ref aL, .ref aO, .ref aT, .ref aA, .ref aQ])), (aT, .inr (7, [.int 0, .ref aT1, .ref aT2, .ref aT3, .ref aT4, .ref aT5, .ref aT6]))] := hD
  refine lv_icmp_eq (tgt := 2855) hx hb dL_law_1181 (by decide) (fun _ => ?_) (fun c9 => absurd (show (0 : Int32) = (0 : Int32) from (by decide)) c9)
  refine W.widen (k := 1000) (n := 200000) (Nat.le_of_ble_eq_true rfl) (Nat.le_of_ble_eq_true rfl) ?_
  exact T H _ ls hS (lv_sub hl [0, 4] rfl)

set_option maxHeartbeats 4000000 in
set_option maxRecDepth 100000 in
/-- the law at a call of ofLot -/
theorem law_ofLot {p : Program} {l : Launch} {e : Env} {s : State} {m : MethodId} {below : List Frame} {meth : Method} {c : Code} {Q : State → Prop} (hl9 : l.stackTraces = false) (D : va_G) (cI cZ cJ : ClassId) (b : Nat) (xs : Nat → Int32) (C0 : LC s p m c D cI cZ cJ b xs) (g : Nat) (nw : Nat) (la : Nat) (pn : Nat) (aI : Nat) (aS : Nat) (aP : Nat) (aL : Nat) (aO : Nat) (aT : Nat) (aA : Nat) (aQ : Nat) (aL1 : Nat) (aL2 : Nat) (aL3 : Nat) (aL4 : Nat) (aL5 : Nat) (mm : Nat) (w : Nat) (b2 : Nat) (b3 : Nat) (b4 : Nat) (b5 : Nat) (b7 : Nat) (b8 : Nat) (b9 : Nat) (b10 : Nat) (b11 : Nat) (b12 : Nat) (b14 : Nat) (b15 : Nat) (b16 : Nat) (b17 : Nat) (b19 : Nat) (b20 : Nat) (b21 : Nat) (b22 : Nat) (b23 : Nat) (b24 : Nat) (b25 : Nat) (b26 : Nat) (b27 : Nat) (b29 : Nat) (b30 : Nat) (b31 : Nat) (b32 : Nat) (b33 : Nat) (b34 : Nat) (b35 : Nat) (ou : Nat) (T : LT p l e s m below meth c b Q) {H : Heap} {locs : List Loc} {ls : Array Slot} (hP : va_P D vwCl [(g, .inr (8, [.ref nw, .ref la, .ref pn])), (nw, .inr (6, [.int 0, .ref aI, .ref aS, .ref aP, .ref aL, .ref aO, .ref aT, .ref aA, .ref aQ])), (aL, .inr (1, [.int 0, .ref aL1, .ref aL2, .ref aL3, .ref aL4, .ref aL5])), (mm, .inr (10, [.ref w, .int 0])), (w, .inr (9, [.int 0, .int 0, .ref b2, .ref b3, .ref b4, .ref b5, .int 0, .ref b7, .ref b8, .ref b9, .ref b10, .ref b11, .ref b12, .int 0, .ref b14, .ref b15, .ref b16, .ref b17, .int 0, .ref b19, .ref b20, .ref b21, .ref b22, .ref b23, .ref b24, .ref b25, .ref b26, .ref b27, .int 0, .ref b29, .ref b30, .ref b31, .ref b32, .ref b33, .ref b34, .ref b35]))] H) (hD : va_D (LA s) [(g, .inr (8, [.ref nw, .ref la, .ref pn])), (nw, .inr (6, [.int 0, .ref aI, .ref aS, .ref aP, .ref aL, .ref aO, .ref aT, .ref aA, .ref aQ])), (aL, .inr (1, [.int 0, .ref aL1, .ref aL2, .ref aL3, .ref aL4, .ref aL5])), (mm, .inr (10, [.ref w, .int 0])), (w, .inr (9, [.int 0, .int 0, .ref b2, .ref b3, .ref b4, .ref b5, .int 0, .ref b7, .ref b8, .ref b9, .ref b10, .ref b11, .ref b12, .int 0, .ref b14, .ref b15, .ref b16, .ref b17, .int 0, .ref b19, .ref b20, .ref b21, .ref b22, .ref b23, .ref b24, .ref b25, .ref b26, .ref b27, .int 0, .ref b29, .ref b30, .ref b31, .ref b32, .ref b33, .ref b34, .ref b35]))]) (hS : va_S (LA s) s.heap H locs) (hl : lv_has ls 9 [(0, .ref b), (1, .ref g), (2, .ref mm), (3, .ref ou), (4, .int 0)]) : W p l e room_1 s m #[Value.ref b] below meth c H locs 123 42908 Q (F0 m 1186 ls []) := by
  obtain ⟨hx, hb, hml, hown, hts, hX, hbl, hC⟩ := C0
  have hK := hC.K
  have hA : ∀ q : Nat, s.heap.size ≤ q → LA s q := fun _ h => h
  have hAlo : ∀ q, LA s q → s.heap.size ≤ q := fun _ h => h
  have hbA : ¬ LA s b := Nat.not_le.mpr hbl
  refine lv_aload_n hx hb dL_law_1186 rfl (lv_at hl 1 rfl) ?_
  refine lv_aload_n hx hb dL_law_1187 rfl (lv_at hl 0 rfl) ?_
  refine lv_iload hx hb dL_law_1188 (lv_at hl 4 rfl) ?_
  refine lv_iconst (v := 1) hx hb dL_law_1190 (by decide) ?_
  refine lv_iadd hx hb dL_law_1191 ?_
  refine lv_toi (y := 1) (by decide) ?_
  refine va_sld hx hb hX hbl hbA hS (by unfold vp_in; decide) dL_law_1192 ?_
  refine lv_toi (y := xs 1) (congrArg xs (by decide)) ?_
  refine lv_aload_n hx hb dL_law_1193 rfl (lv_at hl 0 rfl) ?_
  refine lv_iload hx hb dL_law_1194 (lv_at hl 4 rfl) ?_
  refine lv_iconst (v := 2) hx hb dL_law_1196 (by decide) ?_
  refine lv_iadd hx hb dL_law_1197 ?_
  refine lv_toi (y := 2) (by decide) ?_
  refine va_sld hx hb hX hbl hbA hS (by unfold vp_in; decide) dL_law_1198 ?_
  refine lv_toi (y := xs 2) (congrArg xs (by decide)) ?_
  refine lv_aload_n hx hb dL_law_1199 rfl (lv_at hl 3 rfl) ?_
  have hPc := hP.sub (ws' := [(g, .inr (8, [.ref nw, .ref la, .ref pn])), (nw, .inr (6, [.int 0, .ref aI, .ref aS, .ref aP, .ref aL, .ref aO, .ref aT, .ref aA, .ref aQ])), (aL, .inr (1, [.int 0, .ref aL1, .ref aL2, .ref aL3, .ref aL4, .ref aL5]))]) [0, 1, 2] rfl
  have hDc := hD.sub (ws' := [(g, .inr (8, [.ref nw, .ref la, .ref pn])), (nw, .inr (6, [.int 0, .ref aI, .ref aS, .ref aP, .ref aL, .ref aO, .ref aT, .ref aA, .ref aQ])), (aL, .inr (1, [.int 0, .ref aL1, .ref aL2, .ref aL3, .ref aL4, .ref aL5]))]) [0, 1, 2] (by decide) rfl
  have hFc := va_free (wc := [(g, .inr (8, [.ref nw, .ref la, .ref pn])), (nw, .inr (6, [.int 0, .ref aI, .ref aS, .ref aP, .ref aL, .ref aO, .ref aT, .ref aA, .ref aQ])), (aL, .inr (1, [.int 0, .ref aL1, .ref aL2, .ref aL3, .ref aL4, .ref aL5]))]) hD hS hA [0, 1, 2] rfl
  refine va_calli (vx_runSW (As := [.ref g, .int (xs 1), .int (xs 2), .ref ou]) (rest := []) ⟨hx, hb, hml, hown, hts⟩ (h_ofLot l hl9 D cI cZ cJ s.heap.size H.size g nw la pn 0 aI aS aP aL aO aT aA aQ aL1 aL2 aL3 aL4 aL5 (xs 1) (xs 2) ou) (vx_cwSW 4 hts gL_law_L_ofLot rfl rfl rfl (by decide +kernel) ⟨(Nat.le_of_ble_eq_true rfl), (Nat.le_of_ble_eq_true rfl)⟩) ⟨Pre.blind, Pre.mk hPc (hDc.weaken (fun _ _ _ h => hAlo _ h)) hC hS hAlo⟩ rfl rfl hl.1 rfl (lv_room (Nat.le_of_ble_eq_true rfl)) dL_law_1200 ⟨(Nat.le_of_ble_eq_true rfl), (Nat.le_of_ble_eq_true rfl)⟩) hS (fun q _ h => hFc q h) hFc (fun r_1 u t H1 locs1 ht hvm e_2 hB hz1 hk1 hS1 => ?_)
  have hS := hS1
  refine W.widen (k := 124) (n := 42914) (by omega) (by omega) ?_
  obtain ⟨hP, hD⟩ := va_rest (wr := [(mm, .inr (10, [.ref w, .int 0])), (w, .inr (9, [.int 0, .int 0, .ref b2, .ref b3, .ref b4, .ref b5, .int 0, .ref b7, .ref b8, .ref b9, .ref b10, .ref b11, .ref b12, .int 0, .ref b14, .ref b15, .ref b16, .ref b17, .int 0, .ref b19, .ref b20, .ref b21, .ref b22, .ref b23, .ref b24, .ref b25, .ref b26, .ref b27, .int 0, .ref b29, .ref b30, .ref b31, .ref b32, .ref b33, .ref b34, .ref b35]))]) hP hD [0, 1, 2] [3, 4] rfl rfl (by decide) (by decide) hk1 hFc
  have e_2 : 1 = r_1 := Eq.symm e_2
  subst e_2
  clear hFc hPc hDc ht hvm hz1 hk1 hS1 hB
  generalize H1 = H at hP hS ⊢
  replace hP : va_P D vwCl [(mm, .inr (10, [.ref w, .int 0])), (w, .inr (9, [.int 0, .int 0, .ref b2, .ref b3, .ref b4, .ref b5, .int 0, .ref b7, .ref b8, .ref b9, .ref b10, .ref b11, .ref b12, .int 0, .ref b14, .ref b15, .ref b16, .ref b17, .int 0, .ref b19, .ref b20, .ref b21, .ref b22, .ref b23, .ref b24, .ref b25, .ref b26, .ref b27, .int 0, .ref b29, .ref b30, .ref b31, .ref b32, .ref b33, .ref b34, .ref b35]))] H := hP
  replace hD : va_D (LA s) [(mm, .inr (10, [.ref w, .int 0])), (w, .inr (9, [.int 0, .int 0, .ref b2, .ref b3, .ref b4, .ref b5, .int 0, .ref b7, .ref b8, .ref b9, .ref b10, .ref b11, .ref b12, .int 0, .ref b14, .ref b15, .ref b16, .ref b17, .int 0, .ref b19, .ref b20, .ref b21, .ref b22, .ref b23, .ref b24, .ref b25, .ref b26, .ref b27, .int 0, .ref b29, .ref b30, .ref b31, .ref b32, .ref b33, .ref b34, .ref b35]))] := hD
  refine lv_istore (lv' := [(5, .int 1), (0, .ref b), (1, .ref g), (2, .ref mm), (3, .ref ou), (4, .int 0)]) hx hb dL_law_1203 hl (by decide) rfl (fun ls hl => ?_)
  refine lv_aload_n hx hb dL_law_1205 rfl (lv_at hl 3 rfl) ?_
  refine lv_aload_n hx hb dL_law_1206 rfl (lv_at hl 1 rfl) ?_
  refine lv_iload hx hb dL_law_1207 (lv_at hl 5 rfl) ?_
  refine lv_iconst (v := 1) hx hb dL_law_1209 (by decide) ?_
  refine lv_iadd hx hb dL_law_1210 ?_
  refine lv_toi (y := 1) (by decide) ?_
  refine va_sld hx hb hX hbl hbA hS (by unfold vp_in; decide) dL_law_1211 ?_
  refine lv_toi (y := xs 1) (congrArg xs (by decide)) ?_
  refine lv_aload_n hx hb dL_law_1212 rfl (lv_at hl 1 rfl) ?_
  refine lv_iload hx hb dL_law_1213 (lv_at hl 5 rfl) ?_
  refine lv_iconst (v := 2) hx hb dL_law_1215 (by decide) ?_
  refine lv_iadd hx hb dL_law_1216 ?_
  refine lv_toi (y := 2) (by decide) ?_
  refine va_sld hx hb hX hbl hbA hS (by unfold vp_in; decide) dL_law_1217 ?_
  refine lv_toi (y := xs 2) (congrArg xs (by decide)) ?_
  have hPc := hP.sub (ws' := [(mm, .inr (10, [.ref w, .int 0])), (w, .inr (9, [.int 0, .int 0, .ref b2, .ref b3, .ref b4, .ref b5, .int 0, .ref b7, .ref b8, .ref b9, .ref b10, .ref b11, .ref b12, .int 0, .ref b14, .ref b15, .ref b16, .ref b17, .int 0, .ref b19, .ref b20, .ref b21, .ref b22, .ref b23, .ref b24, .ref b25, .ref b26, .ref b27, .int 0, .ref b29, .ref b30, .ref b31, .ref b32, .ref b33, .ref b34, .ref b35]))]) [0, 1] rfl
  have hDc := hD.sub (ws' := [(mm, .inr (10, [.ref w, .int 0])), (w, .inr (9, [.int 0, .int 0, .ref b2, .ref b3, .ref b4, .ref b5, .int 0, .ref b7, .ref b8, .ref b9, .ref b10, .ref b11, .ref b12, .int 0, .ref b14, .ref b15, .ref b16, .ref b17, .int 0, .ref b19, .ref b20, .ref b21, .ref b22, .ref b23, .ref b24, .ref b25, .ref b26, .ref b27, .int 0, .ref b29, .ref b30, .ref b31, .ref b32, .ref b33, .ref b34, .ref b35]))]) [0, 1] (by decide) rfl
  have hFc := va_free (wc := [(mm, .inr (10, [.ref w, .int 0])), (w, .inr (9, [.int 0, .int 0, .ref b2, .ref b3, .ref b4, .ref b5, .int 0, .ref b7, .ref b8, .ref b9, .ref b10, .ref b11, .ref b12, .int 0, .ref b14, .ref b15, .ref b16, .ref b17, .int 0, .ref b19, .ref b20, .ref b21, .ref b22, .ref b23, .ref b24, .ref b25, .ref b26, .ref b27, .int 0, .ref b29, .ref b30, .ref b31, .ref b32, .ref b33, .ref b34, .ref b35]))]) hD hS hA [0, 1] rfl
  refine va_calli (va_runV (As := [.int (xs 1), .int (xs 2)]) (rest := []) ⟨hx, hb, hml, hown, hts⟩ (m_ofLot l D cI cZ cJ s.heap.size H.size mm 0 w 0 b2 b3 b4 b5 b7 b8 b9 b10 b11 b12 b14 b15 b16 b17 b19 b20 b21 b22 b23 b24 b25 b26 b27 b29 b30 b31 b32 b33 b34 b35 (xs 1) (xs 2)) (cwV 2 hts gL_law_X10_ofLot rfl rfl rfl (by decide +kernel) ⟨(Nat.le_of_ble_eq_true rfl), (Nat.le_of_ble_eq_true rfl)⟩) ⟨Pre.blind, va_recv hK hP (ci := 10) (q0 := 0) rfl rfl, Pre.mk hPc (hDc.weaken (fun _ _ _ h => hAlo _ h)) hC hS hAlo⟩ rfl rfl hl.1 rfl (lv_room (Nat.le_of_ble_eq_true rfl)) dL_law_1218 ⟨(Nat.le_of_ble_eq_true rfl), (Nat.le_of_ble_eq_true rfl)⟩) hS (fun q _ h => hFc q h) hFc (fun r_3 u t H1 locs1 ht hvm e_4 hB hz1 hk1 hS1 => ?_)
  have hS := hS1
  refine W.widen (k := 124) (n := 42914) (by omega) (by omega) ?_
  obtain ⟨hP1, hD1⟩ := hB
  rw [ht] at hP1
  obtain ⟨hP, hD⟩ := va_join (wr := []) (w1 := [(mm, .inr (10, [.ref w, .int 1]))]) hP hD [0, 1] [] rfl rfl (by decide) (by decide) hk1 hFc hP1 hD1
  have e_4 : 0 = r_3 := Eq.symm e_4
  subst e_4
  clear hFc hPc hDc ht hvm hz1 hk1 hS1 hP1 hD1
  generalize H1 = H at hP hS ⊢
  replace hP : va_P D vwCl [(mm, .inr (10, [.ref w, .int 1]))] H := hP
  replace hD : va_D (LA s) [(mm, .inr (10, [.ref w, .int 1]))] := hD
  refine lv_istore (lv' := [(6, .int 0), (5, .int 1), (0, .ref b), (1, .ref g), (2, .ref mm), (3, .ref ou), (4, .int 0)]) hx hb dL_law_1221 hl (by decide) rfl (fun ls hl => ?_)
  refine lv_aload_n hx hb dL_law_1223 rfl (lv_at hl 4 rfl) ?_
  have hPc := hP.sub (ws' := [(mm, .inr (10, [.ref w, .int 1]))]) [0] rfl
  have hDc := hD.sub (ws' := [(mm, .inr (10, [.ref w, .int 1]))]) [0] (by decide) rfl
  refine vp_callSi (W.runV (As := []) (rest := []) ⟨hx, hb, hml, hown, hts⟩ (c_thrown l D cI cZ cJ s.heap.size H.size mm 1 w) (cwV 0 hts gL_law_X10_thrown rfl rfl rfl (by decide +kernel) ⟨(Nat.le_of_ble_eq_true rfl), (Nat.le_of_ble_eq_true rfl)⟩) ⟨Pre.blind, va_recv hK hP (ci := 10) (q0 := 0) rfl rfl, Pre.mk hPc (hDc.weaken (fun _ _ _ h => hAlo _ h)) hC hS hAlo⟩ rfl rfl hl.1 rfl (lv_room (Nat.le_of_ble_eq_true rfl)) dL_law_1224 ⟨(Nat.le_of_ble_eq_true rfl), (Nat.le_of_ble_eq_true rfl)⟩) (fun r_5 e_6 => ?_)
  clear hPc hDc
  have e_6 : 1 = r_5 := Eq.symm e_6
  subst e_6
  refine lv_iload hx hb dL_law_1227 (lv_at hl 1 rfl) ?_
  refine lv_icmp_eq (tgt := 1234) hx hb dL_law_1229 (by decide) (fun _ => ?_) (fun c9 => absurd (show (1 : Int32) = (1 : Int32) from (by decide)) c9)
  refine lv_iload hx hb dL_law_1234 (lv_at hl 1 rfl) ?_
  refine lv_if_ne (tgt := 1251) hx hb dL_law_1236 (by decide) (fun _ => ?_) (fun c9 => absurd c9 (show ¬ (1 : Int32) = (0 : Int32) from (by decide)))
  refine lv_goto (tgt := 2855) hx hb dL_law_1251 (by decide) ?_
  refine W.widen (k := 1000) (n := 200000) (Nat.le_of_ble_eq_true rfl) (Nat.le_of_ble_eq_true rfl) ?_
  exact T H _ ls hS (lv_sub hl [2, 6] rfl)

set_option maxHeartbeats 4000000 in
set_option maxRecDepth 100000 in
/-- the law at a call of ofOrder -/
theorem law_ofOrder {p : Program} {l : Launch} {e : Env} {s : State} {m : MethodId} {below : List Frame} {meth : Method} {c : Code} {Q : State → Prop} (hl9 : l.stackTraces = false) (D : va_G) (cI cZ cJ : ClassId) (b : Nat) (xs : Nat → Int32) (C0 : LC s p m c D cI cZ cJ b xs) (g : Nat) (nw : Nat) (la : Nat) (pn : Nat) (aI : Nat) (aS : Nat) (aP : Nat) (aL : Nat) (aO : Nat) (aT : Nat) (aA : Nat) (aQ : Nat) (aO1 : Nat) (aO2 : Nat) (aO3 : Nat) (aO4 : Nat) (aO5 : Nat) (aO6 : Nat) (aO7 : Nat) (aO8 : Nat) (aO9 : Nat) (aO10 : Nat) (mm : Nat) (w : Nat) (b2 : Nat) (b3 : Nat) (b4 : Nat) (b5 : Nat) (b7 : Nat) (b8 : Nat) (b9 : Nat) (b10 : Nat) (b11 : Nat) (b12 : Nat) (b14 : Nat) (b15 : Nat) (b16 : Nat) (b17 : Nat) (b19 : Nat) (b20 : Nat) (b21 : Nat) (b22 : Nat) (b23 : Nat) (b24 : Nat) (b25 : Nat) (b26 : Nat) (b27 : Nat) (b29 : Nat) (b30 : Nat) (b31 : Nat) (b32 : Nat) (b33 : Nat) (b34 : Nat) (b35 : Nat) (ou : Nat) (T : LT p l e s m below meth c b Q) {H : Heap} {locs : List Loc} {ls : Array Slot} (hP : va_P D vwCl [(g, .inr (8, [.ref nw, .ref la, .ref pn])), (nw, .inr (6, [.int 0, .ref aI, .ref aS, .ref aP, .ref aL, .ref aO, .ref aT, .ref aA, .ref aQ])), (aO, .inr (2, [.int 0, .ref aO1, .ref aO2, .ref aO3, .ref aO4, .ref aO5, .ref aO6, .ref aO7, .ref aO8, .ref aO9, .ref aO10])), (mm, .inr (10, [.ref w, .int 0])), (w, .inr (9, [.int 0, .int 0, .ref b2, .ref b3, .ref b4, .ref b5, .int 0, .ref b7, .ref b8, .ref b9, .ref b10, .ref b11, .ref b12, .int 0, .ref b14, .ref b15, .ref b16, .ref b17, .int 0, .ref b19, .ref b20, .ref b21, .ref b22, .ref b23, .ref b24, .ref b25, .ref b26, .ref b27, .int 0, .ref b29, .ref b30, .ref b31, .ref b32, .ref b33, .ref b34, .ref b35]))] H) (hD : va_D (LA s) [(g, .inr (8, [.ref nw, .ref la, .ref pn])), (nw, .inr (6, [.int 0, .ref aI, .ref aS, .ref aP, .ref aL, .ref aO, .ref aT, .ref aA, .ref aQ])), (aO, .inr (2, [.int 0, .ref aO1, .ref aO2, .ref aO3, .ref aO4, .ref aO5, .ref aO6, .ref aO7, .ref aO8, .ref aO9, .ref aO10])), (mm, .inr (10, [.ref w, .int 0])), (w, .inr (9, [.int 0, .int 0, .ref b2, .ref b3, .ref b4, .ref b5, .int 0, .ref b7, .ref b8, .ref b9, .ref b10, .ref b11, .ref b12, .int 0, .ref b14, .ref b15, .ref b16, .ref b17, .int 0, .ref b19, .ref b20, .ref b21, .ref b22, .ref b23, .ref b24, .ref b25, .ref b26, .ref b27, .int 0, .ref b29, .ref b30, .ref b31, .ref b32, .ref b33, .ref b34, .ref b35]))]) (hS : va_S (LA s) s.heap H locs) (hl : lv_has ls 9 [(0, .ref b), (1, .ref g), (2, .ref mm), (3, .ref ou), (4, .int 0)]) : W p l e room_1 s m #[Value.ref b] below meth c H locs 123 42908 Q (F0 m 1254 ls []) := by
  obtain ⟨hx, hb, hml, hown, hts, hX, hbl, hC⟩ := C0
  have hK := hC.K
  have hA : ∀ q : Nat, s.heap.size ≤ q → LA s q := fun _ h => h
  have hAlo : ∀ q, LA s q → s.heap.size ≤ q := fun _ h => h
  have hbA : ¬ LA s b := Nat.not_le.mpr hbl
  refine lv_aload_n hx hb dL_law_1254 rfl (lv_at hl 1 rfl) ?_
  refine lv_aload_n hx hb dL_law_1255 rfl (lv_at hl 0 rfl) ?_
  refine lv_iload hx hb dL_law_1256 (lv_at hl 4 rfl) ?_
  refine lv_iconst (v := 1) hx hb dL_law_1258 (by decide) ?_
  refine lv_iadd hx hb dL_law_1259 ?_
  refine lv_toi (y := 1) (by decide) ?_
  refine va_sld hx hb hX hbl hbA hS (by unfold vp_in; decide) dL_law_1260 ?_
  refine lv_toi (y := xs 1) (congrArg xs (by decide)) ?_
  refine lv_aload_n hx hb dL_law_1261 rfl (lv_at hl 0 rfl) ?_
  refine lv_iload hx hb dL_law_1262 (lv_at hl 4 rfl) ?_
  refine lv_iconst (v := 2) hx hb dL_law_1264 (by decide) ?_
  refine lv_iadd hx hb dL_law_1265 ?_
  refine lv_toi (y := 2) (by decide) ?_
  refine va_sld hx hb hX hbl hbA hS (by unfold vp_in; decide) dL_law_1266 ?_
  refine lv_toi (y := xs 2) (congrArg xs (by decide)) ?_
  refine lv_aload_n hx hb dL_law_1267 rfl (lv_at hl 3 rfl) ?_
  have hPc := hP.sub (ws' := [(g, .inr (8, [.ref nw, .ref la, .ref pn])), (nw, .inr (6, [.int 0, .ref aI, .ref aS, .ref aP, .ref aL, .ref aO, .ref aT, .ref aA, .ref aQ])), (aO, .inr (2, [.int 0, .ref aO1, .ref aO2, .ref aO3, .ref aO4, .ref aO5, .ref aO6, .ref aO7, .ref aO8, .ref aO9, .ref aO10]))]) [0, 1, 2] rfl
  have hDc := hD.sub (ws' := [(g, .inr (8, [.ref nw, .ref la, .ref pn])), (nw, .inr (6, [.int 0, .ref aI, .ref aS, .ref aP, .ref aL, .ref aO, .ref aT, .ref aA, .ref aQ])), (aO, .inr (2, [.int 0, .ref aO1, .ref aO2, .ref aO3, .ref aO4, .ref aO5, .ref aO6, .ref aO7, .ref aO8, .ref aO9, .ref aO10]))]) [0, 1, 2] (by decide) rfl
  have hFc := va_free (wc := [(g, .inr (8, [.ref nw, .ref la, .ref pn])), (nw, .inr (6, [.int 0, .ref aI, .ref aS, .ref aP, .ref aL, .ref aO, .ref aT, .ref aA, .ref aQ])), (aO, .inr (2, [.int 0, .ref aO1, .ref aO2, .ref aO3, .ref aO4, .ref aO5, .ref aO6, .ref aO7, .ref aO8, .ref aO9, .ref aO10]))]) hD hS hA [0, 1, 2] rfl
  refine va_calli (vx_runSW (As := [.ref g, .int (xs 1), .int (xs 2), .ref ou]) (rest := []) ⟨hx, hb, hml, hown, hts⟩ (h_ofOrder l hl9 D cI cZ cJ s.heap.size H.size g nw la pn 0 aI aS aP aL aO aT aA aQ aO1 aO2 aO3 aO4 aO5 aO6 aO7 aO8 aO9 aO10 (xs 1) (xs 2) ou) (vx_cwSW 4 hts gL_law_L_ofOrder rfl rfl rfl (by decide +kernel) ⟨(Nat.le_of_ble_eq_true rfl), (Nat.le_of_ble_eq_true rfl)⟩) ⟨Pre.blind, Pre.mk hPc (hDc.weaken (fun _ _ _ h => hAlo _ h)) hC hS hAlo⟩ rfl rfl hl.1 rfl (lv_room (Nat.le_of_ble_eq_true rfl)) dL_law_1268 ⟨(Nat.le_of_ble_eq_true rfl), (Nat.le_of_ble_eq_true rfl)⟩) hS (fun q _ h => hFc q h) hFc (fun r_1 u t H1 locs1 ht hvm e_2 hB hz1 hk1 hS1 => ?_)
  have hS := hS1
  refine W.widen (k := 124) (n := 42914) (by omega) (by omega) ?_
  obtain ⟨hP, hD⟩ := va_rest (wr := [(mm, .inr (10, [.ref w, .int 0])), (w, .inr (9, [.int 0, .int 0, .ref b2, .ref b3, .ref b4, .ref b5, .int 0, .ref b7, .ref b8, .ref b9, .ref b10, .ref b11, .ref b12, .int 0, .ref b14, .ref b15, .ref b16, .ref b17, .int 0, .ref b19, .ref b20, .ref b21, .ref b22, .ref b23, .ref b24, .ref b25, .ref b26, .ref b27, .int 0, .ref b29, .ref b30, .ref b31, .ref b32, .ref b33, .ref b34, .ref b35]))]) hP hD [0, 1, 2] [3, 4] rfl rfl (by decide) (by decide) hk1 hFc
  have e_2 : 1 = r_1 := Eq.symm e_2
  subst e_2
  clear hFc hPc hDc ht hvm hz1 hk1 hS1 hB
  generalize H1 = H at hP hS ⊢
  replace hP : va_P D vwCl [(mm, .inr (10, [.ref w, .int 0])), (w, .inr (9, [.int 0, .int 0, .ref b2, .ref b3, .ref b4, .ref b5, .int 0, .ref b7, .ref b8, .ref b9, .ref b10, .ref b11, .ref b12, .int 0, .ref b14, .ref b15, .ref b16, .ref b17, .int 0, .ref b19, .ref b20, .ref b21, .ref b22, .ref b23, .ref b24, .ref b25, .ref b26, .ref b27, .int 0, .ref b29, .ref b30, .ref b31, .ref b32, .ref b33, .ref b34, .ref b35]))] H := hP
  replace hD : va_D (LA s) [(mm, .inr (10, [.ref w, .int 0])), (w, .inr (9, [.int 0, .int 0, .ref b2, .ref b3, .ref b4, .ref b5, .int 0, .ref b7, .ref b8, .ref b9, .ref b10, .ref b11, .ref b12, .int 0, .ref b14, .ref b15, .ref b16, .ref b17, .int 0, .ref b19, .ref b20, .ref b21, .ref b22, .ref b23, .ref b24, .ref b25, .ref b26, .ref b27, .int 0, .ref b29, .ref b30, .ref b31, .ref b32, .ref b33, .ref b34, .ref b35]))] := hD
  refine lv_istore (lv' := [(5, .int 1), (0, .ref b), (1, .ref g), (2, .ref mm), (3, .ref ou), (4, .int 0)]) hx hb dL_law_1271 hl (by decide) rfl (fun ls hl => ?_)
  refine lv_aload_n hx hb dL_law_1273 rfl (lv_at hl 3 rfl) ?_
  refine lv_aload_n hx hb dL_law_1274 rfl (lv_at hl 1 rfl) ?_
  refine lv_iload hx hb dL_law_1275 (lv_at hl 5 rfl) ?_
  refine lv_iconst (v := 1) hx hb dL_law_1277 (by decide) ?_
  refine lv_iadd hx hb dL_law_1278 ?_
  refine lv_toi (y := 1) (by decide) ?_
  refine va_sld hx hb hX hbl hbA hS (by unfold vp_in; decide) dL_law_1279 ?_
  refine lv_toi (y := xs 1) (congrArg xs (by decide)) ?_
  refine lv_aload_n hx hb dL_law_1280 rfl (lv_at hl 1 rfl) ?_
  refine lv_iload hx hb dL_law_1281 (lv_at hl 5 rfl) ?_
  refine lv_iconst (v := 2) hx hb dL_law_1283 (by decide) ?_
  refine lv_iadd hx hb dL_law_1284 ?_
  refine lv_toi (y := 2) (by decide) ?_
  refine va_sld hx hb hX hbl hbA hS (by unfold vp_in; decide) dL_law_1285 ?_
  refine lv_toi (y := xs 2) (congrArg xs (by decide)) ?_
  have hPc := hP.sub (ws' := [(mm, .inr (10, [.ref w, .int 0])), (w, .inr (9, [.int 0, .int 0, .ref b2, .ref b3, .ref b4, .ref b5, .int 0, .ref b7, .ref b8, .ref b9, .ref b10, .ref b11, .ref b12, .int 0, .ref b14, .ref b15, .ref b16, .ref b17, .int 0, .ref b19, .ref b20, .ref b21, .ref b22, .ref b23, .ref b24, .ref b25, .ref b26, .ref b27, .int 0, .ref b29, .ref b30, .ref b31, .ref b32, .ref b33, .ref b34, .ref b35]))]) [0, 1] rfl
  have hDc := hD.sub (ws' := [(mm, .inr (10, [.ref w, .int 0])), (w, .inr (9, [.int 0, .int 0, .ref b2, .ref b3, .ref b4, .ref b5, .int 0, .ref b7, .ref b8, .ref b9, .ref b10, .ref b11, .ref b12, .int 0, .ref b14, .ref b15, .ref b16, .ref b17, .int 0, .ref b19, .ref b20, .ref b21, .ref b22, .ref b23, .ref b24, .ref b25, .ref b26, .ref b27, .int 0, .ref b29, .ref b30, .ref b31, .ref b32, .ref b33, .ref b34, .ref b35]))]) [0, 1] (by decide) rfl
  have hFc := va_free (wc := [(mm, .inr (10, [.ref w, .int 0])), (w, .inr (9, [.int 0, .int 0, .ref b2, .ref b3, .ref b4, .ref b5, .int 0, .ref b7, .ref b8, .ref b9, .ref b10, .ref b11, .ref b12, .int 0, .ref b14, .ref b15, .ref b16, .ref b17, .int 0, .ref b19, .ref b20, .ref b21, .ref b22, .ref b23, .ref b24, .ref b25, .ref b26, .ref b27, .int 0, .ref b29, .ref b30, .ref b31, .ref b32, .ref b33, .ref b34, .ref b35]))]) hD hS hA [0, 1] rfl
  refine va_calli (va_runV (As := [.int (xs 1), .int (xs 2)]) (rest := []) ⟨hx, hb, hml, hown, hts⟩ (m_ofOrder l D cI cZ cJ s.heap.size H.size mm 0 w 0 b2 b3 b4 b5 b7 b8 b9 b10 b11 b12 b14 b15 b16 b17 b19 b20 b21 b22 b23 b24 b25 b26 b27 b29 b30 b31 b32 b33 b34 b35 (xs 1) (xs 2)) (cwV 2 hts gL_law_X10_ofOrder rfl rfl rfl (by decide +kernel) ⟨(Nat.le_of_ble_eq_true rfl), (Nat.le_of_ble_eq_true rfl)⟩) ⟨Pre.blind, va_recv hK hP (ci := 10) (q0 := 0) rfl rfl, Pre.mk hPc (hDc.weaken (fun _ _ _ h => hAlo _ h)) hC hS hAlo⟩ rfl rfl hl.1 rfl (lv_room (Nat.le_of_ble_eq_true rfl)) dL_law_1286 ⟨(Nat.le_of_ble_eq_true rfl), (Nat.le_of_ble_eq_true rfl)⟩) hS (fun q _ h => hFc q h) hFc (fun r_3 u t H1 locs1 ht hvm e_4 hB hz1 hk1 hS1 => ?_)
  have hS := hS1
  refine W.widen (k := 124) (n := 42914) (by omega) (by omega) ?_
  obtain ⟨hP1, hD1⟩ := hB
  rw [ht] at hP1
  obtain ⟨hP, hD⟩ := va_join (wr := []) (w1 := [(mm, .inr (10, [.ref w, .int 1]))]) hP hD [0, 1] [] rfl rfl (by decide) (by decide) hk1 hFc hP1 hD1
  have e_4 : 0 = r_3 := Eq.symm e_4
  subst e_4
  clear hFc hPc hDc ht hvm hz1 hk1 hS1 hP1 hD1
  generalize H1 = H at hP hS ⊢
  replace hP : va_P D vwCl [(mm, .inr (10, [.ref w, .int 1]))] H := hP
  replace hD : va_D (LA s) [(mm, .inr (10, [.ref w, .int 1]))] := hD
  refine lv_istore (lv' := [(6, .int 0), (5, .int 1), (0, .ref b), (1, .ref g), (2, .ref mm), (3, .ref ou), (4, .int 0)]) hx hb dL_law_1289 hl (by decide) rfl (fun ls hl => ?_)
  refine lv_aload_n hx hb dL_law_1291 rfl (lv_at hl 4 rfl) ?_
  have hPc := hP.sub (ws' := [(mm, .inr (10, [.ref w, .int 1]))]) [0] rfl
  have hDc := hD.sub (ws' := [(mm, .inr (10, [.ref w, .int 1]))]) [0] (by decide) rfl
  refine vp_callSi (W.runV (As := []) (rest := []) ⟨hx, hb, hml, hown, hts⟩ (c_thrown l D cI cZ cJ s.heap.size H.size mm 1 w) (cwV 0 hts gL_law_X10_thrown rfl rfl rfl (by decide +kernel) ⟨(Nat.le_of_ble_eq_true rfl), (Nat.le_of_ble_eq_true rfl)⟩) ⟨Pre.blind, va_recv hK hP (ci := 10) (q0 := 0) rfl rfl, Pre.mk hPc (hDc.weaken (fun _ _ _ h => hAlo _ h)) hC hS hAlo⟩ rfl rfl hl.1 rfl (lv_room (Nat.le_of_ble_eq_true rfl)) dL_law_1292 ⟨(Nat.le_of_ble_eq_true rfl), (Nat.le_of_ble_eq_true rfl)⟩) (fun r_5 e_6 => ?_)
  clear hPc hDc
  have e_6 : 1 = r_5 := Eq.symm e_6
  subst e_6
  refine lv_iload hx hb dL_law_1295 (lv_at hl 1 rfl) ?_
  refine lv_icmp_eq (tgt := 1302) hx hb dL_law_1297 (by decide) (fun _ => ?_) (fun c9 => absurd (show (1 : Int32) = (1 : Int32) from (by decide)) c9)
  refine lv_iload hx hb dL_law_1302 (lv_at hl 1 rfl) ?_
  refine lv_if_ne (tgt := 1319) hx hb dL_law_1304 (by decide) (fun _ => ?_) (fun c9 => absurd c9 (show ¬ (1 : Int32) = (0 : Int32) from (by decide)))
  refine lv_goto (tgt := 2855) hx hb dL_law_1319 (by decide) ?_
  refine W.widen (k := 1000) (n := 200000) (Nat.le_of_ble_eq_true rfl) (Nat.le_of_ble_eq_true rfl) ?_
  exact T H _ ls hS (lv_sub hl [2, 6] rfl)

set_option maxHeartbeats 4000000 in
set_option maxRecDepth 100000 in
/-- the law at a call of reserved -/
theorem law_reserved {p : Program} {l : Launch} {e : Env} {s : State} {m : MethodId} {below : List Frame} {meth : Method} {c : Code} {Q : State → Prop} (hl9 : l.stackTraces = false) (D : va_G) (cI cZ cJ : ClassId) (b : Nat) (xs : Nat → Int32) (C0 : LC s p m c D cI cZ cJ b xs) (g : Nat) (nw : Nat) (la : Nat) (pn : Nat) (aI : Nat) (aS : Nat) (aP : Nat) (aL : Nat) (aO : Nat) (aT : Nat) (aA : Nat) (aQ : Nat) (aO1 : Nat) (aO2 : Nat) (aO3 : Nat) (aO4 : Nat) (aO5 : Nat) (aO6 : Nat) (aO7 : Nat) (aO8 : Nat) (aO9 : Nat) (aO10 : Nat) (mm : Nat) (w : Nat) (b2 : Nat) (b3 : Nat) (b4 : Nat) (b5 : Nat) (b7 : Nat) (b8 : Nat) (b9 : Nat) (b10 : Nat) (b11 : Nat) (b12 : Nat) (b14 : Nat) (b15 : Nat) (b16 : Nat) (b17 : Nat) (b19 : Nat) (b20 : Nat) (b21 : Nat) (b22 : Nat) (b23 : Nat) (b24 : Nat) (b25 : Nat) (b26 : Nat) (b27 : Nat) (b29 : Nat) (b30 : Nat) (b31 : Nat) (b32 : Nat) (b33 : Nat) (b34 : Nat) (b35 : Nat) (ou : Nat) (T : LT p l e s m below meth c b Q) {H : Heap} {locs : List Loc} {ls : Array Slot} (hP : va_P D vwCl [(g, .inr (8, [.ref nw, .ref la, .ref pn])), (nw, .inr (6, [.int 0, .ref aI, .ref aS, .ref aP, .ref aL, .ref aO, .ref aT, .ref aA, .ref aQ])), (aO, .inr (2, [.int 0, .ref aO1, .ref aO2, .ref aO3, .ref aO4, .ref aO5, .ref aO6, .ref aO7, .ref aO8, .ref aO9, .ref aO10])), (mm, .inr (10, [.ref w, .int 0])), (w, .inr (9, [.int 0, .int 0, .ref b2, .ref b3, .ref b4, .ref b5, .int 0, .ref b7, .ref b8, .ref b9, .ref b10, .ref b11, .ref b12, .int 0, .ref b14, .ref b15, .ref b16, .ref b17, .int 0, .ref b19, .ref b20, .ref b21, .ref b22, .ref b23, .ref b24, .ref b25, .ref b26, .ref b27, .int 0, .ref b29, .ref b30, .ref b31, .ref b32, .ref b33, .ref b34, .ref b35]))] H) (hD : va_D (LA s) [(g, .inr (8, [.ref nw, .ref la, .ref pn])), (nw, .inr (6, [.int 0, .ref aI, .ref aS, .ref aP, .ref aL, .ref aO, .ref aT, .ref aA, .ref aQ])), (aO, .inr (2, [.int 0, .ref aO1, .ref aO2, .ref aO3, .ref aO4, .ref aO5, .ref aO6, .ref aO7, .ref aO8, .ref aO9, .ref aO10])), (mm, .inr (10, [.ref w, .int 0])), (w, .inr (9, [.int 0, .int 0, .ref b2, .ref b3, .ref b4, .ref b5, .int 0, .ref b7, .ref b8, .ref b9, .ref b10, .ref b11, .ref b12, .int 0, .ref b14, .ref b15, .ref b16, .ref b17, .int 0, .ref b19, .ref b20, .ref b21, .ref b22, .ref b23, .ref b24, .ref b25, .ref b26, .ref b27, .int 0, .ref b29, .ref b30, .ref b31, .ref b32, .ref b33, .ref b34, .ref b35]))]) (hS : va_S (LA s) s.heap H locs) (hl : lv_has ls 9 [(0, .ref b), (1, .ref g), (2, .ref mm), (3, .ref ou), (4, .int 0)]) : W p l e room_1 s m #[Value.ref b] below meth c H locs 123 42908 Q (F0 m 1322 ls []) := by
  obtain ⟨hx, hb, hml, hown, hts, hX, hbl, hC⟩ := C0
  have hK := hC.K
  have hA : ∀ q : Nat, s.heap.size ≤ q → LA s q := fun _ h => h
  have hAlo : ∀ q, LA s q → s.heap.size ≤ q := fun _ h => h
  have hbA : ¬ LA s b := Nat.not_le.mpr hbl
  refine lv_aload_n hx hb dL_law_1322 rfl (lv_at hl 1 rfl) ?_
  refine lv_aload_n hx hb dL_law_1323 rfl (lv_at hl 0 rfl) ?_
  refine lv_iload hx hb dL_law_1324 (lv_at hl 4 rfl) ?_
  refine lv_iconst (v := 1) hx hb dL_law_1326 (by decide) ?_
  refine lv_iadd hx hb dL_law_1327 ?_
  refine lv_toi (y := 1) (by decide) ?_
  refine va_sld hx hb hX hbl hbA hS (by unfold vp_in; decide) dL_law_1328 ?_
  refine lv_toi (y := xs 1) (congrArg xs (by decide)) ?_
  refine lv_aload_n hx hb dL_law_1329 rfl (lv_at hl 0 rfl) ?_
  refine lv_iload hx hb dL_law_1330 (lv_at hl 4 rfl) ?_
  refine lv_iconst (v := 2) hx hb dL_law_1332 (by decide) ?_
  refine lv_iadd hx hb dL_law_1333 ?_
  refine lv_toi (y := 2) (by decide) ?_
  refine va_sld hx hb hX hbl hbA hS (by unfold vp_in; decide) dL_law_1334 ?_
  refine lv_toi (y := xs 2) (congrArg xs (by decide)) ?_
  refine lv_aload_n hx hb dL_law_1335 rfl (lv_at hl 3 rfl) ?_
  have hPc := hP.sub (ws' := [(g, .inr (8, [.ref nw, .ref la, .ref pn])), (nw, .inr (6, [.int 0, .ref aI, .ref aS, .ref aP, .ref aL, .ref aO, .ref aT, .ref aA, .ref aQ])), (aO, .inr (2, [.int 0, .ref aO1, .ref aO2, .ref aO3, .ref aO4, .ref aO5, .ref aO6, .ref aO7, .ref aO8, .ref aO9, .ref aO10]))]) [0, 1, 2] rfl
  have hDc := hD.sub (ws' := [(g, .inr (8, [.ref nw, .ref la, .ref pn])), (nw, .inr (6, [.int 0, .ref aI, .ref aS, .ref aP, .ref aL, .ref aO, .ref aT, .ref aA, .ref aQ])), (aO, .inr (2, [.int 0, .ref aO1, .ref aO2, .ref aO3, .ref aO4, .ref aO5, .ref aO6, .ref aO7, .ref aO8, .ref aO9, .ref aO10]))]) [0, 1, 2] (by decide) rfl
  have hFc := va_free (wc := [(g, .inr (8, [.ref nw, .ref la, .ref pn])), (nw, .inr (6, [.int 0, .ref aI, .ref aS, .ref aP, .ref aL, .ref aO, .ref aT, .ref aA, .ref aQ])), (aO, .inr (2, [.int 0, .ref aO1, .ref aO2, .ref aO3, .ref aO4, .ref aO5, .ref aO6, .ref aO7, .ref aO8, .ref aO9, .ref aO10]))]) hD hS hA [0, 1, 2] rfl
  refine va_calli (vx_runSW (As := [.ref g, .int (xs 1), .int (xs 2), .ref ou]) (rest := []) ⟨hx, hb, hml, hown, hts⟩ (h_reserved l hl9 D cI cZ cJ s.heap.size H.size g nw la pn 0 aI aS aP aL aO aT aA aQ aO1 aO2 aO3 aO4 aO5 aO6 aO7 aO8 aO9 aO10 (xs 1) (xs 2) ou) (vx_cwSW 4 hts gL_law_L_reserved rfl rfl rfl (by decide +kernel) ⟨(Nat.le_of_ble_eq_true rfl), (Nat.le_of_ble_eq_true rfl)⟩) ⟨Pre.blind, Pre.mk hPc (hDc.weaken (fun _ _ _ h => hAlo _ h)) hC hS hAlo⟩ rfl rfl hl.1 rfl (lv_room (Nat.le_of_ble_eq_true rfl)) dL_law_1336 ⟨(Nat.le_of_ble_eq_true rfl), (Nat.le_of_ble_eq_true rfl)⟩) hS (fun q _ h => hFc q h) hFc (fun r_1 u t H1 locs1 ht hvm e_2 hB hz1 hk1 hS1 => ?_)
  have hS := hS1
  refine W.widen (k := 124) (n := 42914) (by omega) (by omega) ?_
  obtain ⟨hP, hD⟩ := va_rest (wr := [(mm, .inr (10, [.ref w, .int 0])), (w, .inr (9, [.int 0, .int 0, .ref b2, .ref b3, .ref b4, .ref b5, .int 0, .ref b7, .ref b8, .ref b9, .ref b10, .ref b11, .ref b12, .int 0, .ref b14, .ref b15, .ref b16, .ref b17, .int 0, .ref b19, .ref b20, .ref b21, .ref b22, .ref b23, .ref b24, .ref b25, .ref b26, .ref b27, .int 0, .ref b29, .ref b30, .ref b31, .ref b32, .ref b33, .ref b34, .ref b35]))]) hP hD [0, 1, 2] [3, 4] rfl rfl (by decide) (by decide) hk1 hFc
  have e_2 : 1 = r_1 := Eq.symm e_2
  subst e_2
  clear hFc hPc hDc ht hvm hz1 hk1 hS1 hB
  generalize H1 = H at hP hS ⊢
  replace hP : va_P D vwCl [(mm, .inr (10, [.ref w, .int 0])), (w, .inr (9, [.int 0, .int 0, .ref b2, .ref b3, .ref b4, .ref b5, .int 0, .ref b7, .ref b8, .ref b9, .ref b10, .ref b11, .ref b12, .int 0, .ref b14, .ref b15, .ref b16, .ref b17, .int 0, .ref b19, .ref b20, .ref b21, .ref b22, .ref b23, .ref b24, .ref b25, .ref b26, .ref b27, .int 0, .ref b29, .ref b30, .ref b31, .ref b32, .ref b33, .ref b34, .ref b35]))] H := hP
  replace hD : va_D (LA s) [(mm, .inr (10, [.ref w, .int 0])), (w, .inr (9, [.int 0, .int 0, .ref b2, .ref b3, .ref b4, .ref b5, .int 0, .ref b7, .ref b8, .ref b9, .ref b10, .ref b11, .ref b12, .int 0, .ref b14, .ref b15, .ref b16, .ref b17, .int 0, .ref b19, .ref b20, .ref b21, .ref b22, .ref b23, .ref b24, .ref b25, .ref b26, .ref b27, .int 0, .ref b29, .ref b30, .ref b31, .ref b32, .ref b33, .ref b34, .ref b35]))] := hD
  refine lv_istore (lv' := [(5, .int 1), (0, .ref b), (1, .ref g), (2, .ref mm), (3, .ref ou), (4, .int 0)]) hx hb dL_law_1339 hl (by decide) rfl (fun ls hl => ?_)
  refine lv_aload_n hx hb dL_law_1341 rfl (lv_at hl 3 rfl) ?_
  refine lv_aload_n hx hb dL_law_1342 rfl (lv_at hl 1 rfl) ?_
  refine lv_iload hx hb dL_law_1343 (lv_at hl 5 rfl) ?_
  refine lv_iconst (v := 1) hx hb dL_law_1345 (by decide) ?_
  refine lv_iadd hx hb dL_law_1346 ?_
  refine lv_toi (y := 1) (by decide) ?_
  refine va_sld hx hb hX hbl hbA hS (by unfold vp_in; decide) dL_law_1347 ?_
  refine lv_toi (y := xs 1) (congrArg xs (by decide)) ?_
  refine lv_aload_n hx hb dL_law_1348 rfl (lv_at hl 1 rfl) ?_
  refine lv_iload hx hb dL_law_1349 (lv_at hl 5 rfl) ?_
  refine lv_iconst (v := 2) hx hb dL_law_1351 (by decide) ?_
  refine lv_iadd hx hb dL_law_1352 ?_
  refine lv_toi (y := 2) (by decide) ?_
  refine va_sld hx hb hX hbl hbA hS (by unfold vp_in; decide) dL_law_1353 ?_
  refine lv_toi (y := xs 2) (congrArg xs (by decide)) ?_
  have hPc := hP.sub (ws' := [(mm, .inr (10, [.ref w, .int 0])), (w, .inr (9, [.int 0, .int 0, .ref b2, .ref b3, .ref b4, .ref b5, .int 0, .ref b7, .ref b8, .ref b9, .ref b10, .ref b11, .ref b12, .int 0, .ref b14, .ref b15, .ref b16, .ref b17, .int 0, .ref b19, .ref b20, .ref b21, .ref b22, .ref b23, .ref b24, .ref b25, .ref b26, .ref b27, .int 0, .ref b29, .ref b30, .ref b31, .ref b32, .ref b33, .ref b34, .ref b35]))]) [0, 1] rfl
  have hDc := hD.sub (ws' := [(mm, .inr (10, [.ref w, .int 0])), (w, .inr (9, [.int 0, .int 0, .ref b2, .ref b3, .ref b4, .ref b5, .int 0, .ref b7, .ref b8, .ref b9, .ref b10, .ref b11, .ref b12, .int 0, .ref b14, .ref b15, .ref b16, .ref b17, .int 0, .ref b19, .ref b20, .ref b21, .ref b22, .ref b23, .ref b24, .ref b25, .ref b26, .ref b27, .int 0, .ref b29, .ref b30, .ref b31, .ref b32, .ref b33, .ref b34, .ref b35]))]) [0, 1] (by decide) rfl
  have hFc := va_free (wc := [(mm, .inr (10, [.ref w, .int 0])), (w, .inr (9, [.int 0, .int 0, .ref b2, .ref b3, .ref b4, .ref b5, .int 0, .ref b7, .ref b8, .ref b9, .ref b10, .ref b11, .ref b12, .int 0, .ref b14, .ref b15, .ref b16, .ref b17, .int 0, .ref b19, .ref b20, .ref b21, .ref b22, .ref b23, .ref b24, .ref b25, .ref b26, .ref b27, .int 0, .ref b29, .ref b30, .ref b31, .ref b32, .ref b33, .ref b34, .ref b35]))]) hD hS hA [0, 1] rfl
  refine va_calli (va_runV (As := [.int (xs 1), .int (xs 2)]) (rest := []) ⟨hx, hb, hml, hown, hts⟩ (m_reserved l D cI cZ cJ s.heap.size H.size mm 0 w 0 b2 b3 b4 b5 b7 b8 b9 b10 b11 b12 b14 b15 b16 b17 b19 b20 b21 b22 b23 b24 b25 b26 b27 b29 b30 b31 b32 b33 b34 b35 (xs 1) (xs 2)) (cwV 2 hts gL_law_X10_reserved rfl rfl rfl (by decide +kernel) ⟨(Nat.le_of_ble_eq_true rfl), (Nat.le_of_ble_eq_true rfl)⟩) ⟨Pre.blind, va_recv hK hP (ci := 10) (q0 := 0) rfl rfl, Pre.mk hPc (hDc.weaken (fun _ _ _ h => hAlo _ h)) hC hS hAlo⟩ rfl rfl hl.1 rfl (lv_room (Nat.le_of_ble_eq_true rfl)) dL_law_1354 ⟨(Nat.le_of_ble_eq_true rfl), (Nat.le_of_ble_eq_true rfl)⟩) hS (fun q _ h => hFc q h) hFc (fun r_3 u t H1 locs1 ht hvm e_4 hB hz1 hk1 hS1 => ?_)
  have hS := hS1
  refine W.widen (k := 124) (n := 42914) (by omega) (by omega) ?_
  obtain ⟨hP1, hD1⟩ := hB
  rw [ht] at hP1
  obtain ⟨hP, hD⟩ := va_join (wr := []) (w1 := [(mm, .inr (10, [.ref w, .int 1]))]) hP hD [0, 1] [] rfl rfl (by decide) (by decide) hk1 hFc hP1 hD1
  have e_4 : 0 = r_3 := Eq.symm e_4
  subst e_4
  clear hFc hPc hDc ht hvm hz1 hk1 hS1 hP1 hD1
  generalize H1 = H at hP hS ⊢
  replace hP : va_P D vwCl [(mm, .inr (10, [.ref w, .int 1]))] H := hP
  replace hD : va_D (LA s) [(mm, .inr (10, [.ref w, .int 1]))] := hD
  refine lv_istore (lv' := [(6, .int 0), (5, .int 1), (0, .ref b), (1, .ref g), (2, .ref mm), (3, .ref ou), (4, .int 0)]) hx hb dL_law_1357 hl (by decide) rfl (fun ls hl => ?_)
  refine lv_aload_n hx hb dL_law_1359 rfl (lv_at hl 4 rfl) ?_
  have hPc := hP.sub (ws' := [(mm, .inr (10, [.ref w, .int 1]))]) [0] rfl
  have hDc := hD.sub (ws' := [(mm, .inr (10, [.ref w, .int 1]))]) [0] (by decide) rfl
  refine vp_callSi (W.runV (As := []) (rest := []) ⟨hx, hb, hml, hown, hts⟩ (c_thrown l D cI cZ cJ s.heap.size H.size mm 1 w) (cwV 0 hts gL_law_X10_thrown rfl rfl rfl (by decide +kernel) ⟨(Nat.le_of_ble_eq_true rfl), (Nat.le_of_ble_eq_true rfl)⟩) ⟨Pre.blind, va_recv hK hP (ci := 10) (q0 := 0) rfl rfl, Pre.mk hPc (hDc.weaken (fun _ _ _ h => hAlo _ h)) hC hS hAlo⟩ rfl rfl hl.1 rfl (lv_room (Nat.le_of_ble_eq_true rfl)) dL_law_1360 ⟨(Nat.le_of_ble_eq_true rfl), (Nat.le_of_ble_eq_true rfl)⟩) (fun r_5 e_6 => ?_)
  clear hPc hDc
  have e_6 : 1 = r_5 := Eq.symm e_6
  subst e_6
  refine lv_iload hx hb dL_law_1363 (lv_at hl 1 rfl) ?_
  refine lv_icmp_eq (tgt := 1370) hx hb dL_law_1365 (by decide) (fun _ => ?_) (fun c9 => absurd (show (1 : Int32) = (1 : Int32) from (by decide)) c9)
  refine lv_iload hx hb dL_law_1370 (lv_at hl 1 rfl) ?_
  refine lv_if_ne (tgt := 1387) hx hb dL_law_1372 (by decide) (fun _ => ?_) (fun c9 => absurd c9 (show ¬ (1 : Int32) = (0 : Int32) from (by decide)))
  refine lv_goto (tgt := 2855) hx hb dL_law_1387 (by decide) ?_
  refine W.widen (k := 1000) (n := 200000) (Nat.le_of_ble_eq_true rfl) (Nat.le_of_ble_eq_true rfl) ?_
  exact T H _ ls hS (lv_sub hl [2, 6] rfl)

set_option maxHeartbeats 4000000 in
set_option maxRecDepth 100000 in
/-- the law at a call of ofTransport -/
theorem law_ofTransport {p : Program} {l : Launch} {e : Env} {s : State} {m : MethodId} {below : List Frame} {meth : Method} {c : Code} {Q : State → Prop} (hl9 : l.stackTraces = false) (D : va_G) (cI cZ cJ : ClassId) (b : Nat) (xs : Nat → Int32) (C0 : LC s p m c D cI cZ cJ b xs) (g : Nat) (nw : Nat) (la : Nat) (pn : Nat) (aI : Nat) (aS : Nat) (aP : Nat) (aL : Nat) (aO : Nat) (aT : Nat) (aA : Nat) (aQ : Nat) (aT1 : Nat) (aT2 : Nat) (aT3 : Nat) (aT4 : Nat) (aT5 : Nat) (aT6 : Nat) (mm : Nat) (w : Nat) (b2 : Nat) (b3 : Nat) (b4 : Nat) (b5 : Nat) (b7 : Nat) (b8 : Nat) (b9 : Nat) (b10 : Nat) (b11 : Nat) (b12 : Nat) (b14 : Nat) (b15 : Nat) (b16 : Nat) (b17 : Nat) (b19 : Nat) (b20 : Nat) (b21 : Nat) (b22 : Nat) (b23 : Nat) (b24 : Nat) (b25 : Nat) (b26 : Nat) (b27 : Nat) (b29 : Nat) (b30 : Nat) (b31 : Nat) (b32 : Nat) (b33 : Nat) (b34 : Nat) (b35 : Nat) (ou : Nat) (T : LT p l e s m below meth c b Q) {H : Heap} {locs : List Loc} {ls : Array Slot} (hP : va_P D vwCl [(g, .inr (8, [.ref nw, .ref la, .ref pn])), (nw, .inr (6, [.int 0, .ref aI, .ref aS, .ref aP, .ref aL, .ref aO, .ref aT, .ref aA, .ref aQ])), (aT, .inr (7, [.int 0, .ref aT1, .ref aT2, .ref aT3, .ref aT4, .ref aT5, .ref aT6])), (mm, .inr (10, [.ref w, .int 0])), (w, .inr (9, [.int 0, .int 0, .ref b2, .ref b3, .ref b4, .ref b5, .int 0, .ref b7, .ref b8, .ref b9, .ref b10, .ref b11, .ref b12, .int 0, .ref b14, .ref b15, .ref b16, .ref b17, .int 0, .ref b19, .ref b20, .ref b21, .ref b22, .ref b23, .ref b24, .ref b25, .ref b26, .ref b27, .int 0, .ref b29, .ref b30, .ref b31, .ref b32, .ref b33, .ref b34, .ref b35]))] H) (hD : va_D (LA s) [(g, .inr (8, [.ref nw, .ref la, .ref pn])), (nw, .inr (6, [.int 0, .ref aI, .ref aS, .ref aP, .ref aL, .ref aO, .ref aT, .ref aA, .ref aQ])), (aT, .inr (7, [.int 0, .ref aT1, .ref aT2, .ref aT3, .ref aT4, .ref aT5, .ref aT6])), (mm, .inr (10, [.ref w, .int 0])), (w, .inr (9, [.int 0, .int 0, .ref b2, .ref b3, .ref b4, .ref b5, .int 0, .ref b7, .ref b8, .ref b9, .ref b10, .ref b11, .ref b12, .int 0, .ref b14, .ref b15, .ref b16, .ref b17, .int 0, .ref b19, .ref b20, .ref b21, .ref b22, .ref b23, .ref b24, .ref b25, .ref b26, .ref b27, .int 0, .ref b29, .ref b30, .ref b31, .ref b32, .ref b33, .ref b34, .ref b35]))]) (hS : va_S (LA s) s.heap H locs) (hl : lv_has ls 9 [(0, .ref b), (1, .ref g), (2, .ref mm), (3, .ref ou), (4, .int 0)]) : W p l e room_1 s m #[Value.ref b] below meth c H locs 123 42908 Q (F0 m 1390 ls []) := by
  obtain ⟨hx, hb, hml, hown, hts, hX, hbl, hC⟩ := C0
  have hK := hC.K
  have hA : ∀ q : Nat, s.heap.size ≤ q → LA s q := fun _ h => h
  have hAlo : ∀ q, LA s q → s.heap.size ≤ q := fun _ h => h
  have hbA : ¬ LA s b := Nat.not_le.mpr hbl
  refine lv_aload_n hx hb dL_law_1390 rfl (lv_at hl 1 rfl) ?_
  refine lv_aload_n hx hb dL_law_1391 rfl (lv_at hl 0 rfl) ?_
  refine lv_iload hx hb dL_law_1392 (lv_at hl 4 rfl) ?_
  refine lv_iconst (v := 1) hx hb dL_law_1394 (by decide) ?_
  refine lv_iadd hx hb dL_law_1395 ?_
  refine lv_toi (y := 1) (by decide) ?_
  refine va_sld hx hb hX hbl hbA hS (by unfold vp_in; decide) dL_law_1396 ?_
  refine lv_toi (y := xs 1) (congrArg xs (by decide)) ?_
  refine lv_aload_n hx hb dL_law_1397 rfl (lv_at hl 0 rfl) ?_
  refine lv_iload hx hb dL_law_1398 (lv_at hl 4 rfl) ?_
  refine lv_iconst (v := 2) hx hb dL_law_1400 (by decide) ?_
  refine lv_iadd hx hb dL_law_1401 ?_
  refine lv_toi (y := 2) (by decide) ?_
  refine va_sld hx hb hX hbl hbA hS (by unfold vp_in; decide) dL_law_1402 ?_
  refine lv_toi (y := xs 2) (congrArg xs (by decide)) ?_
  refine lv_aload_n hx hb dL_law_1403 rfl (lv_at hl 3 rfl) ?_
  have hPc := hP.sub (ws' := [(g, .inr (8, [.ref nw, .ref la, .ref pn])), (nw, .inr (6, [.int 0, .ref aI, .ref aS, .ref aP, .ref aL, .ref aO, .ref aT, .ref aA, .ref aQ])), (aT, .inr (7, [.int 0, .ref aT1, .ref aT2, .ref aT3, .ref aT4, .ref aT5, .ref aT6]))]) [0, 1, 2] rfl
  have hDc := hD.sub (ws' := [(g, .inr (8, [.ref nw, .ref la, .ref pn])), (nw, .inr (6, [.int 0, .ref aI, .ref aS, .ref aP, .ref aL, .ref aO, .ref aT, .ref aA, .ref aQ])), (aT, .inr (7, [.int 0, .ref aT1, .ref aT2, .ref aT3, .ref aT4, .ref aT5, .ref aT6]))]) [0, 1, 2] (by decide) rfl
  have hFc := va_free (wc := [(g, .inr (8, [.ref nw, .ref la, .ref pn])), (nw, .inr (6, [.int 0, .ref aI, .ref aS, .ref aP, .ref aL, .ref aO, .ref aT, .ref aA, .ref aQ])), (aT, .inr (7, [.int 0, .ref aT1, .ref aT2, .ref aT3, .ref aT4, .ref aT5, .ref aT6]))]) hD hS hA [0, 1, 2] rfl
  refine va_calli (vx_runSW (As := [.ref g, .int (xs 1), .int (xs 2), .ref ou]) (rest := []) ⟨hx, hb, hml, hown, hts⟩ (h_ofTransport l hl9 D cI cZ cJ s.heap.size H.size g nw la pn 0 aI aS aP aL aO aT aA aQ aT1 aT2 aT3 aT4 aT5 aT6 (xs 1) (xs 2) ou) (vx_cwSW 4 hts gL_law_L_ofTransport rfl rfl rfl (by decide +kernel) ⟨(Nat.le_of_ble_eq_true rfl), (Nat.le_of_ble_eq_true rfl)⟩) ⟨Pre.blind, Pre.mk hPc (hDc.weaken (fun _ _ _ h => hAlo _ h)) hC hS hAlo⟩ rfl rfl hl.1 rfl (lv_room (Nat.le_of_ble_eq_true rfl)) dL_law_1404 ⟨(Nat.le_of_ble_eq_true rfl), (Nat.le_of_ble_eq_true rfl)⟩) hS (fun q _ h => hFc q h) hFc (fun r_1 u t H1 locs1 ht hvm e_2 hB hz1 hk1 hS1 => ?_)
  have hS := hS1
  refine W.widen (k := 124) (n := 42914) (by omega) (by omega) ?_
  obtain ⟨hP, hD⟩ := va_rest (wr := [(mm, .inr (10, [.ref w, .int 0])), (w, .inr (9, [.int 0, .int 0, .ref b2, .ref b3, .ref b4, .ref b5, .int 0, .ref b7, .ref b8, .ref b9, .ref b10, .ref b11, .ref b12, .int 0, .ref b14, .ref b15, .ref b16, .ref b17, .int 0, .ref b19, .ref b20, .ref b21, .ref b22, .ref b23, .ref b24, .ref b25, .ref b26, .ref b27, .int 0, .ref b29, .ref b30, .ref b31, .ref b32, .ref b33, .ref b34, .ref b35]))]) hP hD [0, 1, 2] [3, 4] rfl rfl (by decide) (by decide) hk1 hFc
  have e_2 : 1 = r_1 := Eq.symm e_2
  subst e_2
  clear hFc hPc hDc ht hvm hz1 hk1 hS1 hB
  generalize H1 = H at hP hS ⊢
  replace hP : va_P D vwCl [(mm, .inr (10, [.ref w, .int 0])), (w, .inr (9, [.int 0, .int 0, .ref b2, .ref b3, .ref b4, .ref b5, .int 0, .ref b7, .ref b8, .ref b9, .ref b10, .ref b11, .ref b12, .int 0, .ref b14, .ref b15, .ref b16, .ref b17, .int 0, .ref b19, .ref b20, .ref b21, .ref b22, .ref b23, .ref b24, .ref b25, .ref b26, .ref b27, .int 0, .ref b29, .ref b30, .ref b31, .ref b32, .ref b33, .ref b34, .ref b35]))] H := hP
  replace hD : va_D (LA s) [(mm, .inr (10, [.ref w, .int 0])), (w, .inr (9, [.int 0, .int 0, .ref b2, .ref b3, .ref b4, .ref b5, .int 0, .ref b7, .ref b8, .ref b9, .ref b10, .ref b11, .ref b12, .int 0, .ref b14, .ref b15, .ref b16, .ref b17, .int 0, .ref b19, .ref b20, .ref b21, .ref b22, .ref b23, .ref b24, .ref b25, .ref b26, .ref b27, .int 0, .ref b29, .ref b30, .ref b31, .ref b32, .ref b33, .ref b34, .ref b35]))] := hD
  refine lv_istore (lv' := [(5, .int 1), (0, .ref b), (1, .ref g), (2, .ref mm), (3, .ref ou), (4, .int 0)]) hx hb dL_law_1407 hl (by decide) rfl (fun ls hl => ?_)
  refine lv_aload_n hx hb dL_law_1409 rfl (lv_at hl 3 rfl) ?_
  refine lv_aload_n hx hb dL_law_1410 rfl (lv_at hl 1 rfl) ?_
  refine lv_iload hx hb dL_law_1411 (lv_at hl 5 rfl) ?_
  refine lv_iconst (v := 1) hx hb dL_law_1413 (by decide) ?_
  refine lv_iadd hx hb dL_law_1414 ?_
  refine lv_toi (y := 1) (by decide) ?_
  refine va_sld hx hb hX hbl hbA hS (by unfold vp_in; decide) dL_law_1415 ?_
  refine lv_toi (y := xs 1) (congrArg xs (by decide)) ?_
  refine lv_aload_n hx hb dL_law_1416 rfl (lv_at hl 1 rfl) ?_
  refine lv_iload hx hb dL_law_1417 (lv_at hl 5 rfl) ?_
  refine lv_iconst (v := 2) hx hb dL_law_1419 (by decide) ?_
  refine lv_iadd hx hb dL_law_1420 ?_
  refine lv_toi (y := 2) (by decide) ?_
  refine va_sld hx hb hX hbl hbA hS (by unfold vp_in; decide) dL_law_1421 ?_
  refine lv_toi (y := xs 2) (congrArg xs (by decide)) ?_
  have hPc := hP.sub (ws' := [(mm, .inr (10, [.ref w, .int 0])), (w, .inr (9, [.int 0, .int 0, .ref b2, .ref b3, .ref b4, .ref b5, .int 0, .ref b7, .ref b8, .ref b9, .ref b10, .ref b11, .ref b12, .int 0, .ref b14, .ref b15, .ref b16, .ref b17, .int 0, .ref b19, .ref b20, .ref b21, .ref b22, .ref b23, .ref b24, .ref b25, .ref b26, .ref b27, .int 0, .ref b29, .ref b30, .ref b31, .ref b32, .ref b33, .ref b34, .ref b35]))]) [0, 1] rfl
  have hDc := hD.sub (ws' := [(mm, .inr (10, [.ref w, .int 0])), (w, .inr (9, [.int 0, .int 0, .ref b2, .ref b3, .ref b4, .ref b5, .int 0, .ref b7, .ref b8, .ref b9, .ref b10, .ref b11, .ref b12, .int 0, .ref b14, .ref b15, .ref b16, .ref b17, .int 0, .ref b19, .ref b20, .ref b21, .ref b22, .ref b23, .ref b24, .ref b25, .ref b26, .ref b27, .int 0, .ref b29, .ref b30, .ref b31, .ref b32, .ref b33, .ref b34, .ref b35]))]) [0, 1] (by decide) rfl
  have hFc := va_free (wc := [(mm, .inr (10, [.ref w, .int 0])), (w, .inr (9, [.int 0, .int 0, .ref b2, .ref b3, .ref b4, .ref b5, .int 0, .ref b7, .ref b8, .ref b9, .ref b10, .ref b11, .ref b12, .int 0, .ref b14, .ref b15, .ref b16, .ref b17, .int 0, .ref b19, .ref b20, .ref b21, .ref b22, .ref b23, .ref b24, .ref b25, .ref b26, .ref b27, .int 0, .ref b29, .ref b30, .ref b31, .ref b32, .ref b33, .ref b34, .ref b35]))]) hD hS hA [0, 1] rfl
  refine va_calli (va_runV (As := [.int (xs 1), .int (xs 2)]) (rest := []) ⟨hx, hb, hml, hown, hts⟩ (m_ofTransport l D cI cZ cJ s.heap.size H.size mm 0 w 0 b2 b3 b4 b5 b7 b8 b9 b10 b11 b12 b14 b15 b16 b17 b19 b20 b21 b22 b23 b24 b25 b26 b27 b29 b30 b31 b32 b33 b34 b35 (xs 1) (xs 2)) (cwV 2 hts gL_law_X10_ofTransport rfl rfl rfl (by decide +kernel) ⟨(Nat.le_of_ble_eq_true rfl), (Nat.le_of_ble_eq_true rfl)⟩) ⟨Pre.blind, va_recv hK hP (ci := 10) (q0 := 0) rfl rfl, Pre.mk hPc (hDc.weaken (fun _ _ _ h => hAlo _ h)) hC hS hAlo⟩ rfl rfl hl.1 rfl (lv_room (Nat.le_of_ble_eq_true rfl)) dL_law_1422 ⟨(Nat.le_of_ble_eq_true rfl), (Nat.le_of_ble_eq_true rfl)⟩) hS (fun q _ h => hFc q h) hFc (fun r_3 u t H1 locs1 ht hvm e_4 hB hz1 hk1 hS1 => ?_)
  have hS := hS1
  refine W.widen (k := 124) (n := 42914) (by omega) (by omega) ?_
  obtain ⟨hP1, hD1⟩ := hB
  rw [ht] at hP1
  obtain ⟨hP, hD⟩ := va_join (wr := []) (w1 := [(mm, .inr (10, [.ref w, .int 1]))]) hP hD [0, 1] [] rfl rfl (by decide) (by decide) hk1 hFc hP1 hD1
  have e_4 : 0 = r_3 := Eq.symm e_4
  subst e_4
  clear hFc hPc hDc ht hvm hz1 hk1 hS1 hP1 hD1
  generalize H1 = H at hP hS ⊢
  replace hP : va_P D vwCl [(mm, .inr (10, [.ref w, .int 1]))] H := hP
  replace hD : va_D (LA s) [(mm, .inr (10, [.ref w, .int 1]))] := hD
  refine lv_istore (lv' := [(6, .int 0), (5, .int 1), (0, .ref b), (1, .ref g), (2, .ref mm), (3, .ref ou), (4, .int 0)]) hx hb dL_law_1425 hl (by decide) rfl (fun ls hl => ?_)
  refine lv_aload_n hx hb dL_law_1427 rfl (lv_at hl 4 rfl) ?_
  have hPc := hP.sub (ws' := [(mm, .inr (10, [.ref w, .int 1]))]) [0] rfl
  have hDc := hD.sub (ws' := [(mm, .inr (10, [.ref w, .int 1]))]) [0] (by decide) rfl
  refine vp_callSi (W.runV (As := []) (rest := []) ⟨hx, hb, hml, hown, hts⟩ (c_thrown l D cI cZ cJ s.heap.size H.size mm 1 w) (cwV 0 hts gL_law_X10_thrown rfl rfl rfl (by decide +kernel) ⟨(Nat.le_of_ble_eq_true rfl), (Nat.le_of_ble_eq_true rfl)⟩) ⟨Pre.blind, va_recv hK hP (ci := 10) (q0 := 0) rfl rfl, Pre.mk hPc (hDc.weaken (fun _ _ _ h => hAlo _ h)) hC hS hAlo⟩ rfl rfl hl.1 rfl (lv_room (Nat.le_of_ble_eq_true rfl)) dL_law_1428 ⟨(Nat.le_of_ble_eq_true rfl), (Nat.le_of_ble_eq_true rfl)⟩) (fun r_5 e_6 => ?_)
  clear hPc hDc
  have e_6 : 1 = r_5 := Eq.symm e_6
  subst e_6
  refine lv_iload hx hb dL_law_1431 (lv_at hl 1 rfl) ?_
  refine lv_icmp_eq (tgt := 1438) hx hb dL_law_1433 (by decide) (fun _ => ?_) (fun c9 => absurd (show (1 : Int32) = (1 : Int32) from (by decide)) c9)
  refine lv_iload hx hb dL_law_1438 (lv_at hl 1 rfl) ?_
  refine lv_if_ne (tgt := 1455) hx hb dL_law_1440 (by decide) (fun _ => ?_) (fun c9 => absurd c9 (show ¬ (1 : Int32) = (0 : Int32) from (by decide)))
  refine lv_goto (tgt := 2855) hx hb dL_law_1455 (by decide) ?_
  refine W.widen (k := 1000) (n := 200000) (Nat.le_of_ble_eq_true rfl) (Nat.le_of_ble_eq_true rfl) ?_
  exact T H _ ls hS (lv_sub hl [2, 6] rfl)

set_option maxHeartbeats 4000000 in
set_option maxRecDepth 100000 in
/-- the law at a call of route -/
theorem law_route {p : Program} {l : Launch} {e : Env} {s : State} {m : MethodId} {below : List Frame} {meth : Method} {c : Code} {Q : State → Prop} (hl9 : l.stackTraces = false) (D : va_G) (cI cZ cJ : ClassId) (b : Nat) (xs : Nat → Int32) (C0 : LC s p m c D cI cZ cJ b xs) (g : Nat) (nw : Nat) (la : Nat) (pn : Nat) (aI : Nat) (aS : Nat) (aP : Nat) (aL : Nat) (aO : Nat) (aT : Nat) (aA : Nat) (aQ : Nat) (aS1 : Nat) (aS2 : Nat) (mm : Nat) (w : Nat) (b2 : Nat) (b3 : Nat) (b4 : Nat) (b5 : Nat) (b7 : Nat) (b8 : Nat) (b9 : Nat) (b10 : Nat) (b11 : Nat) (b12 : Nat) (b14 : Nat) (b15 : Nat) (b16 : Nat) (b17 : Nat) (b19 : Nat) (b20 : Nat) (b21 : Nat) (b22 : Nat) (b23 : Nat) (b24 : Nat) (b25 : Nat) (b26 : Nat) (b27 : Nat) (b29 : Nat) (b30 : Nat) (b31 : Nat) (b32 : Nat) (b33 : Nat) (b34 : Nat) (b35 : Nat) (ou : Nat) (T : LT p l e s m below meth c b Q) {H : Heap} {locs : List Loc} {ls : Array Slot} (hP : va_P D vwCl [(g, .inr (8, [.ref nw, .ref la, .ref pn])), (nw, .inr (6, [.int 0, .ref aI, .ref aS, .ref aP, .ref aL, .ref aO, .ref aT, .ref aA, .ref aQ])), (aS, .inr (5, [.int 0, .ref aS1, .ref aS2])), (mm, .inr (10, [.ref w, .int 0])), (w, .inr (9, [.int 0, .int 0, .ref b2, .ref b3, .ref b4, .ref b5, .int 0, .ref b7, .ref b8, .ref b9, .ref b10, .ref b11, .ref b12, .int 0, .ref b14, .ref b15, .ref b16, .ref b17, .int 0, .ref b19, .ref b20, .ref b21, .ref b22, .ref b23, .ref b24, .ref b25, .ref b26, .ref b27, .int 0, .ref b29, .ref b30, .ref b31, .ref b32, .ref b33, .ref b34, .ref b35]))] H) (hD : va_D (LA s) [(g, .inr (8, [.ref nw, .ref la, .ref pn])), (nw, .inr (6, [.int 0, .ref aI, .ref aS, .ref aP, .ref aL, .ref aO, .ref aT, .ref aA, .ref aQ])), (aS, .inr (5, [.int 0, .ref aS1, .ref aS2])), (mm, .inr (10, [.ref w, .int 0])), (w, .inr (9, [.int 0, .int 0, .ref b2, .ref b3, .ref b4, .ref b5, .int 0, .ref b7, .ref b8, .ref b9, .ref b10, .ref b11, .ref b12, .int 0, .ref b14, .ref b15, .ref b16, .ref b17, .int 0, .ref b19, .ref b20, .ref b21, .ref b22, .ref b23, .ref b24, .ref b25, .ref b26, .ref b27, .int 0, .ref b29, .ref b30, .ref b31, .ref b32, .ref b33, .ref b34, .ref b35]))]) (hS : va_S (LA s) s.heap H locs) (hl : lv_has ls 9 [(0, .ref b), (1, .ref g), (2, .ref mm), (3, .ref ou), (4, .int 0)]) : W p l e room_1 s m #[Value.ref b] below meth c H locs 123 42908 Q (F0 m 1458 ls []) := by
  obtain ⟨hx, hb, hml, hown, hts, hX, hbl, hC⟩ := C0
  have hK := hC.K
  have hA : ∀ q : Nat, s.heap.size ≤ q → LA s q := fun _ h => h
  have hAlo : ∀ q, LA s q → s.heap.size ≤ q := fun _ h => h
  have hbA : ¬ LA s b := Nat.not_le.mpr hbl
  refine lv_aload_n hx hb dL_law_1458 rfl (lv_at hl 1 rfl) ?_
  refine lv_aload_n hx hb dL_law_1459 rfl (lv_at hl 0 rfl) ?_
  refine lv_iload hx hb dL_law_1460 (lv_at hl 4 rfl) ?_
  refine lv_iconst (v := 1) hx hb dL_law_1462 (by decide) ?_
  refine lv_iadd hx hb dL_law_1463 ?_
  refine lv_toi (y := 1) (by decide) ?_
  refine va_sld hx hb hX hbl hbA hS (by unfold vp_in; decide) dL_law_1464 ?_
  refine lv_toi (y := xs 1) (congrArg xs (by decide)) ?_
  refine lv_aload_n hx hb dL_law_1465 rfl (lv_at hl 0 rfl) ?_
  refine lv_iload hx hb dL_law_1466 (lv_at hl 4 rfl) ?_
  refine lv_iconst (v := 2) hx hb dL_law_1468 (by decide) ?_
  refine lv_iadd hx hb dL_law_1469 ?_
  refine lv_toi (y := 2) (by decide) ?_
  refine va_sld hx hb hX hbl hbA hS (by unfold vp_in; decide) dL_law_1470 ?_
  refine lv_toi (y := xs 2) (congrArg xs (by decide)) ?_
  refine lv_aload_n hx hb dL_law_1471 rfl (lv_at hl 3 rfl) ?_
  have hPc := hP.sub (ws' := [(g, .inr (8, [.ref nw, .ref la, .ref pn])), (nw, .inr (6, [.int 0, .ref aI, .ref aS, .ref aP, .ref aL, .ref aO, .ref aT, .ref aA, .ref aQ])), (aS, .inr (5, [.int 0, .ref aS1, .ref aS2]))]) [0, 1, 2] rfl
  have hDc := hD.sub (ws' := [(g, .inr (8, [.ref nw, .ref la, .ref pn])), (nw, .inr (6, [.int 0, .ref aI, .ref aS, .ref aP, .ref aL, .ref aO, .ref aT, .ref aA, .ref aQ])), (aS, .inr (5, [.int 0, .ref aS1, .ref aS2]))]) [0, 1, 2] (by decide) rfl
  have hFc := va_free (wc := [(g, .inr (8, [.ref nw, .ref la, .ref pn])), (nw, .inr (6, [.int 0, .ref aI, .ref aS, .ref aP, .ref aL, .ref aO, .ref aT, .ref aA, .ref aQ])), (aS, .inr (5, [.int 0, .ref aS1, .ref aS2]))]) hD hS hA [0, 1, 2] rfl
  refine va_calli (vx_runSW (As := [.ref g, .int (xs 1), .int (xs 2), .ref ou]) (rest := []) ⟨hx, hb, hml, hown, hts⟩ (h_route l hl9 D cI cZ cJ s.heap.size H.size g nw la pn 0 aI aS aP aL aO aT aA aQ aS1 aS2 (xs 1) (xs 2) ou) (vx_cwSW 4 hts gL_law_L_route rfl rfl rfl (by decide +kernel) ⟨(Nat.le_of_ble_eq_true rfl), (Nat.le_of_ble_eq_true rfl)⟩) ⟨Pre.blind, Pre.mk hPc (hDc.weaken (fun _ _ _ h => hAlo _ h)) hC hS hAlo⟩ rfl rfl hl.1 rfl (lv_room (Nat.le_of_ble_eq_true rfl)) dL_law_1472 ⟨(Nat.le_of_ble_eq_true rfl), (Nat.le_of_ble_eq_true rfl)⟩) hS (fun q _ h => hFc q h) hFc (fun r_1 u t H1 locs1 ht hvm e_2 hB hz1 hk1 hS1 => ?_)
  have hS := hS1
  refine W.widen (k := 124) (n := 42914) (by omega) (by omega) ?_
  obtain ⟨hP, hD⟩ := va_rest (wr := [(mm, .inr (10, [.ref w, .int 0])), (w, .inr (9, [.int 0, .int 0, .ref b2, .ref b3, .ref b4, .ref b5, .int 0, .ref b7, .ref b8, .ref b9, .ref b10, .ref b11, .ref b12, .int 0, .ref b14, .ref b15, .ref b16, .ref b17, .int 0, .ref b19, .ref b20, .ref b21, .ref b22, .ref b23, .ref b24, .ref b25, .ref b26, .ref b27, .int 0, .ref b29, .ref b30, .ref b31, .ref b32, .ref b33, .ref b34, .ref b35]))]) hP hD [0, 1, 2] [3, 4] rfl rfl (by decide) (by decide) hk1 hFc
  have e_2 : 1 = r_1 := Eq.symm e_2
  subst e_2
  clear hFc hPc hDc ht hvm hz1 hk1 hS1 hB
  generalize H1 = H at hP hS ⊢
  replace hP : va_P D vwCl [(mm, .inr (10, [.ref w, .int 0])), (w, .inr (9, [.int 0, .int 0, .ref b2, .ref b3, .ref b4, .ref b5, .int 0, .ref b7, .ref b8, .ref b9, .ref b10, .ref b11, .ref b12, .int 0, .ref b14, .ref b15, .ref b16, .ref b17, .int 0, .ref b19, .ref b20, .ref b21, .ref b22, .ref b23, .ref b24, .ref b25, .ref b26, .ref b27, .int 0, .ref b29, .ref b30, .ref b31, .ref b32, .ref b33, .ref b34, .ref b35]))] H := hP
  replace hD : va_D (LA s) [(mm, .inr (10, [.ref w, .int 0])), (w, .inr (9, [.int 0, .int 0, .ref b2, .ref b3, .ref b4, .ref b5, .int 0, .ref b7, .ref b8, .ref b9, .ref b10, .ref b11, .ref b12, .int 0, .ref b14, .ref b15, .ref b16, .ref b17, .int 0, .ref b19, .ref b20, .ref b21, .ref b22, .ref b23, .ref b24, .ref b25, .ref b26, .ref b27, .int 0, .ref b29, .ref b30, .ref b31, .ref b32, .ref b33, .ref b34, .ref b35]))] := hD
  refine lv_istore (lv' := [(5, .int 1), (0, .ref b), (1, .ref g), (2, .ref mm), (3, .ref ou), (4, .int 0)]) hx hb dL_law_1475 hl (by decide) rfl (fun ls hl => ?_)
  refine lv_aload_n hx hb dL_law_1477 rfl (lv_at hl 3 rfl) ?_
  refine lv_aload_n hx hb dL_law_1478 rfl (lv_at hl 1 rfl) ?_
  refine lv_iload hx hb dL_law_1479 (lv_at hl 5 rfl) ?_
  refine lv_iconst (v := 1) hx hb dL_law_1481 (by decide) ?_
  refine lv_iadd hx hb dL_law_1482 ?_
  refine lv_toi (y := 1) (by decide) ?_
  refine va_sld hx hb hX hbl hbA hS (by unfold vp_in; decide) dL_law_1483 ?_
  refine lv_toi (y := xs 1) (congrArg xs (by decide)) ?_
  refine lv_aload_n hx hb dL_law_1484 rfl (lv_at hl 1 rfl) ?_
  refine lv_iload hx hb dL_law_1485 (lv_at hl 5 rfl) ?_
  refine lv_iconst (v := 2) hx hb dL_law_1487 (by decide) ?_
  refine lv_iadd hx hb dL_law_1488 ?_
  refine lv_toi (y := 2) (by decide) ?_
  refine va_sld hx hb hX hbl hbA hS (by unfold vp_in; decide) dL_law_1489 ?_
  refine lv_toi (y := xs 2) (congrArg xs (by decide)) ?_
  have hPc := hP.sub (ws' := [(mm, .inr (10, [.ref w, .int 0])), (w, .inr (9, [.int 0, .int 0, .ref b2, .ref b3, .ref b4, .ref b5, .int 0, .ref b7, .ref b8, .ref b9, .ref b10, .ref b11, .ref b12, .int 0, .ref b14, .ref b15, .ref b16, .ref b17, .int 0, .ref b19, .ref b20, .ref b21, .ref b22, .ref b23, .ref b24, .ref b25, .ref b26, .ref b27, .int 0, .ref b29, .ref b30, .ref b31, .ref b32, .ref b33, .ref b34, .ref b35]))]) [0, 1] rfl
  have hDc := hD.sub (ws' := [(mm, .inr (10, [.ref w, .int 0])), (w, .inr (9, [.int 0, .int 0, .ref b2, .ref b3, .ref b4, .ref b5, .int 0, .ref b7, .ref b8, .ref b9, .ref b10, .ref b11, .ref b12, .int 0, .ref b14, .ref b15, .ref b16, .ref b17, .int 0, .ref b19, .ref b20, .ref b21, .ref b22, .ref b23, .ref b24, .ref b25, .ref b26, .ref b27, .int 0, .ref b29, .ref b30, .ref b31, .ref b32, .ref b33, .ref b34, .ref b35]))]) [0, 1] (by decide) rfl
  have hFc := va_free (wc := [(mm, .inr (10, [.ref w, .int 0])), (w, .inr (9, [.int 0, .int 0, .ref b2, .ref b3, .ref b4, .ref b5, .int 0, .ref b7, .ref b8, .ref b9, .ref b10, .ref b11, .ref b12, .int 0, .ref b14, .ref b15, .ref b16, .ref b17, .int 0, .ref b19, .ref b20, .ref b21, .ref b22, .ref b23, .ref b24, .ref b25, .ref b26, .ref b27, .int 0, .ref b29, .ref b30, .ref b31, .ref b32, .ref b33, .ref b34, .ref b35]))]) hD hS hA [0, 1] rfl
  refine va_calli (va_runV (As := [.int (xs 1), .int (xs 2)]) (rest := []) ⟨hx, hb, hml, hown, hts⟩ (m_route l D cI cZ cJ s.heap.size H.size mm 0 w 0 b2 b3 b4 b5 b7 b8 b9 b10 b11 b12 b14 b15 b16 b17 b19 b20 b21 b22 b23 b24 b25 b26 b27 b29 b30 b31 b32 b33 b34 b35 (xs 1) (xs 2)) (cwV 2 hts gL_law_X10_route rfl rfl rfl (by decide +kernel) ⟨(Nat.le_of_ble_eq_true rfl), (Nat.le_of_ble_eq_true rfl)⟩) ⟨Pre.blind, va_recv hK hP (ci := 10) (q0 := 0) rfl rfl, Pre.mk hPc (hDc.weaken (fun _ _ _ h => hAlo _ h)) hC hS hAlo⟩ rfl rfl hl.1 rfl (lv_room (Nat.le_of_ble_eq_true rfl)) dL_law_1490 ⟨(Nat.le_of_ble_eq_true rfl), (Nat.le_of_ble_eq_true rfl)⟩) hS (fun q _ h => hFc q h) hFc (fun r_3 u t H1 locs1 ht hvm e_4 hB hz1 hk1 hS1 => ?_)
  have hS := hS1
  refine W.widen (k := 124) (n := 42914) (by omega) (by omega) ?_
  obtain ⟨hP1, hD1⟩ := hB
  rw [ht] at hP1
  obtain ⟨hP, hD⟩ := va_join (wr := []) (w1 := [(mm, .inr (10, [.ref w, .int 1]))]) hP hD [0, 1] [] rfl rfl (by decide) (by decide) hk1 hFc hP1 hD1
  have e_4 : 0 = r_3 := Eq.symm e_4
  subst e_4
  clear hFc hPc hDc ht hvm hz1 hk1 hS1 hP1 hD1
  generalize H1 = H at hP hS ⊢
  replace hP : va_P D vwCl [(mm, .inr (10, [.ref w, .int 1]))] H := hP
  replace hD : va_D (LA s) [(mm, .inr (10, [.ref w, .int 1]))] := hD
  refine lv_istore (lv' := [(6, .int 0), (5, .int 1), (0, .ref b), (1, .ref g), (2, .ref mm), (3, .ref ou), (4, .int 0)]) hx hb dL_law_1493 hl (by decide) rfl (fun ls hl => ?_)
  refine lv_aload_n hx hb dL_law_1495 rfl (lv_at hl 4 rfl) ?_
  have hPc := hP.sub (ws' := [(mm, .inr (10, [.ref w, .int 1]))]) [0] rfl
  have hDc := hD.sub (ws' := [(mm, .inr (10, [.ref w, .int 1]))]) [0] (by decide) rfl
  refine vp_callSi (W.runV (As := []) (rest := []) ⟨hx, hb, hml, hown, hts⟩ (c_thrown l D cI cZ cJ s.heap.size H.size mm 1 w) (cwV 0 hts gL_law_X10_thrown rfl rfl rfl (by decide +kernel) ⟨(Nat.le_of_ble_eq_true rfl), (Nat.le_of_ble_eq_true rfl)⟩) ⟨Pre.blind, va_recv hK hP (ci := 10) (q0 := 0) rfl rfl, Pre.mk hPc (hDc.weaken (fun _ _ _ h => hAlo _ h)) hC hS hAlo⟩ rfl rfl hl.1 rfl (lv_room (Nat.le_of_ble_eq_true rfl)) dL_law_1496 ⟨(Nat.le_of_ble_eq_true rfl), (Nat.le_of_ble_eq_true rfl)⟩) (fun r_5 e_6 => ?_)
  clear hPc hDc
  have e_6 : 1 = r_5 := Eq.symm e_6
  subst e_6
  refine lv_iload hx hb dL_law_1499 (lv_at hl 1 rfl) ?_
  refine lv_icmp_eq (tgt := 1506) hx hb dL_law_1501 (by decide) (fun _ => ?_) (fun c9 => absurd (show (1 : Int32) = (1 : Int32) from (by decide)) c9)
  refine lv_iload hx hb dL_law_1506 (lv_at hl 1 rfl) ?_
  refine lv_if_ne (tgt := 1523) hx hb dL_law_1508 (by decide) (fun _ => ?_) (fun c9 => absurd c9 (show ¬ (1 : Int32) = (0 : Int32) from (by decide)))
  refine lv_goto (tgt := 2855) hx hb dL_law_1523 (by decide) ?_
  refine W.widen (k := 1000) (n := 200000) (Nat.le_of_ble_eq_true rfl) (Nat.le_of_ble_eq_true rfl) ?_
  exact T H _ ls hS (lv_sub hl [2, 6] rfl)

set_option maxHeartbeats 4000000 in
set_option maxRecDepth 100000 in
/-- the law at a call of hasPolicy -/
theorem law_hasPolicy {p : Program} {l : Launch} {e : Env} {s : State} {m : MethodId} {below : List Frame} {meth : Method} {c : Code} {Q : State → Prop} (hl9 : l.stackTraces = false) (D : va_G) (cI cZ cJ : ClassId) (b : Nat) (xs : Nat → Int32) (C0 : LC s p m c D cI cZ cJ b xs) (g : Nat) (nw : Nat) (la : Nat) (pn : Nat) (aI : Nat) (aS : Nat) (aP : Nat) (aL : Nat) (aO : Nat) (aT : Nat) (aA : Nat) (aQ : Nat) (aI1 : Nat) (aI2 : Nat) (aI3 : Nat) (aI4 : Nat) (mm : Nat) (w : Nat) (b2 : Nat) (b3 : Nat) (b4 : Nat) (b5 : Nat) (b7 : Nat) (b8 : Nat) (b9 : Nat) (b10 : Nat) (b11 : Nat) (b12 : Nat) (b14 : Nat) (b15 : Nat) (b16 : Nat) (b17 : Nat) (b19 : Nat) (b20 : Nat) (b21 : Nat) (b22 : Nat) (b23 : Nat) (b24 : Nat) (b25 : Nat) (b26 : Nat) (b27 : Nat) (b29 : Nat) (b30 : Nat) (b31 : Nat) (b32 : Nat) (b33 : Nat) (b34 : Nat) (b35 : Nat) (ou : Nat) (T : LT p l e s m below meth c b Q) {H : Heap} {locs : List Loc} {ls : Array Slot} (hP : va_P D vwCl [(g, .inr (8, [.ref nw, .ref la, .ref pn])), (nw, .inr (6, [.int 0, .ref aI, .ref aS, .ref aP, .ref aL, .ref aO, .ref aT, .ref aA, .ref aQ])), (aI, .inr (0, [.int 0, .ref aI1, .ref aI2, .ref aI3, .ref aI4])), (mm, .inr (10, [.ref w, .int 0])), (w, .inr (9, [.int 0, .int 0, .ref b2, .ref b3, .ref b4, .ref b5, .int 0, .ref b7, .ref b8, .ref b9, .ref b10, .ref b11, .ref b12, .int 0, .ref b14, .ref b15, .ref b16, .ref b17, .int 0, .ref b19, .ref b20, .ref b21, .ref b22, .ref b23, .ref b24, .ref b25, .ref b26, .ref b27, .int 0, .ref b29, .ref b30, .ref b31, .ref b32, .ref b33, .ref b34, .ref b35]))] H) (hD : va_D (LA s) [(g, .inr (8, [.ref nw, .ref la, .ref pn])), (nw, .inr (6, [.int 0, .ref aI, .ref aS, .ref aP, .ref aL, .ref aO, .ref aT, .ref aA, .ref aQ])), (aI, .inr (0, [.int 0, .ref aI1, .ref aI2, .ref aI3, .ref aI4])), (mm, .inr (10, [.ref w, .int 0])), (w, .inr (9, [.int 0, .int 0, .ref b2, .ref b3, .ref b4, .ref b5, .int 0, .ref b7, .ref b8, .ref b9, .ref b10, .ref b11, .ref b12, .int 0, .ref b14, .ref b15, .ref b16, .ref b17, .int 0, .ref b19, .ref b20, .ref b21, .ref b22, .ref b23, .ref b24, .ref b25, .ref b26, .ref b27, .int 0, .ref b29, .ref b30, .ref b31, .ref b32, .ref b33, .ref b34, .ref b35]))]) (hS : va_S (LA s) s.heap H locs) (hl : lv_has ls 9 [(0, .ref b), (1, .ref g), (2, .ref mm), (3, .ref ou), (4, .int 0)]) : W p l e room_1 s m #[Value.ref b] below meth c H locs 123 42908 Q (F0 m 1526 ls []) := by
  obtain ⟨hx, hb, hml, hown, hts, hX, hbl, hC⟩ := C0
  have hK := hC.K
  have hA : ∀ q : Nat, s.heap.size ≤ q → LA s q := fun _ h => h
  have hAlo : ∀ q, LA s q → s.heap.size ≤ q := fun _ h => h
  have hbA : ¬ LA s b := Nat.not_le.mpr hbl
  refine lv_aload_n hx hb dL_law_1526 rfl (lv_at hl 1 rfl) ?_
  refine lv_aload_n hx hb dL_law_1527 rfl (lv_at hl 0 rfl) ?_
  refine lv_iload hx hb dL_law_1528 (lv_at hl 4 rfl) ?_
  refine lv_iconst (v := 1) hx hb dL_law_1530 (by decide) ?_
  refine lv_iadd hx hb dL_law_1531 ?_
  refine lv_toi (y := 1) (by decide) ?_
  refine va_sld hx hb hX hbl hbA hS (by unfold vp_in; decide) dL_law_1532 ?_
  refine lv_toi (y := xs 1) (congrArg xs (by decide)) ?_
  refine lv_aload_n hx hb dL_law_1533 rfl (lv_at hl 0 rfl) ?_
  refine lv_iload hx hb dL_law_1534 (lv_at hl 4 rfl) ?_
  refine lv_iconst (v := 2) hx hb dL_law_1536 (by decide) ?_
  refine lv_iadd hx hb dL_law_1537 ?_
  refine lv_toi (y := 2) (by decide) ?_
  refine va_sld hx hb hX hbl hbA hS (by unfold vp_in; decide) dL_law_1538 ?_
  refine lv_toi (y := xs 2) (congrArg xs (by decide)) ?_
  refine lv_aload_n hx hb dL_law_1539 rfl (lv_at hl 3 rfl) ?_
  have hPc := hP.sub (ws' := [(g, .inr (8, [.ref nw, .ref la, .ref pn])), (nw, .inr (6, [.int 0, .ref aI, .ref aS, .ref aP, .ref aL, .ref aO, .ref aT, .ref aA, .ref aQ])), (aI, .inr (0, [.int 0, .ref aI1, .ref aI2, .ref aI3, .ref aI4]))]) [0, 1, 2] rfl
  have hDc := hD.sub (ws' := [(g, .inr (8, [.ref nw, .ref la, .ref pn])), (nw, .inr (6, [.int 0, .ref aI, .ref aS, .ref aP, .ref aL, .ref aO, .ref aT, .ref aA, .ref aQ])), (aI, .inr (0, [.int 0, .ref aI1, .ref aI2, .ref aI3, .ref aI4]))]) [0, 1, 2] (by decide) rfl
  have hFc := va_free (wc := [(g, .inr (8, [.ref nw, .ref la, .ref pn])), (nw, .inr (6, [.int 0, .ref aI, .ref aS, .ref aP, .ref aL, .ref aO, .ref aT, .ref aA, .ref aQ])), (aI, .inr (0, [.int 0, .ref aI1, .ref aI2, .ref aI3, .ref aI4]))]) hD hS hA [0, 1, 2] rfl
  refine va_calli (vx_runSW (As := [.ref g, .int (xs 1), .int (xs 2), .ref ou]) (rest := []) ⟨hx, hb, hml, hown, hts⟩ (h_hasPolicy l hl9 D cI cZ cJ s.heap.size H.size g nw la pn 0 aI aS aP aL aO aT aA aQ aI1 aI2 aI3 aI4 (xs 1) (xs 2) ou) (vx_cwSW 4 hts gL_law_L_hasPolicy rfl rfl rfl (by decide +kernel) ⟨(Nat.le_of_ble_eq_true rfl), (Nat.le_of_ble_eq_true rfl)⟩) ⟨Pre.blind, Pre.mk hPc (hDc.weaken (fun _ _ _ h => hAlo _ h)) hC hS hAlo⟩ rfl rfl hl.1 rfl (lv_room (Nat.le_of_ble_eq_true rfl)) dL_law_1540 ⟨(Nat.le_of_ble_eq_true rfl), (Nat.le_of_ble_eq_true rfl)⟩) hS (fun q _ h => hFc q h) hFc (fun r_1 u t H1 locs1 ht hvm e_2 hB hz1 hk1 hS1 => ?_)
  have hS := hS1
  refine W.widen (k := 124) (n := 42914) (by omega) (by omega) ?_
  obtain ⟨hP, hD⟩ := va_rest (wr := [(mm, .inr (10, [.ref w, .int 0])), (w, .inr (9, [.int 0, .int 0, .ref b2, .ref b3, .ref b4, .ref b5, .int 0, .ref b7, .ref b8, .ref b9, .ref b10, .ref b11, .ref b12, .int 0, .ref b14, .ref b15, .ref b16, .ref b17, .int 0, .ref b19, .ref b20, .ref b21, .ref b22, .ref b23, .ref b24, .ref b25, .ref b26, .ref b27, .int 0, .ref b29, .ref b30, .ref b31, .ref b32, .ref b33, .ref b34, .ref b35]))]) hP hD [0, 1, 2] [3, 4] rfl rfl (by decide) (by decide) hk1 hFc
  have e_2 : 1 = r_1 := Eq.symm e_2
  subst e_2
  clear hFc hPc hDc ht hvm hz1 hk1 hS1 hB
  generalize H1 = H at hP hS ⊢
  replace hP : va_P D vwCl [(mm, .inr (10, [.ref w, .int 0])), (w, .inr (9, [.int 0, .int 0, .ref b2, .ref b3, .ref b4, .ref b5, .int 0, .ref b7, .ref b8, .ref b9, .ref b10, .ref b11, .ref b12, .int 0, .ref b14, .ref b15, .ref b16, .ref b17, .int 0, .ref b19, .ref b20, .ref b21, .ref b22, .ref b23, .ref b24, .ref b25, .ref b26, .ref b27, .int 0, .ref b29, .ref b30, .ref b31, .ref b32, .ref b33, .ref b34, .ref b35]))] H := hP
  replace hD : va_D (LA s) [(mm, .inr (10, [.ref w, .int 0])), (w, .inr (9, [.int 0, .int 0, .ref b2, .ref b3, .ref b4, .ref b5, .int 0, .ref b7, .ref b8, .ref b9, .ref b10, .ref b11, .ref b12, .int 0, .ref b14, .ref b15, .ref b16, .ref b17, .int 0, .ref b19, .ref b20, .ref b21, .ref b22, .ref b23, .ref b24, .ref b25, .ref b26, .ref b27, .int 0, .ref b29, .ref b30, .ref b31, .ref b32, .ref b33, .ref b34, .ref b35]))] := hD
  refine lv_istore (lv' := [(5, .int 1), (0, .ref b), (1, .ref g), (2, .ref mm), (3, .ref ou), (4, .int 0)]) hx hb dL_law_1543 hl (by decide) rfl (fun ls hl => ?_)
  refine lv_aload_n hx hb dL_law_1545 rfl (lv_at hl 3 rfl) ?_
  refine lv_aload_n hx hb dL_law_1546 rfl (lv_at hl 1 rfl) ?_
  refine lv_iload hx hb dL_law_1547 (lv_at hl 5 rfl) ?_
  refine lv_iconst (v := 1) hx hb dL_law_1549 (by decide) ?_
  refine lv_iadd hx hb dL_law_1550 ?_
  refine lv_toi (y := 1) (by decide) ?_
  refine va_sld hx hb hX hbl hbA hS (by unfold vp_in; decide) dL_law_1551 ?_
  refine lv_toi (y := xs 1) (congrArg xs (by decide)) ?_
  refine lv_aload_n hx hb dL_law_1552 rfl (lv_at hl 1 rfl) ?_
  refine lv_iload hx hb dL_law_1553 (lv_at hl 5 rfl) ?_
  refine lv_iconst (v := 2) hx hb dL_law_1555 (by decide) ?_
  refine lv_iadd hx hb dL_law_1556 ?_
  refine lv_toi (y := 2) (by decide) ?_
  refine va_sld hx hb hX hbl hbA hS (by unfold vp_in; decide) dL_law_1557 ?_
  refine lv_toi (y := xs 2) (congrArg xs (by decide)) ?_
  have hPc := hP.sub (ws' := [(mm, .inr (10, [.ref w, .int 0])), (w, .inr (9, [.int 0, .int 0, .ref b2, .ref b3, .ref b4, .ref b5, .int 0, .ref b7, .ref b8, .ref b9, .ref b10, .ref b11, .ref b12, .int 0, .ref b14, .ref b15, .ref b16, .ref b17, .int 0, .ref b19, .ref b20, .ref b21, .ref b22, .ref b23, .ref b24, .ref b25, .ref b26, .ref b27, .int 0, .ref b29, .ref b30, .ref b31, .ref b32, .ref b33, .ref b34, .ref b35]))]) [0, 1] rfl
  have hDc := hD.sub (ws' := [(mm, .inr (10, [.ref w, .int 0])), (w, .inr (9, [.int 0, .int 0, .ref b2, .ref b3, .ref b4, .ref b5, .int 0, .ref b7, .ref b8, .ref b9, .ref b10, .ref b11, .ref b12, .int 0, .ref b14, .ref b15, .ref b16, .ref b17, .int 0, .ref b19, .ref b20, .ref b21, .ref b22, .ref b23, .ref b24, .ref b25, .ref b26, .ref b27, .int 0, .ref b29, .ref b30, .ref b31, .ref b32, .ref b33, .ref b34, .ref b35]))]) [0, 1] (by decide) rfl
  have hFc := va_free (wc := [(mm, .inr (10, [.ref w, .int 0])), (w, .inr (9, [.int 0, .int 0, .ref b2, .ref b3, .ref b4, .ref b5, .int 0, .ref b7, .ref b8, .ref b9, .ref b10, .ref b11, .ref b12, .int 0, .ref b14, .ref b15, .ref b16, .ref b17, .int 0, .ref b19, .ref b20, .ref b21, .ref b22, .ref b23, .ref b24, .ref b25, .ref b26, .ref b27, .int 0, .ref b29, .ref b30, .ref b31, .ref b32, .ref b33, .ref b34, .ref b35]))]) hD hS hA [0, 1] rfl
  refine va_calli (va_runV (As := [.int (xs 1), .int (xs 2)]) (rest := []) ⟨hx, hb, hml, hown, hts⟩ (m_hasPolicy l D cI cZ cJ s.heap.size H.size mm 0 w 0 b2 b3 b4 b5 b7 b8 b9 b10 b11 b12 b14 b15 b16 b17 b19 b20 b21 b22 b23 b24 b25 b26 b27 b29 b30 b31 b32 b33 b34 b35 (xs 1) (xs 2)) (cwV 2 hts gL_law_X10_hasPolicy rfl rfl rfl (by decide +kernel) ⟨(Nat.le_of_ble_eq_true rfl), (Nat.le_of_ble_eq_true rfl)⟩) ⟨Pre.blind, va_recv hK hP (ci := 10) (q0 := 0) rfl rfl, Pre.mk hPc (hDc.weaken (fun _ _ _ h => hAlo _ h)) hC hS hAlo⟩ rfl rfl hl.1 rfl (lv_room (Nat.le_of_ble_eq_true rfl)) dL_law_1558 ⟨(Nat.le_of_ble_eq_true rfl), (Nat.le_of_ble_eq_true rfl)⟩) hS (fun q _ h => hFc q h) hFc (fun r_3 u t H1 locs1 ht hvm e_4 hB hz1 hk1 hS1 => ?_)
  have hS := hS1
  refine W.widen (k := 124) (n := 42914) (by omega) (by omega) ?_
  obtain ⟨hP1, hD1⟩ := hB
  rw [ht] at hP1
  obtain ⟨hP, hD⟩ := va_join (wr := []) (w1 := [(mm, .inr (10, [.ref w, .int 1]))]) hP hD [0, 1] [] rfl rfl (by decide) (by decide) hk1 hFc hP1 hD1
  have e_4 : 0 = r_3 := Eq.symm e_4
  subst e_4
  clear hFc hPc hDc ht hvm hz1 hk1 hS1 hP1 hD1
  generalize H1 = H at hP hS ⊢
  replace hP : va_P D vwCl [(mm, .inr (10, [.ref w, .int 1]))] H := hP
  replace hD : va_D (LA s) [(mm, .inr (10, [.ref w, .int 1]))] := hD
  refine lv_istore (lv' := [(6, .int 0), (5, .int 1), (0, .ref b), (1, .ref g), (2, .ref mm), (3, .ref ou), (4, .int 0)]) hx hb dL_law_1561 hl (by decide) rfl (fun ls hl => ?_)
  refine lv_aload_n hx hb dL_law_1563 rfl (lv_at hl 4 rfl) ?_
  have hPc := hP.sub (ws' := [(mm, .inr (10, [.ref w, .int 1]))]) [0] rfl
  have hDc := hD.sub (ws' := [(mm, .inr (10, [.ref w, .int 1]))]) [0] (by decide) rfl
  refine vp_callSi (W.runV (As := []) (rest := []) ⟨hx, hb, hml, hown, hts⟩ (c_thrown l D cI cZ cJ s.heap.size H.size mm 1 w) (cwV 0 hts gL_law_X10_thrown rfl rfl rfl (by decide +kernel) ⟨(Nat.le_of_ble_eq_true rfl), (Nat.le_of_ble_eq_true rfl)⟩) ⟨Pre.blind, va_recv hK hP (ci := 10) (q0 := 0) rfl rfl, Pre.mk hPc (hDc.weaken (fun _ _ _ h => hAlo _ h)) hC hS hAlo⟩ rfl rfl hl.1 rfl (lv_room (Nat.le_of_ble_eq_true rfl)) dL_law_1564 ⟨(Nat.le_of_ble_eq_true rfl), (Nat.le_of_ble_eq_true rfl)⟩) (fun r_5 e_6 => ?_)
  clear hPc hDc
  have e_6 : 1 = r_5 := Eq.symm e_6
  subst e_6
  refine lv_iload hx hb dL_law_1567 (lv_at hl 1 rfl) ?_
  refine lv_icmp_eq (tgt := 1574) hx hb dL_law_1569 (by decide) (fun _ => ?_) (fun c9 => absurd (show (1 : Int32) = (1 : Int32) from (by decide)) c9)
  refine lv_iload hx hb dL_law_1574 (lv_at hl 1 rfl) ?_
  refine lv_if_ne (tgt := 1598) hx hb dL_law_1576 (by decide) (fun _ => ?_) (fun c9 => absurd c9 (show ¬ (1 : Int32) = (0 : Int32) from (by decide)))
  refine lv_goto (tgt := 2855) hx hb dL_law_1598 (by decide) ?_
  refine W.widen (k := 1000) (n := 200000) (Nat.le_of_ble_eq_true rfl) (Nat.le_of_ble_eq_true rfl) ?_
  exact T H _ ls hS (lv_sub hl [2, 6] rfl)

set_option maxHeartbeats 4000000 in
set_option maxRecDepth 100000 in
/-- the law at a call of onHand -/
theorem law_onHand {p : Program} {l : Launch} {e : Env} {s : State} {m : MethodId} {below : List Frame} {meth : Method} {c : Code} {Q : State → Prop} (hl9 : l.stackTraces = false) (D : va_G) (cI cZ cJ : ClassId) (b : Nat) (xs : Nat → Int32) (C0 : LC s p m c D cI cZ cJ b xs) (g : Nat) (nw : Nat) (la : Nat) (pn : Nat) (aI : Nat) (aS : Nat) (aP : Nat) (aL : Nat) (aO : Nat) (aT : Nat) (aA : Nat) (aQ : Nat) (aI1 : Nat) (aI2 : Nat) (aI3 : Nat) (aI4 : Nat) (mm : Nat) (w : Nat) (b2 : Nat) (b3 : Nat) (b4 : Nat) (b5 : Nat) (b7 : Nat) (b8 : Nat) (b9 : Nat) (b10 : Nat) (b11 : Nat) (b12 : Nat) (b14 : Nat) (b15 : Nat) (b16 : Nat) (b17 : Nat) (b19 : Nat) (b20 : Nat) (b21 : Nat) (b22 : Nat) (b23 : Nat) (b24 : Nat) (b25 : Nat) (b26 : Nat) (b27 : Nat) (b29 : Nat) (b30 : Nat) (b31 : Nat) (b32 : Nat) (b33 : Nat) (b34 : Nat) (b35 : Nat) (ou : Nat) (T : LT p l e s m below meth c b Q) {H : Heap} {locs : List Loc} {ls : Array Slot} (hP : va_P D vwCl [(g, .inr (8, [.ref nw, .ref la, .ref pn])), (nw, .inr (6, [.int 0, .ref aI, .ref aS, .ref aP, .ref aL, .ref aO, .ref aT, .ref aA, .ref aQ])), (aI, .inr (0, [.int 0, .ref aI1, .ref aI2, .ref aI3, .ref aI4])), (mm, .inr (10, [.ref w, .int 0])), (w, .inr (9, [.int 0, .int 0, .ref b2, .ref b3, .ref b4, .ref b5, .int 0, .ref b7, .ref b8, .ref b9, .ref b10, .ref b11, .ref b12, .int 0, .ref b14, .ref b15, .ref b16, .ref b17, .int 0, .ref b19, .ref b20, .ref b21, .ref b22, .ref b23, .ref b24, .ref b25, .ref b26, .ref b27, .int 0, .ref b29, .ref b30, .ref b31, .ref b32, .ref b33, .ref b34, .ref b35]))] H) (hD : va_D (LA s) [(g, .inr (8, [.ref nw, .ref la, .ref pn])), (nw, .inr (6, [.int 0, .ref aI, .ref aS, .ref aP, .ref aL, .ref aO, .ref aT, .ref aA, .ref aQ])), (aI, .inr (0, [.int 0, .ref aI1, .ref aI2, .ref aI3, .ref aI4])), (mm, .inr (10, [.ref w, .int 0])), (w, .inr (9, [.int 0, .int 0, .ref b2, .ref b3, .ref b4, .ref b5, .int 0, .ref b7, .ref b8, .ref b9, .ref b10, .ref b11, .ref b12, .int 0, .ref b14, .ref b15, .ref b16, .ref b17, .int 0, .ref b19, .ref b20, .ref b21, .ref b22, .ref b23, .ref b24, .ref b25, .ref b26, .ref b27, .int 0, .ref b29, .ref b30, .ref b31, .ref b32, .ref b33, .ref b34, .ref b35]))]) (hS : va_S (LA s) s.heap H locs) (hl : lv_has ls 9 [(0, .ref b), (1, .ref g), (2, .ref mm), (3, .ref ou), (4, .int 0)]) : W p l e room_1 s m #[Value.ref b] below meth c H locs 123 42908 Q (F0 m 1601 ls []) := by
  obtain ⟨hx, hb, hml, hown, hts, hX, hbl, hC⟩ := C0
  have hK := hC.K
  have hA : ∀ q : Nat, s.heap.size ≤ q → LA s q := fun _ h => h
  have hAlo : ∀ q, LA s q → s.heap.size ≤ q := fun _ h => h
  have hbA : ¬ LA s b := Nat.not_le.mpr hbl
  refine lv_aload_n hx hb dL_law_1601 rfl (lv_at hl 1 rfl) ?_
  refine lv_aload_n hx hb dL_law_1602 rfl (lv_at hl 0 rfl) ?_
  refine lv_iload hx hb dL_law_1603 (lv_at hl 4 rfl) ?_
  refine lv_iconst (v := 1) hx hb dL_law_1605 (by decide) ?_
  refine lv_iadd hx hb dL_law_1606 ?_
  refine lv_toi (y := 1) (by decide) ?_
  refine va_sld hx hb hX hbl hbA hS (by unfold vp_in; decide) dL_law_1607 ?_
  refine lv_toi (y := xs 1) (congrArg xs (by decide)) ?_
  refine lv_aload_n hx hb dL_law_1608 rfl (lv_at hl 0 rfl) ?_
  refine lv_iload hx hb dL_law_1609 (lv_at hl 4 rfl) ?_
  refine lv_iconst (v := 2) hx hb dL_law_1611 (by decide) ?_
  refine lv_iadd hx hb dL_law_1612 ?_
  refine lv_toi (y := 2) (by decide) ?_
  refine va_sld hx hb hX hbl hbA hS (by unfold vp_in; decide) dL_law_1613 ?_
  refine lv_toi (y := xs 2) (congrArg xs (by decide)) ?_
  refine lv_aload_n hx hb dL_law_1614 rfl (lv_at hl 3 rfl) ?_
  have hPc := hP.sub (ws' := [(g, .inr (8, [.ref nw, .ref la, .ref pn])), (nw, .inr (6, [.int 0, .ref aI, .ref aS, .ref aP, .ref aL, .ref aO, .ref aT, .ref aA, .ref aQ])), (aI, .inr (0, [.int 0, .ref aI1, .ref aI2, .ref aI3, .ref aI4]))]) [0, 1, 2] rfl
  have hDc := hD.sub (ws' := [(g, .inr (8, [.ref nw, .ref la, .ref pn])), (nw, .inr (6, [.int 0, .ref aI, .ref aS, .ref aP, .ref aL, .ref aO, .ref aT, .ref aA, .ref aQ])), (aI, .inr (0, [.int 0, .ref aI1, .ref aI2, .ref aI3, .ref aI4]))]) [0, 1, 2] (by decide) rfl
  have hFc := va_free (wc := [(g, .inr (8, [.ref nw, .ref la, .ref pn])), (nw, .inr (6, [.int 0, .ref aI, .ref aS, .ref aP, .ref aL, .ref aO, .ref aT, .ref aA, .ref aQ])), (aI, .inr (0, [.int 0, .ref aI1, .ref aI2, .ref aI3, .ref aI4]))]) hD hS hA [0, 1, 2] rfl
  refine va_calli (vx_runSW (As := [.ref g, .int (xs 1), .int (xs 2), .ref ou]) (rest := []) ⟨hx, hb, hml, hown, hts⟩ (h_onHand l hl9 D cI cZ cJ s.heap.size H.size g nw la pn 0 aI aS aP aL aO aT aA aQ aI1 aI2 aI3 aI4 (xs 1) (xs 2) ou) (vx_cwSW 4 hts gL_law_L_onHand rfl rfl rfl (by decide +kernel) ⟨(Nat.le_of_ble_eq_true rfl), (Nat.le_of_ble_eq_true rfl)⟩) ⟨Pre.blind, Pre.mk hPc (hDc.weaken (fun _ _ _ h => hAlo _ h)) hC hS hAlo⟩ rfl rfl hl.1 rfl (lv_room (Nat.le_of_ble_eq_true rfl)) dL_law_1615 ⟨(Nat.le_of_ble_eq_true rfl), (Nat.le_of_ble_eq_true rfl)⟩) hS (fun q _ h => hFc q h) hFc (fun r_1 u t H1 locs1 ht hvm e_2 hB hz1 hk1 hS1 => ?_)
  have hS := hS1
  refine W.widen (k := 124) (n := 42914) (by omega) (by omega) ?_
  obtain ⟨hP, hD⟩ := va_rest (wr := [(mm, .inr (10, [.ref w, .int 0])), (w, .inr (9, [.int 0, .int 0, .ref b2, .ref b3, .ref b4, .ref b5, .int 0, .ref b7, .ref b8, .ref b9, .ref b10, .ref b11, .ref b12, .int 0, .ref b14, .ref b15, .ref b16, .ref b17, .int 0, .ref b19, .ref b20, .ref b21, .ref b22, .ref b23, .ref b24, .ref b25, .ref b26, .ref b27, .int 0, .ref b29, .ref b30, .ref b31, .ref b32, .ref b33, .ref b34, .ref b35]))]) hP hD [0, 1, 2] [3, 4] rfl rfl (by decide) (by decide) hk1 hFc
  have e_2 : 1 = r_1 := Eq.symm e_2
  subst e_2
  clear hFc hPc hDc ht hvm hz1 hk1 hS1 hB
  generalize H1 = H at hP hS ⊢
  replace hP : va_P D vwCl [(mm, .inr (10, [.ref w, .int 0])), (w, .inr (9, [.int 0, .int 0, .ref b2, .ref b3, .ref b4, .ref b5, .int 0, .ref b7, .ref b8, .ref b9, .ref b10, .ref b11, .ref b12, .int 0, .ref b14, .ref b15, .ref b16, .ref b17, .int 0, .ref b19, .ref b20, .ref b21, .ref b22, .ref b23, .ref b24, .ref b25, .ref b26, .ref b27, .int 0, .ref b29, .ref b30, .ref b31, .ref b32, .ref b33, .ref b34, .ref b35]))] H := hP
  replace hD : va_D (LA s) [(mm, .inr (10, [.ref w, .int 0])), (w, .inr (9, [.int 0, .int 0, .ref b2, .ref b3, .ref b4, .ref b5, .int 0, .ref b7, .ref b8, .ref b9, .ref b10, .ref b11, .ref b12, .int 0, .ref b14, .ref b15, .ref b16, .ref b17, .int 0, .ref b19, .ref b20, .ref b21, .ref b22, .ref b23, .ref b24, .ref b25, .ref b26, .ref b27, .int 0, .ref b29, .ref b30, .ref b31, .ref b32, .ref b33, .ref b34, .ref b35]))] := hD
  refine lv_istore (lv' := [(5, .int 1), (0, .ref b), (1, .ref g), (2, .ref mm), (3, .ref ou), (4, .int 0)]) hx hb dL_law_1618 hl (by decide) rfl (fun ls hl => ?_)
  refine lv_aload_n hx hb dL_law_1620 rfl (lv_at hl 3 rfl) ?_
  refine lv_aload_n hx hb dL_law_1621 rfl (lv_at hl 1 rfl) ?_
  refine lv_iload hx hb dL_law_1622 (lv_at hl 5 rfl) ?_
  refine lv_iconst (v := 1) hx hb dL_law_1624 (by decide) ?_
  refine lv_iadd hx hb dL_law_1625 ?_
  refine lv_toi (y := 1) (by decide) ?_
  refine va_sld hx hb hX hbl hbA hS (by unfold vp_in; decide) dL_law_1626 ?_
  refine lv_toi (y := xs 1) (congrArg xs (by decide)) ?_
  refine lv_aload_n hx hb dL_law_1627 rfl (lv_at hl 1 rfl) ?_
  refine lv_iload hx hb dL_law_1628 (lv_at hl 5 rfl) ?_
  refine lv_iconst (v := 2) hx hb dL_law_1630 (by decide) ?_
  refine lv_iadd hx hb dL_law_1631 ?_
  refine lv_toi (y := 2) (by decide) ?_
  refine va_sld hx hb hX hbl hbA hS (by unfold vp_in; decide) dL_law_1632 ?_
  refine lv_toi (y := xs 2) (congrArg xs (by decide)) ?_
  have hPc := hP.sub (ws' := [(mm, .inr (10, [.ref w, .int 0])), (w, .inr (9, [.int 0, .int 0, .ref b2, .ref b3, .ref b4, .ref b5, .int 0, .ref b7, .ref b8, .ref b9, .ref b10, .ref b11, .ref b12, .int 0, .ref b14, .ref b15, .ref b16, .ref b17, .int 0, .ref b19, .ref b20, .ref b21, .ref b22, .ref b23, .ref b24, .ref b25, .ref b26, .ref b27, .int 0, .ref b29, .ref b30, .ref b31, .ref b32, .ref b33, .ref b34, .ref b35]))]) [0, 1] rfl
  have hDc := hD.sub (ws' := [(mm, .inr (10, [.ref w, .int 0])), (w, .inr (9, [.int 0, .int 0, .ref b2, .ref b3, .ref b4, .ref b5, .int 0, .ref b7, .ref b8, .ref b9, .ref b10, .ref b11, .ref b12, .int 0, .ref b14, .ref b15, .ref b16, .ref b17, .int 0, .ref b19, .ref b20, .ref b21, .ref b22, .ref b23, .ref b24, .ref b25, .ref b26, .ref b27, .int 0, .ref b29, .ref b30, .ref b31, .ref b32, .ref b33, .ref b34, .ref b35]))]) [0, 1] (by decide) rfl
  have hFc := va_free (wc := [(mm, .inr (10, [.ref w, .int 0])), (w, .inr (9, [.int 0, .int 0, .ref b2, .ref b3, .ref b4, .ref b5, .int 0, .ref b7, .ref b8, .ref b9, .ref b10, .ref b11, .ref b12, .int 0, .ref b14, .ref b15, .ref b16, .ref b17, .int 0, .ref b19, .ref b20, .ref b21, .ref b22, .ref b23, .ref b24, .ref b25, .ref b26, .ref b27, .int 0, .ref b29, .ref b30, .ref b31, .ref b32, .ref b33, .ref b34, .ref b35]))]) hD hS hA [0, 1] rfl
  refine va_calli (va_runV (As := [.int (xs 1), .int (xs 2)]) (rest := []) ⟨hx, hb, hml, hown, hts⟩ (m_onHand l D cI cZ cJ s.heap.size H.size mm 0 w 0 b2 b3 b4 b5 b7 b8 b9 b10 b11 b12 b14 b15 b16 b17 b19 b20 b21 b22 b23 b24 b25 b26 b27 b29 b30 b31 b32 b33 b34 b35 (xs 1) (xs 2)) (cwV 2 hts gL_law_X10_onHand rfl rfl rfl (by decide +kernel) ⟨(Nat.le_of_ble_eq_true rfl), (Nat.le_of_ble_eq_true rfl)⟩) ⟨Pre.blind, va_recv hK hP (ci := 10) (q0 := 0) rfl rfl, Pre.mk hPc (hDc.weaken (fun _ _ _ h => hAlo _ h)) hC hS hAlo⟩ rfl rfl hl.1 rfl (lv_room (Nat.le_of_ble_eq_true rfl)) dL_law_1633 ⟨(Nat.le_of_ble_eq_true rfl), (Nat.le_of_ble_eq_true rfl)⟩) hS (fun q _ h => hFc q h) hFc (fun r_3 u t H1 locs1 ht hvm e_4 hB hz1 hk1 hS1 => ?_)
  have hS := hS1
  refine W.widen (k := 124) (n := 42914) (by omega) (by omega) ?_
  obtain ⟨hP1, hD1⟩ := hB
  rw [ht] at hP1
  obtain ⟨hP, hD⟩ := va_join (wr := []) (w1 := [(mm, .inr (10, [.ref w, .int 1]))]) hP hD [0, 1] [] rfl rfl (by decide) (by decide) hk1 hFc hP1 hD1
  have e_4 : 0 = r_3 := Eq.symm e_4
  subst e_4
  clear hFc hPc hDc ht hvm hz1 hk1 hS1 hP1 hD1
  generalize H1 = H at hP hS ⊢
  replace hP : va_P D vwCl [(mm, .inr (10, [.ref w, .int 1]))] H := hP
  replace hD : va_D (LA s) [(mm, .inr (10, [.ref w, .int 1]))] := hD
  refine lv_istore (lv' := [(6, .int 0), (5, .int 1), (0, .ref b), (1, .ref g), (2, .ref mm), (3, .ref ou), (4, .int 0)]) hx hb dL_law_1636 hl (by decide) rfl (fun ls hl => ?_)
  refine lv_aload_n hx hb dL_law_1638 rfl (lv_at hl 4 rfl) ?_
  have hPc := hP.sub (ws' := [(mm, .inr (10, [.ref w, .int 1]))]) [0] rfl
  have hDc := hD.sub (ws' := [(mm, .inr (10, [.ref w, .int 1]))]) [0] (by decide) rfl
  refine vp_callSi (W.runV (As := []) (rest := []) ⟨hx, hb, hml, hown, hts⟩ (c_thrown l D cI cZ cJ s.heap.size H.size mm 1 w) (cwV 0 hts gL_law_X10_thrown rfl rfl rfl (by decide +kernel) ⟨(Nat.le_of_ble_eq_true rfl), (Nat.le_of_ble_eq_true rfl)⟩) ⟨Pre.blind, va_recv hK hP (ci := 10) (q0 := 0) rfl rfl, Pre.mk hPc (hDc.weaken (fun _ _ _ h => hAlo _ h)) hC hS hAlo⟩ rfl rfl hl.1 rfl (lv_room (Nat.le_of_ble_eq_true rfl)) dL_law_1639 ⟨(Nat.le_of_ble_eq_true rfl), (Nat.le_of_ble_eq_true rfl)⟩) (fun r_5 e_6 => ?_)
  clear hPc hDc
  have e_6 : 1 = r_5 := Eq.symm e_6
  subst e_6
  refine lv_iload hx hb dL_law_1642 (lv_at hl 1 rfl) ?_
  refine lv_icmp_eq (tgt := 1649) hx hb dL_law_1644 (by decide) (fun _ => ?_) (fun c9 => absurd (show (1 : Int32) = (1 : Int32) from (by decide)) c9)
  refine lv_iload hx hb dL_law_1649 (lv_at hl 1 rfl) ?_
  refine lv_if_ne (tgt := 1666) hx hb dL_law_1651 (by decide) (fun _ => ?_) (fun c9 => absurd c9 (show ¬ (1 : Int32) = (0 : Int32) from (by decide)))
  refine lv_goto (tgt := 2855) hx hb dL_law_1666 (by decide) ?_
  refine W.widen (k := 1000) (n := 200000) (Nat.le_of_ble_eq_true rfl) (Nat.le_of_ble_eq_true rfl) ?_
  exact T H _ ls hS (lv_sub hl [2, 6] rfl)

set_option maxHeartbeats 4000000 in
set_option maxRecDepth 100000 in
/-- the law at a call of free -/
theorem law_free {p : Program} {l : Launch} {e : Env} {s : State} {m : MethodId} {below : List Frame} {meth : Method} {c : Code} {Q : State → Prop} (hl9 : l.stackTraces = false) (D : va_G) (cI cZ cJ : ClassId) (b : Nat) (xs : Nat → Int32) (C0 : LC s p m c D cI cZ cJ b xs) (g : Nat) (nw : Nat) (la : Nat) (pn : Nat) (aI : Nat) (aS : Nat) (aP : Nat) (aL : Nat) (aO : Nat) (aT : Nat) (aA : Nat) (aQ : Nat) (aI1 : Nat) (aI2 : Nat) (aI3 : Nat) (aI4 : Nat) (mm : Nat) (w : Nat) (b2 : Nat) (b3 : Nat) (b4 : Nat) (b5 : Nat) (b7 : Nat) (b8 : Nat) (b9 : Nat) (b10 : Nat) (b11 : Nat) (b12 : Nat) (b14 : Nat) (b15 : Nat) (b16 : Nat) (b17 : Nat) (b19 : Nat) (b20 : Nat) (b21 : Nat) (b22 : Nat) (b23 : Nat) (b24 : Nat) (b25 : Nat) (b26 : Nat) (b27 : Nat) (b29 : Nat) (b30 : Nat) (b31 : Nat) (b32 : Nat) (b33 : Nat) (b34 : Nat) (b35 : Nat) (ou : Nat) (T : LT p l e s m below meth c b Q) {H : Heap} {locs : List Loc} {ls : Array Slot} (hP : va_P D vwCl [(g, .inr (8, [.ref nw, .ref la, .ref pn])), (nw, .inr (6, [.int 0, .ref aI, .ref aS, .ref aP, .ref aL, .ref aO, .ref aT, .ref aA, .ref aQ])), (aI, .inr (0, [.int 0, .ref aI1, .ref aI2, .ref aI3, .ref aI4])), (mm, .inr (10, [.ref w, .int 0])), (w, .inr (9, [.int 0, .int 0, .ref b2, .ref b3, .ref b4, .ref b5, .int 0, .ref b7, .ref b8, .ref b9, .ref b10, .ref b11, .ref b12, .int 0, .ref b14, .ref b15, .ref b16, .ref b17, .int 0, .ref b19, .ref b20, .ref b21, .ref b22, .ref b23, .ref b24, .ref b25, .ref b26, .ref b27, .int 0, .ref b29, .ref b30, .ref b31, .ref b32, .ref b33, .ref b34, .ref b35]))] H) (hD : va_D (LA s) [(g, .inr (8, [.ref nw, .ref la, .ref pn])), (nw, .inr (6, [.int 0, .ref aI, .ref aS, .ref aP, .ref aL, .ref aO, .ref aT, .ref aA, .ref aQ])), (aI, .inr (0, [.int 0, .ref aI1, .ref aI2, .ref aI3, .ref aI4])), (mm, .inr (10, [.ref w, .int 0])), (w, .inr (9, [.int 0, .int 0, .ref b2, .ref b3, .ref b4, .ref b5, .int 0, .ref b7, .ref b8, .ref b9, .ref b10, .ref b11, .ref b12, .int 0, .ref b14, .ref b15, .ref b16, .ref b17, .int 0, .ref b19, .ref b20, .ref b21, .ref b22, .ref b23, .ref b24, .ref b25, .ref b26, .ref b27, .int 0, .ref b29, .ref b30, .ref b31, .ref b32, .ref b33, .ref b34, .ref b35]))]) (hS : va_S (LA s) s.heap H locs) (hl : lv_has ls 9 [(0, .ref b), (1, .ref g), (2, .ref mm), (3, .ref ou), (4, .int 0)]) : W p l e room_1 s m #[Value.ref b] below meth c H locs 123 42908 Q (F0 m 1669 ls []) := by
  obtain ⟨hx, hb, hml, hown, hts, hX, hbl, hC⟩ := C0
  have hK := hC.K
  have hA : ∀ q : Nat, s.heap.size ≤ q → LA s q := fun _ h => h
  have hAlo : ∀ q, LA s q → s.heap.size ≤ q := fun _ h => h
  have hbA : ¬ LA s b := Nat.not_le.mpr hbl
  refine lv_aload_n hx hb dL_law_1669 rfl (lv_at hl 1 rfl) ?_
  refine lv_aload_n hx hb dL_law_1670 rfl (lv_at hl 0 rfl) ?_
  refine lv_iload hx hb dL_law_1671 (lv_at hl 4 rfl) ?_
  refine lv_iconst (v := 1) hx hb dL_law_1673 (by decide) ?_
  refine lv_iadd hx hb dL_law_1674 ?_
  refine lv_toi (y := 1) (by decide) ?_
  refine va_sld hx hb hX hbl hbA hS (by unfold vp_in; decide) dL_law_1675 ?_
  refine lv_toi (y := xs 1) (congrArg xs (by decide)) ?_
  refine lv_aload_n hx hb dL_law_1676 rfl (lv_at hl 0 rfl) ?_
  refine lv_iload hx hb dL_law_1677 (lv_at hl 4 rfl) ?_
  refine lv_iconst (v := 2) hx hb dL_law_1679 (by decide) ?_
  refine lv_iadd hx hb dL_law_1680 ?_
  refine lv_toi (y := 2) (by decide) ?_
  refine va_sld hx hb hX hbl hbA hS (by unfold vp_in; decide) dL_law_1681 ?_
  refine lv_toi (y := xs 2) (congrArg xs (by decide)) ?_
  refine lv_aload_n hx hb dL_law_1682 rfl (lv_at hl 3 rfl) ?_
  have hPc := hP.sub (ws' := [(g, .inr (8, [.ref nw, .ref la, .ref pn])), (nw, .inr (6, [.int 0, .ref aI, .ref aS, .ref aP, .ref aL, .ref aO, .ref aT, .ref aA, .ref aQ])), (aI, .inr (0, [.int 0, .ref aI1, .ref aI2, .ref aI3, .ref aI4]))]) [0, 1, 2] rfl
  have hDc := hD.sub (ws' := [(g, .inr (8, [.ref nw, .ref la, .ref pn])), (nw, .inr (6, [.int 0, .ref aI, .ref aS, .ref aP, .ref aL, .ref aO, .ref aT, .ref aA, .ref aQ])), (aI, .inr (0, [.int 0, .ref aI1, .ref aI2, .ref aI3, .ref aI4]))]) [0, 1, 2] (by decide) rfl
  have hFc := va_free (wc := [(g, .inr (8, [.ref nw, .ref la, .ref pn])), (nw, .inr (6, [.int 0, .ref aI, .ref aS, .ref aP, .ref aL, .ref aO, .ref aT, .ref aA, .ref aQ])), (aI, .inr (0, [.int 0, .ref aI1, .ref aI2, .ref aI3, .ref aI4]))]) hD hS hA [0, 1, 2] rfl
  refine va_calli (vx_runSW (As := [.ref g, .int (xs 1), .int (xs 2), .ref ou]) (rest := []) ⟨hx, hb, hml, hown, hts⟩ (h_free l hl9 D cI cZ cJ s.heap.size H.size g nw la pn 0 aI aS aP aL aO aT aA aQ aI1 aI2 aI3 aI4 (xs 1) (xs 2) ou) (vx_cwSW 4 hts gL_law_L_free rfl rfl rfl (by decide +kernel) ⟨(Nat.le_of_ble_eq_true rfl), (Nat.le_of_ble_eq_true rfl)⟩) ⟨Pre.blind, Pre.mk hPc (hDc.weaken (fun _ _ _ h => hAlo _ h)) hC hS hAlo⟩ rfl rfl hl.1 rfl (lv_room (Nat.le_of_ble_eq_true rfl)) dL_law_1683 ⟨(Nat.le_of_ble_eq_true rfl), (Nat.le_of_ble_eq_true rfl)⟩) hS (fun q _ h => hFc q h) hFc (fun r_1 u t H1 locs1 ht hvm e_2 hB hz1 hk1 hS1 => ?_)
  have hS := hS1
  refine W.widen (k := 124) (n := 42914) (by omega) (by omega) ?_
  obtain ⟨hP, hD⟩ := va_rest (wr := [(mm, .inr (10, [.ref w, .int 0])), (w, .inr (9, [.int 0, .int 0, .ref b2, .ref b3, .ref b4, .ref b5, .int 0, .ref b7, .ref b8, .ref b9, .ref b10, .ref b11, .ref b12, .int 0, .ref b14, .ref b15, .ref b16, .ref b17, .int 0, .ref b19, .ref b20, .ref b21, .ref b22, .ref b23, .ref b24, .ref b25, .ref b26, .ref b27, .int 0, .ref b29, .ref b30, .ref b31, .ref b32, .ref b33, .ref b34, .ref b35]))]) hP hD [0, 1, 2] [3, 4] rfl rfl (by decide) (by decide) hk1 hFc
  have e_2 : 1 = r_1 := Eq.symm e_2
  subst e_2
  clear hFc hPc hDc ht hvm hz1 hk1 hS1 hB
  generalize H1 = H at hP hS ⊢
  replace hP : va_P D vwCl [(mm, .inr (10, [.ref w, .int 0])), (w, .inr (9, [.int 0, .int 0, .ref b2, .ref b3, .ref b4, .ref b5, .int 0, .ref b7, .ref b8, .ref b9, .ref b10, .ref b11, .ref b12, .int 0, .ref b14, .ref b15, .ref b16, .ref b17, .int 0, .ref b19, .ref b20, .ref b21, .ref b22, .ref b23, .ref b24, .ref b25, .ref b26, .ref b27, .int 0, .ref b29, .ref b30, .ref b31, .ref b32, .ref b33, .ref b34, .ref b35]))] H := hP
  replace hD : va_D (LA s) [(mm, .inr (10, [.ref w, .int 0])), (w, .inr (9, [.int 0, .int 0, .ref b2, .ref b3, .ref b4, .ref b5, .int 0, .ref b7, .ref b8, .ref b9, .ref b10, .ref b11, .ref b12, .int 0, .ref b14, .ref b15, .ref b16, .ref b17, .int 0, .ref b19, .ref b20, .ref b21, .ref b22, .ref b23, .ref b24, .ref b25, .ref b26, .ref b27, .int 0, .ref b29, .ref b30, .ref b31, .ref b32, .ref b33, .ref b34, .ref b35]))] := hD
  refine lv_istore (lv' := [(5, .int 1), (0, .ref b), (1, .ref g), (2, .ref mm), (3, .ref ou), (4, .int 0)]) hx hb dL_law_1686 hl (by decide) rfl (fun ls hl => ?_)
  refine lv_aload_n hx hb dL_law_1688 rfl (lv_at hl 3 rfl) ?_
  refine lv_aload_n hx hb dL_law_1689 rfl (lv_at hl 1 rfl) ?_
  refine lv_iload hx hb dL_law_1690 (lv_at hl 5 rfl) ?_
  refine lv_iconst (v := 1) hx hb dL_law_1692 (by decide) ?_
  refine lv_iadd hx hb dL_law_1693 ?_
  refine lv_toi (y := 1) (by decide) ?_
  refine va_sld hx hb hX hbl hbA hS (by unfold vp_in; decide) dL_law_1694 ?_
  refine lv_toi (y := xs 1) (congrArg xs (by decide)) ?_
  refine lv_aload_n hx hb dL_law_1695 rfl (lv_at hl 1 rfl) ?_
  refine lv_iload hx hb dL_law_1696 (lv_at hl 5 rfl) ?_
  refine lv_iconst (v := 2) hx hb dL_law_1698 (by decide) ?_
  refine lv_iadd hx hb dL_law_1699 ?_
  refine lv_toi (y := 2) (by decide) ?_
  refine va_sld hx hb hX hbl hbA hS (by unfold vp_in; decide) dL_law_1700 ?_
  refine lv_toi (y := xs 2) (congrArg xs (by decide)) ?_
  have hPc := hP.sub (ws' := [(mm, .inr (10, [.ref w, .int 0])), (w, .inr (9, [.int 0, .int 0, .ref b2, .ref b3, .ref b4, .ref b5, .int 0, .ref b7, .ref b8, .ref b9, .ref b10, .ref b11, .ref b12, .int 0, .ref b14, .ref b15, .ref b16, .ref b17, .int 0, .ref b19, .ref b20, .ref b21, .ref b22, .ref b23, .ref b24, .ref b25, .ref b26, .ref b27, .int 0, .ref b29, .ref b30, .ref b31, .ref b32, .ref b33, .ref b34, .ref b35]))]) [0, 1] rfl
  have hDc := hD.sub (ws' := [(mm, .inr (10, [.ref w, .int 0])), (w, .inr (9, [.int 0, .int 0, .ref b2, .ref b3, .ref b4, .ref b5, .int 0, .ref b7, .ref b8, .ref b9, .ref b10, .ref b11, .ref b12, .int 0, .ref b14, .ref b15, .ref b16, .ref b17, .int 0, .ref b19, .ref b20, .ref b21, .ref b22, .ref b23, .ref b24, .ref b25, .ref b26, .ref b27, .int 0, .ref b29, .ref b30, .ref b31, .ref b32, .ref b33, .ref b34, .ref b35]))]) [0, 1] (by decide) rfl
  have hFc := va_free (wc := [(mm, .inr (10, [.ref w, .int 0])), (w, .inr (9, [.int 0, .int 0, .ref b2, .ref b3, .ref b4, .ref b5, .int 0, .ref b7, .ref b8, .ref b9, .ref b10, .ref b11, .ref b12, .int 0, .ref b14, .ref b15, .ref b16, .ref b17, .int 0, .ref b19, .ref b20, .ref b21, .ref b22, .ref b23, .ref b24, .ref b25, .ref b26, .ref b27, .int 0, .ref b29, .ref b30, .ref b31, .ref b32, .ref b33, .ref b34, .ref b35]))]) hD hS hA [0, 1] rfl
  refine va_calli (va_runV (As := [.int (xs 1), .int (xs 2)]) (rest := []) ⟨hx, hb, hml, hown, hts⟩ (m_free l D cI cZ cJ s.heap.size H.size mm 0 w 0 b2 b3 b4 b5 b7 b8 b9 b10 b11 b12 b14 b15 b16 b17 b19 b20 b21 b22 b23 b24 b25 b26 b27 b29 b30 b31 b32 b33 b34 b35 (xs 1) (xs 2)) (cwV 2 hts gL_law_X10_free rfl rfl rfl (by decide +kernel) ⟨(Nat.le_of_ble_eq_true rfl), (Nat.le_of_ble_eq_true rfl)⟩) ⟨Pre.blind, va_recv hK hP (ci := 10) (q0 := 0) rfl rfl, Pre.mk hPc (hDc.weaken (fun _ _ _ h => hAlo _ h)) hC hS hAlo⟩ rfl rfl hl.1 rfl (lv_room (Nat.le_of_ble_eq_true rfl)) dL_law_1701 ⟨(Nat.le_of_ble_eq_true rfl), (Nat.le_of_ble_eq_true rfl)⟩) hS (fun q _ h => hFc q h) hFc (fun r_3 u t H1 locs1 ht hvm e_4 hB hz1 hk1 hS1 => ?_)
  have hS := hS1
  refine W.widen (k := 124) (n := 42914) (by omega) (by omega) ?_
  obtain ⟨hP1, hD1⟩ := hB
  rw [ht] at hP1
  obtain ⟨hP, hD⟩ := va_join (wr := []) (w1 := [(mm, .inr (10, [.ref w, .int 1]))]) hP hD [0, 1] [] rfl rfl (by decide) (by decide) hk1 hFc hP1 hD1
  have e_4 : 0 = r_3 := Eq.symm e_4
  subst e_4
  clear hFc hPc hDc ht hvm hz1 hk1 hS1 hP1 hD1
  generalize H1 = H at hP hS ⊢
  replace hP : va_P D vwCl [(mm, .inr (10, [.ref w, .int 1]))] H := hP
  replace hD : va_D (LA s) [(mm, .inr (10, [.ref w, .int 1]))] := hD
  refine lv_istore (lv' := [(6, .int 0), (5, .int 1), (0, .ref b), (1, .ref g), (2, .ref mm), (3, .ref ou), (4, .int 0)]) hx hb dL_law_1704 hl (by decide) rfl (fun ls hl => ?_)
  refine lv_aload_n hx hb dL_law_1706 rfl (lv_at hl 4 rfl) ?_
  have hPc := hP.sub (ws' := [(mm, .inr (10, [.ref w, .int 1]))]) [0] rfl
  have hDc := hD.sub (ws' := [(mm, .inr (10, [.ref w, .int 1]))]) [0] (by decide) rfl
  refine vp_callSi (W.runV (As := []) (rest := []) ⟨hx, hb, hml, hown, hts⟩ (c_thrown l D cI cZ cJ s.heap.size H.size mm 1 w) (cwV 0 hts gL_law_X10_thrown rfl rfl rfl (by decide +kernel) ⟨(Nat.le_of_ble_eq_true rfl), (Nat.le_of_ble_eq_true rfl)⟩) ⟨Pre.blind, va_recv hK hP (ci := 10) (q0 := 0) rfl rfl, Pre.mk hPc (hDc.weaken (fun _ _ _ h => hAlo _ h)) hC hS hAlo⟩ rfl rfl hl.1 rfl (lv_room (Nat.le_of_ble_eq_true rfl)) dL_law_1707 ⟨(Nat.le_of_ble_eq_true rfl), (Nat.le_of_ble_eq_true rfl)⟩) (fun r_5 e_6 => ?_)
  clear hPc hDc
  have e_6 : 1 = r_5 := Eq.symm e_6
  subst e_6
  refine lv_iload hx hb dL_law_1710 (lv_at hl 1 rfl) ?_
  refine lv_icmp_eq (tgt := 1717) hx hb dL_law_1712 (by decide) (fun _ => ?_) (fun c9 => absurd (show (1 : Int32) = (1 : Int32) from (by decide)) c9)
  refine lv_iload hx hb dL_law_1717 (lv_at hl 1 rfl) ?_
  refine lv_if_ne (tgt := 1734) hx hb dL_law_1719 (by decide) (fun _ => ?_) (fun c9 => absurd c9 (show ¬ (1 : Int32) = (0 : Int32) from (by decide)))
  refine lv_goto (tgt := 2855) hx hb dL_law_1734 (by decide) ?_
  refine W.widen (k := 1000) (n := 200000) (Nat.le_of_ble_eq_true rfl) (Nat.le_of_ble_eq_true rfl) ?_
  exact T H _ ls hS (lv_sub hl [2, 6] rfl)

set_option maxHeartbeats 4000000 in
set_option maxRecDepth 100000 in
/-- the law at a call of underWay -/
theorem law_underWay {p : Program} {l : Launch} {e : Env} {s : State} {m : MethodId} {below : List Frame} {meth : Method} {c : Code} {Q : State → Prop} (hl9 : l.stackTraces = false) (D : va_G) (cI cZ cJ : ClassId) (b : Nat) (xs : Nat → Int32) (C0 : LC s p m c D cI cZ cJ b xs) (g : Nat) (nw : Nat) (la : Nat) (pn : Nat) (aI : Nat) (aS : Nat) (aP : Nat) (aL : Nat) (aO : Nat) (aT : Nat) (aA : Nat) (aQ : Nat) (aI1 : Nat) (aI2 : Nat) (aI3 : Nat) (aI4 : Nat) (mm : Nat) (w : Nat) (b2 : Nat) (b3 : Nat) (b4 : Nat) (b5 : Nat) (b7 : Nat) (b8 : Nat) (b9 : Nat) (b10 : Nat) (b11 : Nat) (b12 : Nat) (b14 : Nat) (b15 : Nat) (b16 : Nat) (b17 : Nat) (b19 : Nat) (b20 : Nat) (b21 : Nat) (b22 : Nat) (b23 : Nat) (b24 : Nat) (b25 : Nat) (b26 : Nat) (b27 : Nat) (b29 : Nat) (b30 : Nat) (b31 : Nat) (b32 : Nat) (b33 : Nat) (b34 : Nat) (b35 : Nat) (ou : Nat) (T : LT p l e s m below meth c b Q) {H : Heap} {locs : List Loc} {ls : Array Slot} (hP : va_P D vwCl [(g, .inr (8, [.ref nw, .ref la, .ref pn])), (nw, .inr (6, [.int 0, .ref aI, .ref aS, .ref aP, .ref aL, .ref aO, .ref aT, .ref aA, .ref aQ])), (aI, .inr (0, [.int 0, .ref aI1, .ref aI2, .ref aI3, .ref aI4])), (mm, .inr (10, [.ref w, .int 0])), (w, .inr (9, [.int 0, .int 0, .ref b2, .ref b3, .ref b4, .ref b5, .int 0, .ref b7, .ref b8, .ref b9, .ref b10, .ref b11, .ref b12, .int 0, .ref b14, .ref b15, .ref b16, .ref b17, .int 0, .ref b19, .ref b20, .ref b21, .ref b22, .ref b23, .ref b24, .ref b25, .ref b26, .ref b27, .int 0, .ref b29, .ref b30, .ref b31, .ref b32, .ref b33, .ref b34, .ref b35]))] H) (hD : va_D (LA s) [(g, .inr (8, [.ref nw, .ref la, .ref pn])), (nw, .inr (6, [.int 0, .ref aI, .ref aS, .ref aP, .ref aL, .ref aO, .ref aT, .ref aA, .ref aQ])), (aI, .inr (0, [.int 0, .ref aI1, .ref aI2, .ref aI3, .ref aI4])), (mm, .inr (10, [.ref w, .int 0])), (w, .inr (9, [.int 0, .int 0, .ref b2, .ref b3, .ref b4, .ref b5, .int 0, .ref b7, .ref b8, .ref b9, .ref b10, .ref b11, .ref b12, .int 0, .ref b14, .ref b15, .ref b16, .ref b17, .int 0, .ref b19, .ref b20, .ref b21, .ref b22, .ref b23, .ref b24, .ref b25, .ref b26, .ref b27, .int 0, .ref b29, .ref b30, .ref b31, .ref b32, .ref b33, .ref b34, .ref b35]))]) (hS : va_S (LA s) s.heap H locs) (hl : lv_has ls 9 [(0, .ref b), (1, .ref g), (2, .ref mm), (3, .ref ou), (4, .int 0)]) : W p l e room_1 s m #[Value.ref b] below meth c H locs 123 42908 Q (F0 m 1737 ls []) := by
  obtain ⟨hx, hb, hml, hown, hts, hX, hbl, hC⟩ := C0
  have hK := hC.K
  have hA : ∀ q : Nat, s.heap.size ≤ q → LA s q := fun _ h => h
  have hAlo : ∀ q, LA s q → s.heap.size ≤ q := fun _ h => h
  have hbA : ¬ LA s b := Nat.not_le.mpr hbl
  refine lv_aload_n hx hb dL_law_1737 rfl (lv_at hl 1 rfl) ?_
  refine lv_aload_n hx hb dL_law_1738 rfl (lv_at hl 0 rfl) ?_
  refine lv_iload hx hb dL_law_1739 (lv_at hl 4 rfl) ?_
  refine lv_iconst (v := 1) hx hb dL_law_1741 (by decide) ?_
  refine lv_iadd hx hb dL_law_1742 ?_
  refine lv_toi (y := 1) (by decide) ?_
  refine va_sld hx hb hX hbl hbA hS (by unfold vp_in; decide) dL_law_1743 ?_
  refine lv_toi (y := xs 1) (congrArg xs (by decide)) ?_
  refine lv_aload_n hx hb dL_law_1744 rfl (lv_at hl 0 rfl) ?_
  refine lv_iload hx hb dL_law_1745 (lv_at hl 4 rfl) ?_
  refine lv_iconst (v := 2) hx hb dL_law_1747 (by decide) ?_
  refine lv_iadd hx hb dL_law_1748 ?_
  refine lv_toi (y := 2) (by decide) ?_
  refine va_sld hx hb hX hbl hbA hS (by unfold vp_in; decide) dL_law_1749 ?_
  refine lv_toi (y := xs 2) (congrArg xs (by decide)) ?_
  refine lv_aload_n hx hb dL_law_1750 rfl (lv_at hl 3 rfl) ?_
  have hPc := hP.sub (ws' := [(g, .inr (8, [.ref nw, .ref la, .ref pn])), (nw, .inr (6, [.int 0, .ref aI, .ref aS, .ref aP, .ref aL, .ref aO, .ref aT, .ref aA, .ref aQ])), (aI, .inr (0, [.int 0, .ref aI1, .ref aI2, .ref aI3, .ref aI4]))]) [0, 1, 2] rfl
  have hDc := hD.sub (ws' := [(g, .inr (8, [.ref nw, .ref la, .ref pn])), (nw, .inr (6, [.int 0, .ref aI, .ref aS, .ref aP, .ref aL, .ref aO, .ref aT, .ref aA, .ref aQ])), (aI, .inr (0, [.int 0, .ref aI1, .ref aI2, .ref aI3, .ref aI4]))]) [0, 1, 2] (by decide) rfl
  have hFc := va_free (wc := [(g, .inr (8, [.ref nw, .ref la, .ref pn])), (nw, .inr (6, [.int 0, .ref aI, .ref aS, .ref aP, .ref aL, .ref aO, .ref aT, .ref aA, .ref aQ])), (aI, .inr (0, [.int 0, .ref aI1, .ref aI2, .ref aI3, .ref aI4]))]) hD hS hA [0, 1, 2] rfl
  refine va_calli (vx_runSW (As := [.ref g, .int (xs 1), .int (xs 2), .ref ou]) (rest := []) ⟨hx, hb, hml, hown, hts⟩ (h_underWay l hl9 D cI cZ cJ s.heap.size H.size g nw la pn 0 aI aS aP aL aO aT aA aQ aI1 aI2 aI3 aI4 (xs 1) (xs 2) ou) (vx_cwSW 4 hts gL_law_L_underWay rfl rfl rfl (by decide +kernel) ⟨(Nat.le_of_ble_eq_true rfl), (Nat.le_of_ble_eq_true rfl)⟩) ⟨Pre.blind, Pre.mk hPc (hDc.weaken (fun _ _ _ h => hAlo _ h)) hC hS hAlo⟩ rfl rfl hl.1 rfl (lv_room (Nat.le_of_ble_eq_true rfl)) dL_law_1751 ⟨(Nat.le_of_ble_eq_true rfl), (Nat.le_of_ble_eq_true rfl)⟩) hS (fun q _ h => hFc q h) hFc (fun r_1 u t H1 locs1 ht hvm e_2 hB hz1 hk1 hS1 => ?_)
  have hS := hS1
  refine W.widen (k := 124) (n := 42914) (by omega) (by omega) ?_
  obtain ⟨hP, hD⟩ := va_rest (wr := [(mm, .inr (10, [.ref w, .int 0])), (w, .inr (9, [.int 0, .int 0, .ref b2, .ref b3, .ref b4, .ref b5, .int 0, .ref b7, .ref b8, .ref b9, .ref b10, .ref b11, .ref b12, .int 0, .ref b14, .ref b15, .ref b16, .ref b17, .int 0, .ref b19, .ref b20, .ref b21, .ref b22, .ref b23, .ref b24, .ref b25, .ref b26, .ref b27, .int 0, .ref b29, .ref b30, .ref b31, .ref b32, .ref b33, .ref b34, .ref b35]))]) hP hD [0, 1, 2] [3, 4] rfl rfl (by decide) (by decide) hk1 hFc
  have e_2 : 1 = r_1 := Eq.symm e_2
  subst e_2
  clear hFc hPc hDc ht hvm hz1 hk1 hS1 hB
  generalize H1 = H at hP hS ⊢
  replace hP : va_P D vwCl [(mm, .inr (10, [.ref w, .int 0])), (w, .inr (9, [.int 0, .int 0, .ref b2, .ref b3, .ref b4, .ref b5, .int 0, .ref b7, .ref b8, .ref b9, .ref b10, .ref b11, .ref b12, .int 0, .ref b14, .ref b15, .ref b16, .ref b17, .int 0, .ref b19, .ref b20, .ref b21, .ref b22, .ref b23, .ref b24, .ref b25, .ref b26, .ref b27, .int 0, .ref b29, .ref b30, .ref b31, .ref b32, .ref b33, .ref b34, .ref b35]))] H := hP
  replace hD : va_D (LA s) [(mm, .inr (10, [.ref w, .int 0])), (w, .inr (9, [.int 0, .int 0, .ref b2, .ref b3, .ref b4, .ref b5, .int 0, .ref b7, .ref b8, .ref b9, .ref b10, .ref b11, .ref b12, .int 0, .ref b14, .ref b15, .ref b16, .ref b17, .int 0, .ref b19, .ref b20, .ref b21, .ref b22, .ref b23, .ref b24, .ref b25, .ref b26, .ref b27, .int 0, .ref b29, .ref b30, .ref b31, .ref b32, .ref b33, .ref b34, .ref b35]))] := hD
  refine lv_istore (lv' := [(5, .int 1), (0, .ref b), (1, .ref g), (2, .ref mm), (3, .ref ou), (4, .int 0)]) hx hb dL_law_1754 hl (by decide) rfl (fun ls hl => ?_)
  refine lv_aload_n hx hb dL_law_1756 rfl (lv_at hl 3 rfl) ?_
  refine lv_aload_n hx hb dL_law_1757 rfl (lv_at hl 1 rfl) ?_
  refine lv_iload hx hb dL_law_1758 (lv_at hl 5 rfl) ?_
  refine lv_iconst (v := 1) hx hb dL_law_1760 (by decide) ?_
  refine lv_iadd hx hb dL_law_1761 ?_
  refine lv_toi (y := 1) (by decide) ?_
  refine va_sld hx hb hX hbl hbA hS (by unfold vp_in; decide) dL_law_1762 ?_
  refine lv_toi (y := xs 1) (congrArg xs (by decide)) ?_
  refine lv_aload_n hx hb dL_law_1763 rfl (lv_at hl 1 rfl) ?_
  refine lv_iload hx hb dL_law_1764 (lv_at hl 5 rfl) ?_
  refine lv_iconst (v := 2) hx hb dL_law_1766 (by decide) ?_
  refine lv_iadd hx hb dL_law_1767 ?_
  refine lv_toi (y := 2) (by decide) ?_
  refine va_sld hx hb hX hbl hbA hS (by unfold vp_in; decide) dL_law_1768 ?_
  refine lv_toi (y := xs 2) (congrArg xs (by decide)) ?_
  have hPc := hP.sub (ws' := [(mm, .inr (10, [.ref w, .int 0])), (w, .inr (9, [.int 0, .int 0, .ref b2, .ref b3, .ref b4, .ref b5, .int 0, .ref b7, .ref b8, .ref b9, .ref b10, .ref b11, .ref b12, .int 0, .ref b14, .ref b15, .ref b16, .ref b17, .int 0, .ref b19, .ref b20, .ref b21, .ref b22, .ref b23, .ref b24, .ref b25, .ref b26, .ref b27, .int 0, .ref b29, .ref b30, .ref b31, .ref b32, .ref b33, .ref b34, .ref b35]))]) [0, 1] rfl
  have hDc := hD.sub (ws' := [(mm, .inr (10, [.ref w, .int 0])), (w, .inr (9, [.int 0, .int 0, .ref b2, .ref b3, .ref b4, .ref b5, .int 0, .ref b7, .ref b8, .ref b9, .ref b10, .ref b11, .ref b12, .int 0, .ref b14, .ref b15, .ref b16, .ref b17, .int 0, .ref b19, .ref b20, .ref b21, .ref b22, .ref b23, .ref b24, .ref b25, .ref b26, .ref b27, .int 0, .ref b29, .ref b30, .ref b31, .ref b32, .ref b33, .ref b34, .ref b35]))]) [0, 1] (by decide) rfl
  have hFc := va_free (wc := [(mm, .inr (10, [.ref w, .int 0])), (w, .inr (9, [.int 0, .int 0, .ref b2, .ref b3, .ref b4, .ref b5, .int 0, .ref b7, .ref b8, .ref b9, .ref b10, .ref b11, .ref b12, .int 0, .ref b14, .ref b15, .ref b16, .ref b17, .int 0, .ref b19, .ref b20, .ref b21, .ref b22, .ref b23, .ref b24, .ref b25, .ref b26, .ref b27, .int 0, .ref b29, .ref b30, .ref b31, .ref b32, .ref b33, .ref b34, .ref b35]))]) hD hS hA [0, 1] rfl
  refine va_calli (va_runV (As := [.int (xs 1), .int (xs 2)]) (rest := []) ⟨hx, hb, hml, hown, hts⟩ (m_underWay l D cI cZ cJ s.heap.size H.size mm 0 w 0 b2 b3 b4 b5 b7 b8 b9 b10 b11 b12 b14 b15 b16 b17 b19 b20 b21 b22 b23 b24 b25 b26 b27 b29 b30 b31 b32 b33 b34 b35 (xs 1) (xs 2)) (cwV 2 hts gL_law_X10_underWay rfl rfl rfl (by decide +kernel) ⟨(Nat.le_of_ble_eq_true rfl), (Nat.le_of_ble_eq_true rfl)⟩) ⟨Pre.blind, va_recv hK hP (ci := 10) (q0 := 0) rfl rfl, Pre.mk hPc (hDc.weaken (fun _ _ _ h => hAlo _ h)) hC hS hAlo⟩ rfl rfl hl.1 rfl (lv_room (Nat.le_of_ble_eq_true rfl)) dL_law_1769 ⟨(Nat.le_of_ble_eq_true rfl), (Nat.le_of_ble_eq_true rfl)⟩) hS (fun q _ h => hFc q h) hFc (fun r_3 u t H1 locs1 ht hvm e_4 hB hz1 hk1 hS1 => ?_)
  have hS := hS1
  refine W.widen (k := 124) (n := 42914) (by omega) (by omega) ?_
  obtain ⟨hP1, hD1⟩ := hB
  rw [ht] at hP1
  obtain ⟨hP, hD⟩ := va_join (wr := []) (w1 := [(mm, .inr (10, [.ref w, .int 1]))]) hP hD [0, 1] [] rfl rfl (by decide) (by decide) hk1 hFc hP1 hD1
  have e_4 : 0 = r_3 := Eq.symm e_4
  subst e_4
  clear hFc hPc hDc ht hvm hz1 hk1 hS1 hP1 hD1
  generalize H1 = H at hP hS ⊢
  replace hP : va_P D vwCl [(mm, .inr (10, [.ref w, .int 1]))] H := hP
  replace hD : va_D (LA s) [(mm, .inr (10, [.ref w, .int 1]))] := hD
  refine lv_istore (lv' := [(6, .int 0), (5, .int 1), (0, .ref b), (1, .ref g), (2, .ref mm), (3, .ref ou), (4, .int 0)]) hx hb dL_law_1772 hl (by decide) rfl (fun ls hl => ?_)
  refine lv_aload_n hx hb dL_law_1774 rfl (lv_at hl 4 rfl) ?_
  have hPc := hP.sub (ws' := [(mm, .inr (10, [.ref w, .int 1]))]) [0] rfl
  have hDc := hD.sub (ws' := [(mm, .inr (10, [.ref w, .int 1]))]) [0] (by decide) rfl
  refine vp_callSi (W.runV (As := []) (rest := []) ⟨hx, hb, hml, hown, hts⟩ (c_thrown l D cI cZ cJ s.heap.size H.size mm 1 w) (cwV 0 hts gL_law_X10_thrown rfl rfl rfl (by decide +kernel) ⟨(Nat.le_of_ble_eq_true rfl), (Nat.le_of_ble_eq_true rfl)⟩) ⟨Pre.blind, va_recv hK hP (ci := 10) (q0 := 0) rfl rfl, Pre.mk hPc (hDc.weaken (fun _ _ _ h => hAlo _ h)) hC hS hAlo⟩ rfl rfl hl.1 rfl (lv_room (Nat.le_of_ble_eq_true rfl)) dL_law_1775 ⟨(Nat.le_of_ble_eq_true rfl), (Nat.le_of_ble_eq_true rfl)⟩) (fun r_5 e_6 => ?_)
  clear hPc hDc
  have e_6 : 1 = r_5 := Eq.symm e_6
  subst e_6
  refine lv_iload hx hb dL_law_1778 (lv_at hl 1 rfl) ?_
  refine lv_icmp_eq (tgt := 1785) hx hb dL_law_1780 (by decide) (fun _ => ?_) (fun c9 => absurd (show (1 : Int32) = (1 : Int32) from (by decide)) c9)
  refine lv_iload hx hb dL_law_1785 (lv_at hl 1 rfl) ?_
  refine lv_if_ne (tgt := 1802) hx hb dL_law_1787 (by decide) (fun _ => ?_) (fun c9 => absurd c9 (show ¬ (1 : Int32) = (0 : Int32) from (by decide)))
  refine lv_goto (tgt := 2855) hx hb dL_law_1802 (by decide) ?_
  refine W.widen (k := 1000) (n := 200000) (Nat.le_of_ble_eq_true rfl) (Nat.le_of_ble_eq_true rfl) ?_
  exact T H _ ls hS (lv_sub hl [2, 6] rfl)

set_option maxHeartbeats 4000000 in
set_option maxRecDepth 100000 in
/-- the law at a call of position -/
theorem law_position {p : Program} {l : Launch} {e : Env} {s : State} {m : MethodId} {below : List Frame} {meth : Method} {c : Code} {Q : State → Prop} (hl9 : l.stackTraces = false) (D : va_G) (cI cZ cJ : ClassId) (b : Nat) (xs : Nat → Int32) (C0 : LC s p m c D cI cZ cJ b xs) (g : Nat) (nw : Nat) (la : Nat) (pn : Nat) (aI : Nat) (aS : Nat) (aP : Nat) (aL : Nat) (aO : Nat) (aT : Nat) (aA : Nat) (aQ : Nat) (aI1 : Nat) (aI2 : Nat) (aI3 : Nat) (aI4 : Nat) (mm : Nat) (w : Nat) (b2 : Nat) (b3 : Nat) (b4 : Nat) (b5 : Nat) (b7 : Nat) (b8 : Nat) (b9 : Nat) (b10 : Nat) (b11 : Nat) (b12 : Nat) (b14 : Nat) (b15 : Nat) (b16 : Nat) (b17 : Nat) (b19 : Nat) (b20 : Nat) (b21 : Nat) (b22 : Nat) (b23 : Nat) (b24 : Nat) (b25 : Nat) (b26 : Nat) (b27 : Nat) (b29 : Nat) (b30 : Nat) (b31 : Nat) (b32 : Nat) (b33 : Nat) (b34 : Nat) (b35 : Nat) (ou : Nat) (T : LT p l e s m below meth c b Q) {H : Heap} {locs : List Loc} {ls : Array Slot} (hP : va_P D vwCl [(g, .inr (8, [.ref nw, .ref la, .ref pn])), (nw, .inr (6, [.int 0, .ref aI, .ref aS, .ref aP, .ref aL, .ref aO, .ref aT, .ref aA, .ref aQ])), (aI, .inr (0, [.int 0, .ref aI1, .ref aI2, .ref aI3, .ref aI4])), (mm, .inr (10, [.ref w, .int 0])), (w, .inr (9, [.int 0, .int 0, .ref b2, .ref b3, .ref b4, .ref b5, .int 0, .ref b7, .ref b8, .ref b9, .ref b10, .ref b11, .ref b12, .int 0, .ref b14, .ref b15, .ref b16, .ref b17, .int 0, .ref b19, .ref b20, .ref b21, .ref b22, .ref b23, .ref b24, .ref b25, .ref b26, .ref b27, .int 0, .ref b29, .ref b30, .ref b31, .ref b32, .ref b33, .ref b34, .ref b35]))] H) (hD : va_D (LA s) [(g, .inr (8, [.ref nw, .ref la, .ref pn])), (nw, .inr (6, [.int 0, .ref aI, .ref aS, .ref aP, .ref aL, .ref aO, .ref aT, .ref aA, .ref aQ])), (aI, .inr (0, [.int 0, .ref aI1, .ref aI2, .ref aI3, .ref aI4])), (mm, .inr (10, [.ref w, .int 0])), (w, .inr (9, [.int 0, .int 0, .ref b2, .ref b3, .ref b4, .ref b5, .int 0, .ref b7, .ref b8, .ref b9, .ref b10, .ref b11, .ref b12, .int 0, .ref b14, .ref b15, .ref b16, .ref b17, .int 0, .ref b19, .ref b20, .ref b21, .ref b22, .ref b23, .ref b24, .ref b25, .ref b26, .ref b27, .int 0, .ref b29, .ref b30, .ref b31, .ref b32, .ref b33, .ref b34, .ref b35]))]) (hS : va_S (LA s) s.heap H locs) (hl : lv_has ls 9 [(0, .ref b), (1, .ref g), (2, .ref mm), (3, .ref ou), (4, .int 0)]) : W p l e room_1 s m #[Value.ref b] below meth c H locs 123 42908 Q (F0 m 1805 ls []) := by
  obtain ⟨hx, hb, hml, hown, hts, hX, hbl, hC⟩ := C0
  have hK := hC.K
  have hA : ∀ q : Nat, s.heap.size ≤ q → LA s q := fun _ h => h
  have hAlo : ∀ q, LA s q → s.heap.size ≤ q := fun _ h => h
  have hbA : ¬ LA s b := Nat.not_le.mpr hbl
  refine lv_aload_n hx hb dL_law_1805 rfl (lv_at hl 1 rfl) ?_
  refine lv_aload_n hx hb dL_law_1806 rfl (lv_at hl 0 rfl) ?_
  refine lv_iload hx hb dL_law_1807 (lv_at hl 4 rfl) ?_
  refine lv_iconst (v := 1) hx hb dL_law_1809 (by decide) ?_
  refine lv_iadd hx hb dL_law_1810 ?_
  refine lv_toi (y := 1) (by decide) ?_
  refine va_sld hx hb hX hbl hbA hS (by unfold vp_in; decide) dL_law_1811 ?_
  refine lv_toi (y := xs 1) (congrArg xs (by decide)) ?_
  refine lv_aload_n hx hb dL_law_1812 rfl (lv_at hl 0 rfl) ?_
  refine lv_iload hx hb dL_law_1813 (lv_at hl 4 rfl) ?_
  refine lv_iconst (v := 2) hx hb dL_law_1815 (by decide) ?_
  refine lv_iadd hx hb dL_law_1816 ?_
  refine lv_toi (y := 2) (by decide) ?_
  refine va_sld hx hb hX hbl hbA hS (by unfold vp_in; decide) dL_law_1817 ?_
  refine lv_toi (y := xs 2) (congrArg xs (by decide)) ?_
  refine lv_aload_n hx hb dL_law_1818 rfl (lv_at hl 3 rfl) ?_
  have hPc := hP.sub (ws' := [(g, .inr (8, [.ref nw, .ref la, .ref pn])), (nw, .inr (6, [.int 0, .ref aI, .ref aS, .ref aP, .ref aL, .ref aO, .ref aT, .ref aA, .ref aQ])), (aI, .inr (0, [.int 0, .ref aI1, .ref aI2, .ref aI3, .ref aI4]))]) [0, 1, 2] rfl
  have hDc := hD.sub (ws' := [(g, .inr (8, [.ref nw, .ref la, .ref pn])), (nw, .inr (6, [.int 0, .ref aI, .ref aS, .ref aP, .ref aL, .ref aO, .ref aT, .ref aA, .ref aQ])), (aI, .inr (0, [.int 0, .ref aI1, .ref aI2, .ref aI3, .ref aI4]))]) [0, 1, 2] (by decide) rfl
  have hFc := va_free (wc := [(g, .inr (8, [.ref nw, .ref la, .ref pn])), (nw, .inr (6, [.int 0, .ref aI, .ref aS, .ref aP, .ref aL, .ref aO, .ref aT, .ref aA, .ref aQ])), (aI, .inr (0, [.int 0, .ref aI1, .ref aI2, .ref aI3, .ref aI4]))]) hD hS hA [0, 1, 2] rfl
  refine va_calli (vx_runSW (As := [.ref g, .int (xs 1), .int (xs 2), .ref ou]) (rest := []) ⟨hx, hb, hml, hown, hts⟩ (h_position l hl9 D cI cZ cJ s.heap.size H.size g nw la pn 0 aI aS aP aL aO aT aA aQ aI1 aI2 aI3 aI4 (xs 1) (xs 2) ou) (vx_cwSW 4 hts gL_law_L_position rfl rfl rfl (by decide +kernel) ⟨(Nat.le_of_ble_eq_true rfl), (Nat.le_of_ble_eq_true rfl)⟩) ⟨Pre.blind, Pre.mk hPc (hDc.weaken (fun _ _ _ h => hAlo _ h)) hC hS hAlo⟩ rfl rfl hl.1 rfl (lv_room (Nat.le_of_ble_eq_true rfl)) dL_law_1819 ⟨(Nat.le_of_ble_eq_true rfl), (Nat.le_of_ble_eq_true rfl)⟩) hS (fun q _ h => hFc q h) hFc (fun r_1 u t H1 locs1 ht hvm e_2 hB hz1 hk1 hS1 => ?_)
  have hS := hS1
  refine W.widen (k := 124) (n := 42914) (by omega) (by omega) ?_
  obtain ⟨hP, hD⟩ := va_rest (wr := [(mm, .inr (10, [.ref w, .int 0])), (w, .inr (9, [.int 0, .int 0, .ref b2, .ref b3, .ref b4, .ref b5, .int 0, .ref b7, .ref b8, .ref b9, .ref b10, .ref b11, .ref b12, .int 0, .ref b14, .ref b15, .ref b16, .ref b17, .int 0, .ref b19, .ref b20, .ref b21, .ref b22, .ref b23, .ref b24, .ref b25, .ref b26, .ref b27, .int 0, .ref b29, .ref b30, .ref b31, .ref b32, .ref b33, .ref b34, .ref b35]))]) hP hD [0, 1, 2] [3, 4] rfl rfl (by decide) (by decide) hk1 hFc
  have e_2 : 1 = r_1 := Eq.symm e_2
  subst e_2
  clear hFc hPc hDc ht hvm hz1 hk1 hS1 hB
  generalize H1 = H at hP hS ⊢
  replace hP : va_P D vwCl [(mm, .inr (10, [.ref w, .int 0])), (w, .inr (9, [.int 0, .int 0, .ref b2, .ref b3, .ref b4, .ref b5, .int 0, .ref b7, .ref b8, .ref b9, .ref b10, .ref b11, .ref b12, .int 0, .ref b14, .ref b15, .ref b16, .ref b17, .int 0, .ref b19, .ref b20, .ref b21, .ref b22, .ref b23, .ref b24, .ref b25, .ref b26, .ref b27, .int 0, .ref b29, .ref b30, .ref b31, .ref b32, .ref b33, .ref b34, .ref b35]))] H := hP
  replace hD : va_D (LA s) [(mm, .inr (10, [.ref w, .int 0])), (w, .inr (9, [.int 0, .int 0, .ref b2, .ref b3, .ref b4, .ref b5, .int 0, .ref b7, .ref b8, .ref b9, .ref b10, .ref b11, .ref b12, .int 0, .ref b14, .ref b15, .ref b16, .ref b17, .int 0, .ref b19, .ref b20, .ref b21, .ref b22, .ref b23, .ref b24, .ref b25, .ref b26, .ref b27, .int 0, .ref b29, .ref b30, .ref b31, .ref b32, .ref b33, .ref b34, .ref b35]))] := hD
  refine lv_istore (lv' := [(5, .int 1), (0, .ref b), (1, .ref g), (2, .ref mm), (3, .ref ou), (4, .int 0)]) hx hb dL_law_1822 hl (by decide) rfl (fun ls hl => ?_)
  refine lv_aload_n hx hb dL_law_1824 rfl (lv_at hl 3 rfl) ?_
  refine lv_aload_n hx hb dL_law_1825 rfl (lv_at hl 1 rfl) ?_
  refine lv_iload hx hb dL_law_1826 (lv_at hl 5 rfl) ?_
  refine lv_iconst (v := 1) hx hb dL_law_1828 (by decide) ?_
  refine lv_iadd hx hb dL_law_1829 ?_
  refine lv_toi (y := 1) (by decide) ?_
  refine va_sld hx hb hX hbl hbA hS (by unfold vp_in; decide) dL_law_1830 ?_
  refine lv_toi (y := xs 1) (congrArg xs (by decide)) ?_
  refine lv_aload_n hx hb dL_law_1831 rfl (lv_at hl 1 rfl) ?_
  refine lv_iload hx hb dL_law_1832 (lv_at hl 5 rfl) ?_
  refine lv_iconst (v := 2) hx hb dL_law_1834 (by decide) ?_
  refine lv_iadd hx hb dL_law_1835 ?_
  refine lv_toi (y := 2) (by decide) ?_
  refine va_sld hx hb hX hbl hbA hS (by unfold vp_in; decide) dL_law_1836 ?_
  refine lv_toi (y := xs 2) (congrArg xs (by decide)) ?_
  have hPc := hP.sub (ws' := [(mm, .inr (10, [.ref w, .int 0])), (w, .inr (9, [.int 0, .int 0, .ref b2, .ref b3, .ref b4, .ref b5, .int 0, .ref b7, .ref b8, .ref b9, .ref b10, .ref b11, .ref b12, .int 0, .ref b14, .ref b15, .ref b16, .ref b17, .int 0, .ref b19, .ref b20, .ref b21, .ref b22, .ref b23, .ref b24, .ref b25, .ref b26, .ref b27, .int 0, .ref b29, .ref b30, .ref b31, .ref b32, .ref b33, .ref b34, .ref b35]))]) [0, 1] rfl
  have hDc := hD.sub (ws' := [(mm, .inr (10, [.ref w, .int 0])), (w, .inr (9, [.int 0, .int 0, .ref b2, .ref b3, .ref b4, .ref b5, .int 0, .ref b7, .ref b8, .ref b9, .ref b10, .ref b11, .ref b12, .int 0, .ref b14, .ref b15, .ref b16, .ref b17, .int 0, .ref b19, .ref b20, .ref b21, .ref b22, .ref b23, .ref b24, .ref b25, .ref b26, .ref b27, .int 0, .ref b29, .ref b30, .ref b31, .ref b32, .ref b33, .ref b34, .ref b35]))]) [0, 1] (by decide) rfl
  have hFc := va_free (wc := [(mm, .inr (10, [.ref w, .int 0])), (w, .inr (9, [.int 0, .int 0, .ref b2, .ref b3, .ref b4, .ref b5, .int 0, .ref b7, .ref b8, .ref b9, .ref b10, .ref b11, .ref b12, .int 0, .ref b14, .ref b15, .ref b16, .ref b17, .int 0, .ref b19, .ref b20, .ref b21, .ref b22, .ref b23, .ref b24, .ref b25, .ref b26, .ref b27, .int 0, .ref b29, .ref b30, .ref b31, .ref b32, .ref b33, .ref b34, .ref b35]))]) hD hS hA [0, 1] rfl
  refine va_calli (va_runV (As := [.int (xs 1), .int (xs 2)]) (rest := []) ⟨hx, hb, hml, hown, hts⟩ (m_position l D cI cZ cJ s.heap.size H.size mm 0 w 0 b2 b3 b4 b5 b7 b8 b9 b10 b11 b12 b14 b15 b16 b17 b19 b20 b21 b22 b23 b24 b25 b26 b27 b29 b30 b31 b32 b33 b34 b35 (xs 1) (xs 2)) (cwV 2 hts gL_law_X10_position rfl rfl rfl (by decide +kernel) ⟨(Nat.le_of_ble_eq_true rfl), (Nat.le_of_ble_eq_true rfl)⟩) ⟨Pre.blind, va_recv hK hP (ci := 10) (q0 := 0) rfl rfl, Pre.mk hPc (hDc.weaken (fun _ _ _ h => hAlo _ h)) hC hS hAlo⟩ rfl rfl hl.1 rfl (lv_room (Nat.le_of_ble_eq_true rfl)) dL_law_1837 ⟨(Nat.le_of_ble_eq_true rfl), (Nat.le_of_ble_eq_true rfl)⟩) hS (fun q _ h => hFc q h) hFc (fun r_3 u t H1 locs1 ht hvm e_4 hB hz1 hk1 hS1 => ?_)
  have hS := hS1
  refine W.widen (k := 124) (n := 42914) (by omega) (by omega) ?_
  obtain ⟨hP1, hD1⟩ := hB
  rw [ht] at hP1
  obtain ⟨hP, hD⟩ := va_join (wr := []) (w1 := [(mm, .inr (10, [.ref w, .int 1]))]) hP hD [0, 1] [] rfl rfl (by decide) (by decide) hk1 hFc hP1 hD1
  have e_4 : 0 = r_3 := Eq.symm e_4
  subst e_4
  clear hFc hPc hDc ht hvm hz1 hk1 hS1 hP1 hD1
  generalize H1 = H at hP hS ⊢
  replace hP : va_P D vwCl [(mm, .inr (10, [.ref w, .int 1]))] H := hP
  replace hD : va_D (LA s) [(mm, .inr (10, [.ref w, .int 1]))] := hD
  refine lv_istore (lv' := [(6, .int 0), (5, .int 1), (0, .ref b), (1, .ref g), (2, .ref mm), (3, .ref ou), (4, .int 0)]) hx hb dL_law_1840 hl (by decide) rfl (fun ls hl => ?_)
  refine lv_aload_n hx hb dL_law_1842 rfl (lv_at hl 4 rfl) ?_
  have hPc := hP.sub (ws' := [(mm, .inr (10, [.ref w, .int 1]))]) [0] rfl
  have hDc := hD.sub (ws' := [(mm, .inr (10, [.ref w, .int 1]))]) [0] (by decide) rfl
  refine vp_callSi (W.runV (As := []) (rest := []) ⟨hx, hb, hml, hown, hts⟩ (c_thrown l D cI cZ cJ s.heap.size H.size mm 1 w) (cwV 0 hts gL_law_X10_thrown rfl rfl rfl (by decide +kernel) ⟨(Nat.le_of_ble_eq_true rfl), (Nat.le_of_ble_eq_true rfl)⟩) ⟨Pre.blind, va_recv hK hP (ci := 10) (q0 := 0) rfl rfl, Pre.mk hPc (hDc.weaken (fun _ _ _ h => hAlo _ h)) hC hS hAlo⟩ rfl rfl hl.1 rfl (lv_room (Nat.le_of_ble_eq_true rfl)) dL_law_1843 ⟨(Nat.le_of_ble_eq_true rfl), (Nat.le_of_ble_eq_true rfl)⟩) (fun r_5 e_6 => ?_)
  clear hPc hDc
  have e_6 : 1 = r_5 := Eq.symm e_6
  subst e_6
  refine lv_iload hx hb dL_law_1846 (lv_at hl 1 rfl) ?_
  refine lv_icmp_eq (tgt := 1853) hx hb dL_law_1848 (by decide) (fun _ => ?_) (fun c9 => absurd (show (1 : Int32) = (1 : Int32) from (by decide)) c9)
  refine lv_iload hx hb dL_law_1853 (lv_at hl 1 rfl) ?_
  refine lv_if_ne (tgt := 1870) hx hb dL_law_1855 (by decide) (fun _ => ?_) (fun c9 => absurd c9 (show ¬ (1 : Int32) = (0 : Int32) from (by decide)))
  refine lv_goto (tgt := 2855) hx hb dL_law_1870 (by decide) ?_
  refine W.widen (k := 1000) (n := 200000) (Nat.le_of_ble_eq_true rfl) (Nat.le_of_ble_eq_true rfl) ?_
  exact T H _ ls hS (lv_sub hl [2, 6] rfl)

set_option maxHeartbeats 4000000 in
set_option maxRecDepth 100000 in
/-- the law at a call of roomLeft -/
theorem law_roomLeft {p : Program} {l : Launch} {e : Env} {s : State} {m : MethodId} {below : List Frame} {meth : Method} {c : Code} {Q : State → Prop} (hl9 : l.stackTraces = false) (D : va_G) (cI cZ cJ : ClassId) (b : Nat) (xs : Nat → Int32) (C0 : LC s p m c D cI cZ cJ b xs) (g : Nat) (nw : Nat) (la : Nat) (pn : Nat) (aI : Nat) (aS : Nat) (aP : Nat) (aL : Nat) (aO : Nat) (aT : Nat) (aA : Nat) (aQ : Nat) (aS1 : Nat) (aS2 : Nat) (mm : Nat) (w : Nat) (b2 : Nat) (b3 : Nat) (b4 : Nat) (b5 : Nat) (b7 : Nat) (b8 : Nat) (b9 : Nat) (b10 : Nat) (b11 : Nat) (b12 : Nat) (b14 : Nat) (b15 : Nat) (b16 : Nat) (b17 : Nat) (b19 : Nat) (b20 : Nat) (b21 : Nat) (b22 : Nat) (b23 : Nat) (b24 : Nat) (b25 : Nat) (b26 : Nat) (b27 : Nat) (b29 : Nat) (b30 : Nat) (b31 : Nat) (b32 : Nat) (b33 : Nat) (b34 : Nat) (b35 : Nat) (ou : Nat) (T : LT p l e s m below meth c b Q) {H : Heap} {locs : List Loc} {ls : Array Slot} (hP : va_P D vwCl [(g, .inr (8, [.ref nw, .ref la, .ref pn])), (nw, .inr (6, [.int 0, .ref aI, .ref aS, .ref aP, .ref aL, .ref aO, .ref aT, .ref aA, .ref aQ])), (aS, .inr (5, [.int 0, .ref aS1, .ref aS2])), (mm, .inr (10, [.ref w, .int 0])), (w, .inr (9, [.int 0, .int 0, .ref b2, .ref b3, .ref b4, .ref b5, .int 0, .ref b7, .ref b8, .ref b9, .ref b10, .ref b11, .ref b12, .int 0, .ref b14, .ref b15, .ref b16, .ref b17, .int 0, .ref b19, .ref b20, .ref b21, .ref b22, .ref b23, .ref b24, .ref b25, .ref b26, .ref b27, .int 0, .ref b29, .ref b30, .ref b31, .ref b32, .ref b33, .ref b34, .ref b35]))] H) (hD : va_D (LA s) [(g, .inr (8, [.ref nw, .ref la, .ref pn])), (nw, .inr (6, [.int 0, .ref aI, .ref aS, .ref aP, .ref aL, .ref aO, .ref aT, .ref aA, .ref aQ])), (aS, .inr (5, [.int 0, .ref aS1, .ref aS2])), (mm, .inr (10, [.ref w, .int 0])), (w, .inr (9, [.int 0, .int 0, .ref b2, .ref b3, .ref b4, .ref b5, .int 0, .ref b7, .ref b8, .ref b9, .ref b10, .ref b11, .ref b12, .int 0, .ref b14, .ref b15, .ref b16, .ref b17, .int 0, .ref b19, .ref b20, .ref b21, .ref b22, .ref b23, .ref b24, .ref b25, .ref b26, .ref b27, .int 0, .ref b29, .ref b30, .ref b31, .ref b32, .ref b33, .ref b34, .ref b35]))]) (hS : va_S (LA s) s.heap H locs) (hl : lv_has ls 9 [(0, .ref b), (1, .ref g), (2, .ref mm), (3, .ref ou), (4, .int 0)]) : W p l e room_1 s m #[Value.ref b] below meth c H locs 123 42908 Q (F0 m 1873 ls []) := by
  obtain ⟨hx, hb, hml, hown, hts, hX, hbl, hC⟩ := C0
  have hK := hC.K
  have hA : ∀ q : Nat, s.heap.size ≤ q → LA s q := fun _ h => h
  have hAlo : ∀ q, LA s q → s.heap.size ≤ q := fun _ h => h
  have hbA : ¬ LA s b := Nat.not_le.mpr hbl
  refine lv_aload_n hx hb dL_law_1873 rfl (lv_at hl 1 rfl) ?_
  refine lv_aload_n hx hb dL_law_1874 rfl (lv_at hl 0 rfl) ?_
  refine lv_iload hx hb dL_law_1875 (lv_at hl 4 rfl) ?_
  refine lv_iconst (v := 1) hx hb dL_law_1877 (by decide) ?_
  refine lv_iadd hx hb dL_law_1878 ?_
  refine lv_toi (y := 1) (by decide) ?_
  refine va_sld hx hb hX hbl hbA hS (by unfold vp_in; decide) dL_law_1879 ?_
  refine lv_toi (y := xs 1) (congrArg xs (by decide)) ?_
  refine lv_aload_n hx hb dL_law_1880 rfl (lv_at hl 3 rfl) ?_
  have hPc := hP.sub (ws' := [(g, .inr (8, [.ref nw, .ref la, .ref pn])), (nw, .inr (6, [.int 0, .ref aI, .ref aS, .ref aP, .ref aL, .ref aO, .ref aT, .ref aA, .ref aQ])), (aS, .inr (5, [.int 0, .ref aS1, .ref aS2]))]) [0, 1, 2] rfl
  have hDc := hD.sub (ws' := [(g, .inr (8, [.ref nw, .ref la, .ref pn])), (nw, .inr (6, [.int 0, .ref aI, .ref aS, .ref aP, .ref aL, .ref aO, .ref aT, .ref aA, .ref aQ])), (aS, .inr (5, [.int 0, .ref aS1, .ref aS2]))]) [0, 1, 2] (by decide) rfl
  have hFc := va_free (wc := [(g, .inr (8, [.ref nw, .ref la, .ref pn])), (nw, .inr (6, [.int 0, .ref aI, .ref aS, .ref aP, .ref aL, .ref aO, .ref aT, .ref aA, .ref aQ])), (aS, .inr (5, [.int 0, .ref aS1, .ref aS2]))]) hD hS hA [0, 1, 2] rfl
  refine va_calli (vx_runSW (As := [.ref g, .int (xs 1), .ref ou]) (rest := []) ⟨hx, hb, hml, hown, hts⟩ (h_roomLeft l hl9 D cI cZ cJ s.heap.size H.size g nw la pn 0 aI aS aP aL aO aT aA aQ aS1 aS2 (xs 1) ou) (vx_cwSW 3 hts gL_law_L_roomLeft rfl rfl rfl (by decide +kernel) ⟨(Nat.le_of_ble_eq_true rfl), (Nat.le_of_ble_eq_true rfl)⟩) ⟨Pre.blind, Pre.mk hPc (hDc.weaken (fun _ _ _ h => hAlo _ h)) hC hS hAlo⟩ rfl rfl hl.1 rfl (lv_room (Nat.le_of_ble_eq_true rfl)) dL_law_1881 ⟨(Nat.le_of_ble_eq_true rfl), (Nat.le_of_ble_eq_true rfl)⟩) hS (fun q _ h => hFc q h) hFc (fun r_1 u t H1 locs1 ht hvm e_2 hB hz1 hk1 hS1 => ?_)
  have hS := hS1
  refine W.widen (k := 124) (n := 42914) (by omega) (by omega) ?_
  obtain ⟨hP, hD⟩ := va_rest (wr := [(mm, .inr (10, [.ref w, .int 0])), (w, .inr (9, [.int 0, .int 0, .ref b2, .ref b3, .ref b4, .ref b5, .int 0, .ref b7, .ref b8, .ref b9, .ref b10, .ref b11, .ref b12, .int 0, .ref b14, .ref b15, .ref b16, .ref b17, .int 0, .ref b19, .ref b20, .ref b21, .ref b22, .ref b23, .ref b24, .ref b25, .ref b26, .ref b27, .int 0, .ref b29, .ref b30, .ref b31, .ref b32, .ref b33, .ref b34, .ref b35]))]) hP hD [0, 1, 2] [3, 4] rfl rfl (by decide) (by decide) hk1 hFc
  have e_2 : 1 = r_1 := Eq.symm e_2
  subst e_2
  clear hFc hPc hDc ht hvm hz1 hk1 hS1 hB
  generalize H1 = H at hP hS ⊢
  replace hP : va_P D vwCl [(mm, .inr (10, [.ref w, .int 0])), (w, .inr (9, [.int 0, .int 0, .ref b2, .ref b3, .ref b4, .ref b5, .int 0, .ref b7, .ref b8, .ref b9, .ref b10, .ref b11, .ref b12, .int 0, .ref b14, .ref b15, .ref b16, .ref b17, .int 0, .ref b19, .ref b20, .ref b21, .ref b22, .ref b23, .ref b24, .ref b25, .ref b26, .ref b27, .int 0, .ref b29, .ref b30, .ref b31, .ref b32, .ref b33, .ref b34, .ref b35]))] H := hP
  replace hD : va_D (LA s) [(mm, .inr (10, [.ref w, .int 0])), (w, .inr (9, [.int 0, .int 0, .ref b2, .ref b3, .ref b4, .ref b5, .int 0, .ref b7, .ref b8, .ref b9, .ref b10, .ref b11, .ref b12, .int 0, .ref b14, .ref b15, .ref b16, .ref b17, .int 0, .ref b19, .ref b20, .ref b21, .ref b22, .ref b23, .ref b24, .ref b25, .ref b26, .ref b27, .int 0, .ref b29, .ref b30, .ref b31, .ref b32, .ref b33, .ref b34, .ref b35]))] := hD
  refine lv_istore (lv' := [(5, .int 1), (0, .ref b), (1, .ref g), (2, .ref mm), (3, .ref ou), (4, .int 0)]) hx hb dL_law_1884 hl (by decide) rfl (fun ls hl => ?_)
  refine lv_aload_n hx hb dL_law_1886 rfl (lv_at hl 3 rfl) ?_
  refine lv_aload_n hx hb dL_law_1887 rfl (lv_at hl 1 rfl) ?_
  refine lv_iload hx hb dL_law_1888 (lv_at hl 5 rfl) ?_
  refine lv_iconst (v := 1) hx hb dL_law_1890 (by decide) ?_
  refine lv_iadd hx hb dL_law_1891 ?_
  refine lv_toi (y := 1) (by decide) ?_
  refine va_sld hx hb hX hbl hbA hS (by unfold vp_in; decide) dL_law_1892 ?_
  refine lv_toi (y := xs 1) (congrArg xs (by decide)) ?_
  have hPc := hP.sub (ws' := [(mm, .inr (10, [.ref w, .int 0])), (w, .inr (9, [.int 0, .int 0, .ref b2, .ref b3, .ref b4, .ref b5, .int 0, .ref b7, .ref b8, .ref b9, .ref b10, .ref b11, .ref b12, .int 0, .ref b14, .ref b15, .ref b16, .ref b17, .int 0, .ref b19, .ref b20, .ref b21, .ref b22, .ref b23, .ref b24, .ref b25, .ref b26, .ref b27, .int 0, .ref b29, .ref b30, .ref b31, .ref b32, .ref b33, .ref b34, .ref b35]))]) [0, 1] rfl
  have hDc := hD.sub (ws' := [(mm, .inr (10, [.ref w, .int 0])), (w, .inr (9, [.int 0, .int 0, .ref b2, .ref b3, .ref b4, .ref b5, .int 0, .ref b7, .ref b8, .ref b9, .ref b10, .ref b11, .ref b12, .int 0, .ref b14, .ref b15, .ref b16, .ref b17, .int 0, .ref b19, .ref b20, .ref b21, .ref b22, .ref b23, .ref b24, .ref b25, .ref b26, .ref b27, .int 0, .ref b29, .ref b30, .ref b31, .ref b32, .ref b33, .ref b34, .ref b35]))]) [0, 1] (by decide) rfl
  have hFc := va_free (wc := [(mm, .inr (10, [.ref w, .int 0])), (w, .inr (9, [.int 0, .int 0, .ref b2, .ref b3, .ref b4, .ref b5, .int 0, .ref b7, .ref b8, .ref b9, .ref b10, .ref b11, .ref b12, .int 0, .ref b14, .ref b15, .ref b16, .ref b17, .int 0, .ref b19, .ref b20, .ref b21, .ref b22, .ref b23, .ref b24, .ref b25, .ref b26, .ref b27, .int 0, .ref b29, .ref b30, .ref b31, .ref b32, .ref b33, .ref b34, .ref b35]))]) hD hS hA [0, 1] rfl
  refine va_calli (va_runV (As := [.int (xs 1)]) (rest := []) ⟨hx, hb, hml, hown, hts⟩ (m_roomLeft l D cI cZ cJ s.heap.size H.size mm 0 w 0 b2 b3 b4 b5 b7 b8 b9 b10 b11 b12 b14 b15 b16 b17 b19 b20 b21 b22 b23 b24 b25 b26 b27 b29 b30 b31 b32 b33 b34 b35 (xs 1)) (cwV 1 hts gL_law_X10_roomLeft rfl rfl rfl (by decide +kernel) ⟨(Nat.le_of_ble_eq_true rfl), (Nat.le_of_ble_eq_true rfl)⟩) ⟨Pre.blind, va_recv hK hP (ci := 10) (q0 := 0) rfl rfl, Pre.mk hPc (hDc.weaken (fun _ _ _ h => hAlo _ h)) hC hS hAlo⟩ rfl rfl hl.1 rfl (lv_room (Nat.le_of_ble_eq_true rfl)) dL_law_1893 ⟨(Nat.le_of_ble_eq_true rfl), (Nat.le_of_ble_eq_true rfl)⟩) hS (fun q _ h => hFc q h) hFc (fun r_3 u t H1 locs1 ht hvm e_4 hB hz1 hk1 hS1 => ?_)
  have hS := hS1
  refine W.widen (k := 124) (n := 42914) (by omega) (by omega) ?_
  obtain ⟨hP1, hD1⟩ := hB
  rw [ht] at hP1
  obtain ⟨hP, hD⟩ := va_join (wr := []) (w1 := [(mm, .inr (10, [.ref w, .int 1]))]) hP hD [0, 1] [] rfl rfl (by decide) (by decide) hk1 hFc hP1 hD1
  have e_4 : 0 = r_3 := Eq.symm e_4
  subst e_4
  clear hFc hPc hDc ht hvm hz1 hk1 hS1 hP1 hD1
  generalize H1 = H at hP hS ⊢
  replace hP : va_P D vwCl [(mm, .inr (10, [.ref w, .int 1]))] H := hP
  replace hD : va_D (LA s) [(mm, .inr (10, [.ref w, .int 1]))] := hD
  refine lv_istore (lv' := [(6, .int 0), (5, .int 1), (0, .ref b), (1, .ref g), (2, .ref mm), (3, .ref ou), (4, .int 0)]) hx hb dL_law_1896 hl (by decide) rfl (fun ls hl => ?_)
  refine lv_aload_n hx hb dL_law_1898 rfl (lv_at hl 4 rfl) ?_
  have hPc := hP.sub (ws' := [(mm, .inr (10, [.ref w, .int 1]))]) [0] rfl
  have hDc := hD.sub (ws' := [(mm, .inr (10, [.ref w, .int 1]))]) [0] (by decide) rfl
  refine vp_callSi (W.runV (As := []) (rest := []) ⟨hx, hb, hml, hown, hts⟩ (c_thrown l D cI cZ cJ s.heap.size H.size mm 1 w) (cwV 0 hts gL_law_X10_thrown rfl rfl rfl (by decide +kernel) ⟨(Nat.le_of_ble_eq_true rfl), (Nat.le_of_ble_eq_true rfl)⟩) ⟨Pre.blind, va_recv hK hP (ci := 10) (q0 := 0) rfl rfl, Pre.mk hPc (hDc.weaken (fun _ _ _ h => hAlo _ h)) hC hS hAlo⟩ rfl rfl hl.1 rfl (lv_room (Nat.le_of_ble_eq_true rfl)) dL_law_1899 ⟨(Nat.le_of_ble_eq_true rfl), (Nat.le_of_ble_eq_true rfl)⟩) (fun r_5 e_6 => ?_)
  clear hPc hDc
  have e_6 : 1 = r_5 := Eq.symm e_6
  subst e_6
  refine lv_iload hx hb dL_law_1902 (lv_at hl 1 rfl) ?_
  refine lv_icmp_eq (tgt := 1909) hx hb dL_law_1904 (by decide) (fun _ => ?_) (fun c9 => absurd (show (1 : Int32) = (1 : Int32) from (by decide)) c9)
  refine lv_iload hx hb dL_law_1909 (lv_at hl 1 rfl) ?_
  refine lv_if_ne (tgt := 1926) hx hb dL_law_1911 (by decide) (fun _ => ?_) (fun c9 => absurd c9 (show ¬ (1 : Int32) = (0 : Int32) from (by decide)))
  refine lv_goto (tgt := 2855) hx hb dL_law_1926 (by decide) ?_
  refine W.widen (k := 1000) (n := 200000) (Nat.le_of_ble_eq_true rfl) (Nat.le_of_ble_eq_true rfl) ?_
  exact T H _ ls hS (lv_sub hl [2, 6] rfl)

set_option maxHeartbeats 4000000 in
set_option maxRecDepth 100000 in
/-- the law at a call of expiring -/
theorem law_expiring {p : Program} {l : Launch} {e : Env} {s : State} {m : MethodId} {below : List Frame} {meth : Method} {c : Code} {Q : State → Prop} (hl9 : l.stackTraces = false) (D : va_G) (cI cZ cJ : ClassId) (b : Nat) (xs : Nat → Int32) (C0 : LC s p m c D cI cZ cJ b xs) (g : Nat) (nw : Nat) (la : Nat) (pn : Nat) (aI : Nat) (aS : Nat) (aP : Nat) (aL : Nat) (aO : Nat) (aT : Nat) (aA : Nat) (aQ : Nat) (aI1 : Nat) (aI2 : Nat) (aI3 : Nat) (aI4 : Nat) (mm : Nat) (w : Nat) (b2 : Nat) (b3 : Nat) (b4 : Nat) (b5 : Nat) (b7 : Nat) (b8 : Nat) (b9 : Nat) (b10 : Nat) (b11 : Nat) (b12 : Nat) (b14 : Nat) (b15 : Nat) (b16 : Nat) (b17 : Nat) (b19 : Nat) (b20 : Nat) (b21 : Nat) (b22 : Nat) (b23 : Nat) (b24 : Nat) (b25 : Nat) (b26 : Nat) (b27 : Nat) (b29 : Nat) (b30 : Nat) (b31 : Nat) (b32 : Nat) (b33 : Nat) (b34 : Nat) (b35 : Nat) (ou : Nat) (T : LT p l e s m below meth c b Q) {H : Heap} {locs : List Loc} {ls : Array Slot} (hP : va_P D vwCl [(g, .inr (8, [.ref nw, .ref la, .ref pn])), (nw, .inr (6, [.int 0, .ref aI, .ref aS, .ref aP, .ref aL, .ref aO, .ref aT, .ref aA, .ref aQ])), (aI, .inr (0, [.int 0, .ref aI1, .ref aI2, .ref aI3, .ref aI4])), (mm, .inr (10, [.ref w, .int 0])), (w, .inr (9, [.int 0, .int 0, .ref b2, .ref b3, .ref b4, .ref b5, .int 0, .ref b7, .ref b8, .ref b9, .ref b10, .ref b11, .ref b12, .int 0, .ref b14, .ref b15, .ref b16, .ref b17, .int 0, .ref b19, .ref b20, .ref b21, .ref b22, .ref b23, .ref b24, .ref b25, .ref b26, .ref b27, .int 0, .ref b29, .ref b30, .ref b31, .ref b32, .ref b33, .ref b34, .ref b35]))] H) (hD : va_D (LA s) [(g, .inr (8, [.ref nw, .ref la, .ref pn])), (nw, .inr (6, [.int 0, .ref aI, .ref aS, .ref aP, .ref aL, .ref aO, .ref aT, .ref aA, .ref aQ])), (aI, .inr (0, [.int 0, .ref aI1, .ref aI2, .ref aI3, .ref aI4])), (mm, .inr (10, [.ref w, .int 0])), (w, .inr (9, [.int 0, .int 0, .ref b2, .ref b3, .ref b4, .ref b5, .int 0, .ref b7, .ref b8, .ref b9, .ref b10, .ref b11, .ref b12, .int 0, .ref b14, .ref b15, .ref b16, .ref b17, .int 0, .ref b19, .ref b20, .ref b21, .ref b22, .ref b23, .ref b24, .ref b25, .ref b26, .ref b27, .int 0, .ref b29, .ref b30, .ref b31, .ref b32, .ref b33, .ref b34, .ref b35]))]) (hS : va_S (LA s) s.heap H locs) (hl : lv_has ls 9 [(0, .ref b), (1, .ref g), (2, .ref mm), (3, .ref ou), (4, .int 0)]) : W p l e room_1 s m #[Value.ref b] below meth c H locs 123 42908 Q (F0 m 1929 ls []) := by
  obtain ⟨hx, hb, hml, hown, hts, hX, hbl, hC⟩ := C0
  have hK := hC.K
  have hA : ∀ q : Nat, s.heap.size ≤ q → LA s q := fun _ h => h
  have hAlo : ∀ q, LA s q → s.heap.size ≤ q := fun _ h => h
  have hbA : ¬ LA s b := Nat.not_le.mpr hbl
  refine lv_aload_n hx hb dL_law_1929 rfl (lv_at hl 1 rfl) ?_
  refine lv_aload_n hx hb dL_law_1930 rfl (lv_at hl 0 rfl) ?_
  refine lv_iload hx hb dL_law_1931 (lv_at hl 4 rfl) ?_
  refine lv_iconst (v := 1) hx hb dL_law_1933 (by decide) ?_
  refine lv_iadd hx hb dL_law_1934 ?_
  refine lv_toi (y := 1) (by decide) ?_
  refine va_sld hx hb hX hbl hbA hS (by unfold vp_in; decide) dL_law_1935 ?_
  refine lv_toi (y := xs 1) (congrArg xs (by decide)) ?_
  refine lv_aload_n hx hb dL_law_1936 rfl (lv_at hl 0 rfl) ?_
  refine lv_iload hx hb dL_law_1937 (lv_at hl 4 rfl) ?_
  refine lv_iconst (v := 2) hx hb dL_law_1939 (by decide) ?_
  refine lv_iadd hx hb dL_law_1940 ?_
  refine lv_toi (y := 2) (by decide) ?_
  refine va_sld hx hb hX hbl hbA hS (by unfold vp_in; decide) dL_law_1941 ?_
  refine lv_toi (y := xs 2) (congrArg xs (by decide)) ?_
  refine lv_aload_n hx hb dL_law_1942 rfl (lv_at hl 0 rfl) ?_
  refine lv_iload hx hb dL_law_1943 (lv_at hl 4 rfl) ?_
  refine lv_iconst (v := 3) hx hb dL_law_1945 (by decide) ?_
  refine lv_iadd hx hb dL_law_1946 ?_
  refine lv_toi (y := 3) (by decide) ?_
  refine va_sld hx hb hX hbl hbA hS (by unfold vp_in; decide) dL_law_1947 ?_
  refine lv_toi (y := xs 3) (congrArg xs (by decide)) ?_
  refine lv_aload_n hx hb dL_law_1948 rfl (lv_at hl 3 rfl) ?_
  have hPc := hP.sub (ws' := [(g, .inr (8, [.ref nw, .ref la, .ref pn])), (nw, .inr (6, [.int 0, .ref aI, .ref aS, .ref aP, .ref aL, .ref aO, .ref aT, .ref aA, .ref aQ])), (aI, .inr (0, [.int 0, .ref aI1, .ref aI2, .ref aI3, .ref aI4]))]) [0, 1, 2] rfl
  have hDc := hD.sub (ws' := [(g, .inr (8, [.ref nw, .ref la, .ref pn])), (nw, .inr (6, [.int 0, .ref aI, .ref aS, .ref aP, .ref aL, .ref aO, .ref aT, .ref aA, .ref aQ])), (aI, .inr (0, [.int 0, .ref aI1, .ref aI2, .ref aI3, .ref aI4]))]) [0, 1, 2] (by decide) rfl
  have hFc := va_free (wc := [(g, .inr (8, [.ref nw, .ref la, .ref pn])), (nw, .inr (6, [.int 0, .ref aI, .ref aS, .ref aP, .ref aL, .ref aO, .ref aT, .ref aA, .ref aQ])), (aI, .inr (0, [.int 0, .ref aI1, .ref aI2, .ref aI3, .ref aI4]))]) hD hS hA [0, 1, 2] rfl
  refine va_calli (vx_runSW (As := [.ref g, .int (xs 1), .int (xs 2), .int (xs 3), .ref ou]) (rest := []) ⟨hx, hb, hml, hown, hts⟩ (h_expiring l hl9 D cI cZ cJ s.heap.size H.size g nw la pn 0 aI aS aP aL aO aT aA aQ aI1 aI2 aI3 aI4 (xs 1) (xs 2) (xs 3) ou) (vx_cwSW 5 hts gL_law_L_expiring rfl rfl rfl (by decide +kernel) ⟨(Nat.le_of_ble_eq_true rfl), (Nat.le_of_ble_eq_true rfl)⟩) ⟨Pre.blind, Pre.mk hPc (hDc.weaken (fun _ _ _ h => hAlo _ h)) hC hS hAlo⟩ rfl rfl hl.1 rfl (lv_room (Nat.le_of_ble_eq_true rfl)) dL_law_1949 ⟨(Nat.le_of_ble_eq_true rfl), (Nat.le_of_ble_eq_true rfl)⟩) hS (fun q _ h => hFc q h) hFc (fun r_1 u t H1 locs1 ht hvm e_2 hB hz1 hk1 hS1 => ?_)
  have hS := hS1
  refine W.widen (k := 124) (n := 42914) (by omega) (by omega) ?_
  obtain ⟨hP, hD⟩ := va_rest (wr := [(mm, .inr (10, [.ref w, .int 0])), (w, .inr (9, [.int 0, .int 0, .ref b2, .ref b3, .ref b4, .ref b5, .int 0, .ref b7, .ref b8, .ref b9, .ref b10, .ref b11, .ref b12, .int 0, .ref b14, .ref b15, .ref b16, .ref b17, .int 0, .ref b19, .ref b20, .ref b21, .ref b22, .ref b23, .ref b24, .ref b25, .ref b26, .ref b27, .int 0, .ref b29, .ref b30, .ref b31, .ref b32, .ref b33, .ref b34, .ref b35]))]) hP hD [0, 1, 2] [3, 4] rfl rfl (by decide) (by decide) hk1 hFc
  have e_2 : 1 = r_1 := Eq.symm e_2
  subst e_2
  clear hFc hPc hDc ht hvm hz1 hk1 hS1 hB
  generalize H1 = H at hP hS ⊢
  replace hP : va_P D vwCl [(mm, .inr (10, [.ref w, .int 0])), (w, .inr (9, [.int 0, .int 0, .ref b2, .ref b3, .ref b4, .ref b5, .int 0, .ref b7, .ref b8, .ref b9, .ref b10, .ref b11, .ref b12, .int 0, .ref b14, .ref b15, .ref b16, .ref b17, .int 0, .ref b19, .ref b20, .ref b21, .ref b22, .ref b23, .ref b24, .ref b25, .ref b26, .ref b27, .int 0, .ref b29, .ref b30, .ref b31, .ref b32, .ref b33, .ref b34, .ref b35]))] H := hP
  replace hD : va_D (LA s) [(mm, .inr (10, [.ref w, .int 0])), (w, .inr (9, [.int 0, .int 0, .ref b2, .ref b3, .ref b4, .ref b5, .int 0, .ref b7, .ref b8, .ref b9, .ref b10, .ref b11, .ref b12, .int 0, .ref b14, .ref b15, .ref b16, .ref b17, .int 0, .ref b19, .ref b20, .ref b21, .ref b22, .ref b23, .ref b24, .ref b25, .ref b26, .ref b27, .int 0, .ref b29, .ref b30, .ref b31, .ref b32, .ref b33, .ref b34, .ref b35]))] := hD
  refine lv_istore (lv' := [(5, .int 1), (0, .ref b), (1, .ref g), (2, .ref mm), (3, .ref ou), (4, .int 0)]) hx hb dL_law_1952 hl (by decide) rfl (fun ls hl => ?_)
  refine lv_aload_n hx hb dL_law_1954 rfl (lv_at hl 3 rfl) ?_
  refine lv_aload_n hx hb dL_law_1955 rfl (lv_at hl 1 rfl) ?_
  refine lv_iload hx hb dL_law_1956 (lv_at hl 5 rfl) ?_
  refine lv_iconst (v := 1) hx hb dL_law_1958 (by decide) ?_
  refine lv_iadd hx hb dL_law_1959 ?_
  refine lv_toi (y := 1) (by decide) ?_
  refine va_sld hx hb hX hbl hbA hS (by unfold vp_in; decide) dL_law_1960 ?_
  refine lv_toi (y := xs 1) (congrArg xs (by decide)) ?_
  refine lv_aload_n hx hb dL_law_1961 rfl (lv_at hl 1 rfl) ?_
  refine lv_iload hx hb dL_law_1962 (lv_at hl 5 rfl) ?_
  refine lv_iconst (v := 2) hx hb dL_law_1964 (by decide) ?_
  refine lv_iadd hx hb dL_law_1965 ?_
  refine lv_toi (y := 2) (by decide) ?_
  refine va_sld hx hb hX hbl hbA hS (by unfold vp_in; decide) dL_law_1966 ?_
  refine lv_toi (y := xs 2) (congrArg xs (by decide)) ?_
  refine lv_aload_n hx hb dL_law_1967 rfl (lv_at hl 1 rfl) ?_
  refine lv_iload hx hb dL_law_1968 (lv_at hl 5 rfl) ?_
  refine lv_iconst (v := 3) hx hb dL_law_1970 (by decide) ?_
  refine lv_iadd hx hb dL_law_1971 ?_
  refine lv_toi (y := 3) (by decide) ?_
  refine va_sld hx hb hX hbl hbA hS (by unfold vp_in; decide) dL_law_1972 ?_
  refine lv_toi (y := xs 3) (congrArg xs (by decide)) ?_
  have hPc := hP.sub (ws' := [(mm, .inr (10, [.ref w, .int 0])), (w, .inr (9, [.int 0, .int 0, .ref b2, .ref b3, .ref b4, .ref b5, .int 0, .ref b7, .ref b8, .ref b9, .ref b10, .ref b11, .ref b12, .int 0, .ref b14, .ref b15, .ref b16, .ref b17, .int 0, .ref b19, .ref b20, .ref b21, .ref b22, .ref b23, .ref b24, .ref b25, .ref b26, .ref b27, .int 0, .ref b29, .ref b30, .ref b31, .ref b32, .ref b33, .ref b34, .ref b35]))]) [0, 1] rfl
  have hDc := hD.sub (ws' := [(mm, .inr (10, [.ref w, .int 0])), (w, .inr (9, [.int 0, .int 0, .ref b2, .ref b3, .ref b4, .ref b5, .int 0, .ref b7, .ref b8, .ref b9, .ref b10, .ref b11, .ref b12, .int 0, .ref b14, .ref b15, .ref b16, .ref b17, .int 0, .ref b19, .ref b20, .ref b21, .ref b22, .ref b23, .ref b24, .ref b25, .ref b26, .ref b27, .int 0, .ref b29, .ref b30, .ref b31, .ref b32, .ref b33, .ref b34, .ref b35]))]) [0, 1] (by decide) rfl
  have hFc := va_free (wc := [(mm, .inr (10, [.ref w, .int 0])), (w, .inr (9, [.int 0, .int 0, .ref b2, .ref b3, .ref b4, .ref b5, .int 0, .ref b7, .ref b8, .ref b9, .ref b10, .ref b11, .ref b12, .int 0, .ref b14, .ref b15, .ref b16, .ref b17, .int 0, .ref b19, .ref b20, .ref b21, .ref b22, .ref b23, .ref b24, .ref b25, .ref b26, .ref b27, .int 0, .ref b29, .ref b30, .ref b31, .ref b32, .ref b33, .ref b34, .ref b35]))]) hD hS hA [0, 1] rfl
  refine va_calli (va_runV (As := [.int (xs 1), .int (xs 2), .int (xs 3)]) (rest := []) ⟨hx, hb, hml, hown, hts⟩ (m_expiring l D cI cZ cJ s.heap.size H.size mm 0 w 0 b2 b3 b4 b5 b7 b8 b9 b10 b11 b12 b14 b15 b16 b17 b19 b20 b21 b22 b23 b24 b25 b26 b27 b29 b30 b31 b32 b33 b34 b35 (xs 1) (xs 2) (xs 3)) (cwV 3 hts gL_law_X10_expiring rfl rfl rfl (by decide +kernel) ⟨(Nat.le_of_ble_eq_true rfl), (Nat.le_of_ble_eq_true rfl)⟩) ⟨Pre.blind, va_recv hK hP (ci := 10) (q0 := 0) rfl rfl, Pre.mk hPc (hDc.weaken (fun _ _ _ h => hAlo _ h)) hC hS hAlo⟩ rfl rfl hl.1 rfl (lv_room (Nat.le_of_ble_eq_true rfl)) dL_law_1973 ⟨(Nat.le_of_ble_eq_true rfl), (Nat.le_of_ble_eq_true rfl)⟩) hS (fun q _ h => hFc q h) hFc (fun r_3 u t H1 locs1 ht hvm e_4 hB hz1 hk1 hS1 => ?_)
  have hS := hS1
  refine W.widen (k := 124) (n := 42914) (by omega) (by omega) ?_
  obtain ⟨hP1, hD1⟩ := hB
  rw [ht] at hP1
  obtain ⟨hP, hD⟩ := va_join (wr := []) (w1 := [(mm, .inr (10, [.ref w, .int 1]))]) hP hD [0, 1] [] rfl rfl (by decide) (by decide) hk1 hFc hP1 hD1
  have e_4 : 0 = r_3 := Eq.symm e_4
  subst e_4
  clear hFc hPc hDc ht hvm hz1 hk1 hS1 hP1 hD1
  generalize H1 = H at hP hS ⊢
  replace hP : va_P D vwCl [(mm, .inr (10, [.ref w, .int 1]))] H := hP
  replace hD : va_D (LA s) [(mm, .inr (10, [.ref w, .int 1]))] := hD
  refine lv_istore (lv' := [(6, .int 0), (5, .int 1), (0, .ref b), (1, .ref g), (2, .ref mm), (3, .ref ou), (4, .int 0)]) hx hb dL_law_1976 hl (by decide) rfl (fun ls hl => ?_)
  refine lv_aload_n hx hb dL_law_1978 rfl (lv_at hl 4 rfl) ?_
  have hPc := hP.sub (ws' := [(mm, .inr (10, [.ref w, .int 1]))]) [0] rfl
  have hDc := hD.sub (ws' := [(mm, .inr (10, [.ref w, .int 1]))]) [0] (by decide) rfl
  refine vp_callSi (W.runV (As := []) (rest := []) ⟨hx, hb, hml, hown, hts⟩ (c_thrown l D cI cZ cJ s.heap.size H.size mm 1 w) (cwV 0 hts gL_law_X10_thrown rfl rfl rfl (by decide +kernel) ⟨(Nat.le_of_ble_eq_true rfl), (Nat.le_of_ble_eq_true rfl)⟩) ⟨Pre.blind, va_recv hK hP (ci := 10) (q0 := 0) rfl rfl, Pre.mk hPc (hDc.weaken (fun _ _ _ h => hAlo _ h)) hC hS hAlo⟩ rfl rfl hl.1 rfl (lv_room (Nat.le_of_ble_eq_true rfl)) dL_law_1979 ⟨(Nat.le_of_ble_eq_true rfl), (Nat.le_of_ble_eq_true rfl)⟩) (fun r_5 e_6 => ?_)
  clear hPc hDc
  have e_6 : 1 = r_5 := Eq.symm e_6
  subst e_6
  refine lv_iload hx hb dL_law_1982 (lv_at hl 1 rfl) ?_
  refine lv_icmp_eq (tgt := 1989) hx hb dL_law_1984 (by decide) (fun _ => ?_) (fun c9 => absurd (show (1 : Int32) = (1 : Int32) from (by decide)) c9)
  refine lv_iload hx hb dL_law_1989 (lv_at hl 1 rfl) ?_
  refine lv_if_ne (tgt := 2006) hx hb dL_law_1991 (by decide) (fun _ => ?_) (fun c9 => absurd c9 (show ¬ (1 : Int32) = (0 : Int32) from (by decide)))
  refine lv_goto (tgt := 2855) hx hb dL_law_2006 (by decide) ?_
  refine W.widen (k := 1000) (n := 200000) (Nat.le_of_ble_eq_true rfl) (Nat.le_of_ble_eq_true rfl) ?_
  exact T H _ ls hS (lv_sub hl [2, 6] rfl)

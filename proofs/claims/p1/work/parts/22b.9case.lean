set_option maxHeartbeats 4000000 in
set_option maxRecDepth 100000 in
/-- the law at a call of couldTake -/
theorem law_couldTake {p : Program} {l : Launch} {e : Env} {s : State} {m : MethodId} {below : List Frame} {meth : Method} {c : Code} {Q : State → Prop} (hl9 : l.stackTraces = false) (D : va_G) (cI cZ cJ : ClassId) (b : Nat) (xs : Nat → Int32) (C0 : LC s p m c D cI cZ cJ b xs) (g : Nat) (nw : Nat) (la : Nat) (pn : Nat) (aI : Nat) (aS : Nat) (aP : Nat) (aL : Nat) (aO : Nat) (aT : Nat) (aA : Nat) (aQ : Nat) (aI1 : Nat) (aI2 : Nat) (aI3 : Nat) (aI4 : Nat) (mm : Nat) (w : Nat) (b2 : Nat) (b3 : Nat) (b4 : Nat) (b5 : Nat) (b7 : Nat) (b8 : Nat) (b9 : Nat) (b10 : Nat) (b11 : Nat) (b12 : Nat) (b14 : Nat) (b15 : Nat) (b16 : Nat) (b17 : Nat) (b19 : Nat) (b20 : Nat) (b21 : Nat) (b22 : Nat) (b23 : Nat) (b24 : Nat) (b25 : Nat) (b26 : Nat) (b27 : Nat) (b29 : Nat) (b30 : Nat) (b31 : Nat) (b32 : Nat) (b33 : Nat) (b34 : Nat) (b35 : Nat) (ou : Nat) (T : LT p l e s m below meth c b Q) {H : Heap} {locs : List Loc} {ls : Array Slot} (hP : va_P D vwCl [(g, .inr (8, [.ref nw, .ref la, .ref pn])), (nw, .inr (6, [.int 0, .ref aI, .ref aS, .ref aP, .ref aL, .ref aO, .ref aT, .ref aA, .ref aQ])), (aI, .inr (0, [.int 0, .ref aI1, .ref aI2, .ref aI3, .ref aI4])), (mm, .inr (10, [.ref w, .int 0])), (w, .inr (9, [.int 0, .int 0, .ref b2, .ref b3, .ref b4, .ref b5, .int 0, .ref b7, .ref b8, .ref b9, .ref b10, .ref b11, .ref b12, .int 0, .ref b14, .ref b15, .ref b16, .ref b17, .int 0, .ref b19, .ref b20, .ref b21, .ref b22, .ref b23, .ref b24, .ref b25, .ref b26, .ref b27, .int 0, .ref b29, .ref b30, .ref b31, .ref b32, .ref b33, .ref b34, .ref b35]))] H) (hD : va_D (LA s) [(g, .inr (8, [.ref nw, .ref la, .ref pn])), (nw, .inr (6, [.int 0, .ref aI, .ref aS, .ref aP, .ref aL, .ref aO, .ref aT, .ref aA, .ref aQ])), (aI, .inr (0, [.int 0, .ref aI1, .ref aI2, .ref aI3, .ref aI4])), (mm, .inr (10, [.ref w, .int 0])), (w, .inr (9, [.int 0, .int 0, .ref b2, .ref b3, .ref b4, .ref b5, .int 0, .ref b7, .ref b8, .ref b9, .ref b10, .ref b11, .ref b12, .int 0, .ref b14, .ref b15, .ref b16, .ref b17, .int 0, .ref b19, .ref b20, .ref b21, .ref b22, .ref b23, .ref b24, .ref b25, .ref b26, .ref b27, .int 0, .ref b29, .ref b30, .ref b31, .ref b32, .ref b33, .ref b34, .ref b35]))]) (hS : va_S (LA s) s.heap H locs) (hl : lv_has ls 9 [(0, .ref b), (1, .ref g), (2, .ref mm), (3, .ref ou), (4, .int 0)]) : W p l e room_1 s m #[Value.ref b] below meth c H locs 123 42908 Q (F0 m 2009 ls []) := by
  obtain ⟨hx, hb, hml, hown, hts, hX, hbl, hC⟩ := C0
  have hK := hC.K
  have hA : ∀ q : Nat, s.heap.size ≤ q → LA s q := fun _ h => h
  have hAlo : ∀ q, LA s q → s.heap.size ≤ q := fun _ h => h
  have hbA : ¬ LA s b := Nat.not_le.mpr hbl
  refine lv_aload_n hx hb dL_law_2009 rfl (lv_at hl 1 rfl) ?_
  refine lv_aload_n hx hb dL_law_2010 rfl (lv_at hl 0 rfl) ?_
  refine lv_iload hx hb dL_law_2011 (lv_at hl 4 rfl) ?_
  refine lv_iconst (v := 1) hx hb dL_law_2013 (by decide) ?_
  refine lv_iadd hx hb dL_law_2014 ?_
  refine lv_toi (y := 1) (by decide) ?_
  refine va_sld hx hb hX hbl hbA hS (by unfold vp_in; decide) dL_law_2015 ?_
  refine lv_toi (y := xs 1) (congrArg xs (by decide)) ?_
  refine lv_aload_n hx hb dL_law_2016 rfl (lv_at hl 0 rfl) ?_
  refine lv_iload hx hb dL_law_2017 (lv_at hl 4 rfl) ?_
  refine lv_iconst (v := 2) hx hb dL_law_2019 (by decide) ?_
  refine lv_iadd hx hb dL_law_2020 ?_
  refine lv_toi (y := 2) (by decide) ?_
  refine va_sld hx hb hX hbl hbA hS (by unfold vp_in; decide) dL_law_2021 ?_
  refine lv_toi (y := xs 2) (congrArg xs (by decide)) ?_
  refine lv_aload_n hx hb dL_law_2022 rfl (lv_at hl 0 rfl) ?_
  refine lv_iload hx hb dL_law_2023 (lv_at hl 4 rfl) ?_
  refine lv_iconst (v := 3) hx hb dL_law_2025 (by decide) ?_
  refine lv_iadd hx hb dL_law_2026 ?_
  refine lv_toi (y := 3) (by decide) ?_
  refine va_sld hx hb hX hbl hbA hS (by unfold vp_in; decide) dL_law_2027 ?_
  refine lv_toi (y := xs 3) (congrArg xs (by decide)) ?_
  refine lv_aload_n hx hb dL_law_2028 rfl (lv_at hl 3 rfl) ?_
  have hPc := hP.sub (ws' := [(g, .inr (8, [.ref nw, .ref la, .ref pn])), (nw, .inr (6, [.int 0, .ref aI, .ref aS, .ref aP, .ref aL, .ref aO, .ref aT, .ref aA, .ref aQ])), (aI, .inr (0, [.int 0, .ref aI1, .ref aI2, .ref aI3, .ref aI4]))]) [0, 1, 2] rfl
  have hDc := hD.sub (ws' := [(g, .inr (8, [.ref nw, .ref la, .ref pn])), (nw, .inr (6, [.int 0, .ref aI, .ref aS, .ref aP, .ref aL, .ref aO, .ref aT, .ref aA, .ref aQ])), (aI, .inr (0, [.int 0, .ref aI1, .ref aI2, .ref aI3, .ref aI4]))]) [0, 1, 2] (by decide) rfl
  have hFc := va_free (wc := [(g, .inr (8, [.ref nw, .ref la, .ref pn])), (nw, .inr (6, [.int 0, .ref aI, .ref aS, .ref aP, .ref aL, .ref aO, .ref aT, .ref aA, .ref aQ])), (aI, .inr (0, [.int 0, .ref aI1, .ref aI2, .ref aI3, .ref aI4]))]) hD hS hA [0, 1, 2] rfl
  refine va_calli (vx_runSW (As := [.ref g, .int (xs 1), .int (xs 2), .int (xs 3), .ref ou]) (rest := []) ⟨hx, hb, hml, hown, hts⟩ (h_couldTake l hl9 D cI cZ cJ s.heap.size H.size g nw la pn 0 aI aS aP aL aO aT aA aQ aI1 aI2 aI3 aI4 (xs 1) (xs 2) (xs 3) ou) (vx_cwSW 5 hts gL_law_L_couldTake rfl rfl rfl (by decide +kernel) ⟨(Nat.le_of_ble_eq_true rfl), (Nat.le_of_ble_eq_true rfl)⟩) ⟨Pre.blind, Pre.mk hPc (hDc.weaken (fun _ _ _ h => hAlo _ h)) hC hS hAlo⟩ rfl rfl hl.1 rfl (lv_room (Nat.le_of_ble_eq_true rfl)) dL_law_2029 ⟨(Nat.le_of_ble_eq_true rfl), (Nat.le_of_ble_eq_true rfl)⟩) hS (fun q _ h => hFc q h) hFc (fun r_1 u t H1 locs1 ht hvm e_2 hB hz1 hk1 hS1 => ?_)
  have hS := hS1
  refine W.widen (k := 124) (n := 42914) (by omega) (by omega) ?_
  obtain ⟨hP, hD⟩ := va_rest (wr := [(mm, .inr (10, [.ref w, .int 0])), (w, .inr (9, [.int 0, .int 0, .ref b2, .ref b3, .ref b4, .ref b5, .int 0, .ref b7, .ref b8, .ref b9, .ref b10, .ref b11, .ref b12, .int 0, .ref b14, .ref b15, .ref b16, .ref b17, .int 0, .ref b19, .ref b20, .ref b21, .ref b22, .ref b23, .ref b24, .ref b25, .ref b26, .ref b27, .int 0, .ref b29, .ref b30, .ref b31, .ref b32, .ref b33, .ref b34, .ref b35]))]) hP hD [0, 1, 2] [3, 4] rfl rfl (by decide) (by decide) hk1 hFc
  have e_2 : 1 = r_1 := Eq.symm e_2
  subst e_2
  clear hFc hPc hDc ht hvm hz1 hk1 hS1 hB
  generalize H1 = H at hP hS ⊢
  replace hP : va_P D vwCl [(mm, .inr (10, [.ref w, .int 0])), (w, .inr (9, [.int 0, .int 0, .ref b2, .ref b3, .ref b4, .ref b5, .int 0, .ref b7, .ref b8, .ref b9, .ref b10, .ref b11, .ref b12, .int 0, .ref b14, .ref b15, .ref b16, .ref b17, .int 0, .ref b19, .ref b20, .ref b21, .ref b22, .ref b23, .ref b24, .ref b25, .ref b26, .ref b27, .int 0, .ref b29, .ref b30, .ref b31, .ref b32, .ref b33, .ref b34, .ref b35]))] H := hP
  replace hD : va_D (LA s) [(mm, .inr (10, [.ref w, .int 0])), (w, .inr (9, [.int 0, .int 0, .ref b2, .ref b3, .ref b4, .ref b5, .int 0, .ref b7, .ref b8, .ref b9, .ref b10, .ref b11, .ref b12, .int 0, .ref b14, .ref b15, .ref b16, .ref b17, .int 0, .ref b19, .ref b20, .ref b21, .ref b22, .ref b23, .ref b24, .ref b25, .ref b26, .ref b27, .int 0, .ref b29, .ref b30, .ref b31, .ref b32, .ref b33, .ref b34, .ref b35]))] := hD
  refine lv_istore (lv' := [(5, .int 1), (0, .ref b), (1, .ref g), (2, .ref mm), (3, .ref ou), (4, .int 0)]) hx hb dL_law_2032 hl (by decide) rfl (fun ls hl => ?_)
  refine lv_aload_n hx hb dL_law_2034 rfl (lv_at hl 3 rfl) ?_
  refine lv_aload_n hx hb dL_law_2035 rfl (lv_at hl 1 rfl) ?_
  refine lv_iload hx hb dL_law_2036 (lv_at hl 5 rfl) ?_
  refine lv_iconst (v := 1) hx hb dL_law_2038 (by decide) ?_
  refine lv_iadd hx hb dL_law_2039 ?_
  refine lv_toi (y := 1) (by decide) ?_
  refine va_sld hx hb hX hbl hbA hS (by unfold vp_in; decide) dL_law_2040 ?_
  refine lv_toi (y := xs 1) (congrArg xs (by decide)) ?_
  refine lv_aload_n hx hb dL_law_2041 rfl (lv_at hl 1 rfl) ?_
  refine lv_iload hx hb dL_law_2042 (lv_at hl 5 rfl) ?_
  refine lv_iconst (v := 2) hx hb dL_law_2044 (by decide) ?_
  refine lv_iadd hx hb dL_law_2045 ?_
  refine lv_toi (y := 2) (by decide) ?_
  refine va_sld hx hb hX hbl hbA hS (by unfold vp_in; decide) dL_law_2046 ?_
  refine lv_toi (y := xs 2) (congrArg xs (by decide)) ?_
  refine lv_aload_n hx hb dL_law_2047 rfl (lv_at hl 1 rfl) ?_
  refine lv_iload hx hb dL_law_2048 (lv_at hl 5 rfl) ?_
  refine lv_iconst (v := 3) hx hb dL_law_2050 (by decide) ?_
  refine lv_iadd hx hb dL_law_2051 ?_
  refine lv_toi (y := 3) (by decide) ?_
  refine va_sld hx hb hX hbl hbA hS (by unfold vp_in; decide) dL_law_2052 ?_
  refine lv_toi (y := xs 3) (congrArg xs (by decide)) ?_
  have hPc := hP.sub (ws' := [(mm, .inr (10, [.ref w, .int 0])), (w, .inr (9, [.int 0, .int 0, .ref b2, .ref b3, .ref b4, .ref b5, .int 0, .ref b7, .ref b8, .ref b9, .ref b10, .ref b11, .ref b12, .int 0, .ref b14, .ref b15, .ref b16, .ref b17, .int 0, .ref b19, .ref b20, .ref b21, .ref b22, .ref b23, .ref b24, .ref b25, .ref b26, .ref b27, .int 0, .ref b29, .ref b30, .ref b31, .ref b32, .ref b33, .ref b34, .ref b35]))]) [0, 1] rfl
  have hDc := hD.sub (ws' := [(mm, .inr (10, [.ref w, .int 0])), (w, .inr (9, [.int 0, .int 0, .ref b2, .ref b3, .ref b4, .ref b5, .int 0, .ref b7, .ref b8, .ref b9, .ref b10, .ref b11, .ref b12, .int 0, .ref b14, .ref b15, .ref b16, .ref b17, .int 0, .ref b19, .ref b20, .ref b21, .ref b22, .ref b23, .ref b24, .ref b25, .ref b26, .ref b27, .int 0, .ref b29, .ref b30, .ref b31, .ref b32, .ref b33, .ref b34, .ref b35]))]) [0, 1] (by decide) rfl
  have hFc := va_free (wc := [(mm, .inr (10, [.ref w, .int 0])), (w, .inr (9, [.int 0, .int 0, .ref b2, .ref b3, .ref b4, .ref b5, .int 0, .ref b7, .ref b8, .ref b9, .ref b10, .ref b11, .ref b12, .int 0, .ref b14, .ref b15, .ref b16, .ref b17, .int 0, .ref b19, .ref b20, .ref b21, .ref b22, .ref b23, .ref b24, .ref b25, .ref b26, .ref b27, .int 0, .ref b29, .ref b30, .ref b31, .ref b32, .ref b33, .ref b34, .ref b35]))]) hD hS hA [0, 1] rfl
  refine va_calli (va_runV (As := [.int (xs 1), .int (xs 2), .int (xs 3)]) (rest := []) ⟨hx, hb, hml, hown, hts⟩ (m_couldTake l D cI cZ cJ s.heap.size H.size mm 0 w 0 b2 b3 b4 b5 b7 b8 b9 b10 b11 b12 b14 b15 b16 b17 b19 b20 b21 b22 b23 b24 b25 b26 b27 b29 b30 b31 b32 b33 b34 b35 (xs 1) (xs 2) (xs 3)) (cwV 3 hts gL_law_X10_couldTake rfl rfl rfl (by decide +kernel) ⟨(Nat.le_of_ble_eq_true rfl), (Nat.le_of_ble_eq_true rfl)⟩) ⟨Pre.blind, va_recv hK hP (ci := 10) (q0 := 0) rfl rfl, Pre.mk hPc (hDc.weaken (fun _ _ _ h => hAlo _ h)) hC hS hAlo⟩ rfl rfl hl.1 rfl (lv_room (Nat.le_of_ble_eq_true rfl)) dL_law_2053 ⟨(Nat.le_of_ble_eq_true rfl), (Nat.le_of_ble_eq_true rfl)⟩) hS (fun q _ h => hFc q h) hFc (fun r_3 u t H1 locs1 ht hvm e_4 hB hz1 hk1 hS1 => ?_)
  have hS := hS1
  refine W.widen (k := 124) (n := 42914) (by omega) (by omega) ?_
  obtain ⟨hP1, hD1⟩ := hB
  rw [ht] at hP1
  obtain ⟨hP, hD⟩ := va_join (wr := []) (w1 := [(mm, .inr (10, [.ref w, .int 1]))]) hP hD [0, 1] [] rfl rfl (by decide) (by decide) hk1 hFc hP1 hD1
  have e_4 : 0 = r_3 := Eq.symm e_4
  subst e_4
  clear hFc hPc hDc ht hvm hz1 hk1 hS1 hP1 hD1
  generalize H1 = H at hP hS ⊢
  replace hP : va_P D vwCl [(mm, .inr (10, [.ref w, .int 1]))] H := hP
  replace hD : va_D (LA s) [(mm, .inr (10, [.ref w, .int 1]))] := hD
  refine lv_istore (lv' := [(6, .int 0), (5, .int 1), (0, .ref b), (1, .ref g), (2, .ref mm), (3, .ref ou), (4, .int 0)]) hx hb dL_law_2056 hl (by decide) rfl (fun ls hl => ?_)
  refine lv_aload_n hx hb dL_law_2058 rfl (lv_at hl 4 rfl) ?_
  have hPc := hP.sub (ws' := [(mm, .inr (10, [.ref w, .int 1]))]) [0] rfl
  have hDc := hD.sub (ws' := [(mm, .inr (10, [.ref w, .int 1]))]) [0] (by decide) rfl
  refine vp_callSi (W.runV (As := []) (rest := []) ⟨hx, hb, hml, hown, hts⟩ (c_thrown l D cI cZ cJ s.heap.size H.size mm 1 w) (cwV 0 hts gL_law_X10_thrown rfl rfl rfl (by decide +kernel) ⟨(Nat.le_of_ble_eq_true rfl), (Nat.le_of_ble_eq_true rfl)⟩) ⟨Pre.blind, va_recv hK hP (ci := 10) (q0 := 0) rfl rfl, Pre.mk hPc (hDc.weaken (fun _ _ _ h => hAlo _ h)) hC hS hAlo⟩ rfl rfl hl.1 rfl (lv_room (Nat.le_of_ble_eq_true rfl)) dL_law_2059 ⟨(Nat.le_of_ble_eq_true rfl), (Nat.le_of_ble_eq_true rfl)⟩) (fun r_5 e_6 => ?_)
  clear hPc hDc
  have e_6 : 1 = r_5 := Eq.symm e_6
  subst e_6
  refine lv_iload hx hb dL_law_2062 (lv_at hl 1 rfl) ?_
  refine lv_icmp_eq (tgt := 2069) hx hb dL_law_2064 (by decide) (fun _ => ?_) (fun c9 => absurd (show (1 : Int32) = (1 : Int32) from (by decide)) c9)
  refine lv_iload hx hb dL_law_2069 (lv_at hl 1 rfl) ?_
  refine lv_if_ne (tgt := 2093) hx hb dL_law_2071 (by decide) (fun _ => ?_) (fun c9 => absurd c9 (show ¬ (1 : Int32) = (0 : Int32) from (by decide)))
  refine lv_goto (tgt := 2855) hx hb dL_law_2093 (by decide) ?_
  refine W.widen (k := 1000) (n := 200000) (Nat.le_of_ble_eq_true rfl) (Nat.le_of_ble_eq_true rfl) ?_
  exact T H _ ls hS (lv_sub hl [2, 6] rfl)

set_option maxHeartbeats 4000000 in
set_option maxRecDepth 100000 in
/-- the law at a call of account -/
theorem law_account {p : Program} {l : Launch} {e : Env} {s : State} {m : MethodId} {below : List Frame} {meth : Method} {c : Code} {Q : State → Prop} (hl9 : l.stackTraces = false) (D : va_G) (cI cZ cJ : ClassId) (b : Nat) (xs : Nat → Int32) (C0 : LC s p m c D cI cZ cJ b xs) (g : Nat) (nw : Nat) (la : Nat) (pn : Nat) (aI : Nat) (aS : Nat) (aP : Nat) (aL : Nat) (aO : Nat) (aT : Nat) (aA : Nat) (aQ : Nat) (ou : Nat) (mm : Nat) (w : Nat) (b2 : Nat) (b3 : Nat) (b4 : Nat) (b5 : Nat) (b7 : Nat) (b8 : Nat) (b9 : Nat) (b10 : Nat) (b11 : Nat) (b12 : Nat) (b14 : Nat) (b15 : Nat) (b16 : Nat) (b17 : Nat) (b19 : Nat) (b20 : Nat) (b21 : Nat) (b22 : Nat) (b23 : Nat) (b24 : Nat) (b25 : Nat) (b26 : Nat) (b27 : Nat) (b29 : Nat) (b30 : Nat) (b31 : Nat) (b32 : Nat) (b33 : Nat) (b34 : Nat) (b35 : Nat) (T : LT p l e s m below meth c b Q) {H : Heap} {locs : List Loc} {ls : Array Slot} (hP : va_P D vwCl [(g, .inr (8, [.ref nw, .ref la, .ref pn])), (nw, .inr (6, [.int 0, .ref aI, .ref aS, .ref aP, .ref aL, .ref aO, .ref aT, .ref aA, .ref aQ])), (aA, .inl (cI, 5, .inl (fun _ => 0))), (ou, .inl (cJ, 1, .inr (.inl (fun _ => 0)))), (mm, .inr (10, [.ref w, .int 0])), (w, .inr (9, [.int 0, .int 0, .ref b2, .ref b3, .ref b4, .ref b5, .int 0, .ref b7, .ref b8, .ref b9, .ref b10, .ref b11, .ref b12, .int 0, .ref b14, .ref b15, .ref b16, .ref b17, .int 0, .ref b19, .ref b20, .ref b21, .ref b22, .ref b23, .ref b24, .ref b25, .ref b26, .ref b27, .int 0, .ref b29, .ref b30, .ref b31, .ref b32, .ref b33, .ref b34, .ref b35])), (b35, .inl (cI, 5, .inl (fun _ => 0)))] H) (hD : va_D (LA s) [(g, .inr (8, [.ref nw, .ref la, .ref pn])), (nw, .inr (6, [.int 0, .ref aI, .ref aS, .ref aP, .ref aL, .ref aO, .ref aT, .ref aA, .ref aQ])), (aA, .inl (cI, 5, .inl (fun _ => 0))), (ou, .inl (cJ, 1, .inr (.inl (fun _ => 0)))), (mm, .inr (10, [.ref w, .int 0])), (w, .inr (9, [.int 0, .int 0, .ref b2, .ref b3, .ref b4, .ref b5, .int 0, .ref b7, .ref b8, .ref b9, .ref b10, .ref b11, .ref b12, .int 0, .ref b14, .ref b15, .ref b16, .ref b17, .int 0, .ref b19, .ref b20, .ref b21, .ref b22, .ref b23, .ref b24, .ref b25, .ref b26, .ref b27, .int 0, .ref b29, .ref b30, .ref b31, .ref b32, .ref b33, .ref b34, .ref b35])), (b35, .inl (cI, 5, .inl (fun _ => 0)))]) (hS : va_S (LA s) s.heap H locs) (hl : lv_has ls 9 [(0, .ref b), (1, .ref g), (2, .ref mm), (3, .ref ou), (4, .int 0)]) : W p l e room_1 s m #[Value.ref b] below meth c H locs 123 42908 Q (F0 m 2096 ls []) := by
  obtain ⟨hx, hb, hml, hown, hts, hX, hbl, hC⟩ := C0
  have hK := hC.K
  have hA : ∀ q : Nat, s.heap.size ≤ q → LA s q := fun _ h => h
  have hAlo : ∀ q, LA s q → s.heap.size ≤ q := fun _ h => h
  have hbA : ¬ LA s b := Nat.not_le.mpr hbl
  refine lv_aload_n hx hb dL_law_2096 rfl (lv_at hl 1 rfl) ?_
  refine lv_aload_n hx hb dL_law_2097 rfl (lv_at hl 0 rfl) ?_
  refine lv_iload hx hb dL_law_2098 (lv_at hl 4 rfl) ?_
  refine lv_iconst (v := 1) hx hb dL_law_2100 (by decide) ?_
  refine lv_iadd hx hb dL_law_2101 ?_
  refine lv_toi (y := 1) (by decide) ?_
  refine va_sld hx hb hX hbl hbA hS (by unfold vp_in; decide) dL_law_2102 ?_
  refine lv_toi (y := xs 1) (congrArg xs (by decide)) ?_
  refine lv_aload_n hx hb dL_law_2103 rfl (lv_at hl 3 rfl) ?_
  have hPc := hP.sub (ws' := [(g, .inr (8, [.ref nw, .ref la, .ref pn])), (nw, .inr (6, [.int 0, .ref aI, .ref aS, .ref aP, .ref aL, .ref aO, .ref aT, .ref aA, .ref aQ])), (aA, .inl (cI, 5, .inl (fun _ => 0))), (ou, .inl (cJ, 1, .inr (.inl (fun _ => 0))))]) [0, 1, 2, 3] rfl
  have hDc := hD.sub (ws' := [(g, .inr (8, [.ref nw, .ref la, .ref pn])), (nw, .inr (6, [.int 0, .ref aI, .ref aS, .ref aP, .ref aL, .ref aO, .ref aT, .ref aA, .ref aQ])), (aA, .inl (cI, 5, .inl (fun _ => 0))), (ou, .inl (cJ, 1, .inr (.inl (fun _ => 0))))]) [0, 1, 2, 3] (by decide) rfl
  have hFc := va_free (wc := [(g, .inr (8, [.ref nw, .ref la, .ref pn])), (nw, .inr (6, [.int 0, .ref aI, .ref aS, .ref aP, .ref aL, .ref aO, .ref aT, .ref aA, .ref aQ])), (aA, .inl (cI, 5, .inl (fun _ => 0))), (ou, .inl (cJ, 1, .inr (.inl (fun _ => 0))))]) hD hS hA [0, 1, 2, 3] rfl
  refine va_calli (vx_runSW (As := [.ref g, .int (xs 1), .ref ou]) (rest := []) ⟨hx, hb, hml, hown, hts⟩ (h_account l hl9 D cI cZ cJ s.heap.size H.size g nw la pn 0 aI aS aP aL aO aT aA aQ (xs 1) ou) (vx_cwSW 3 hts gL_law_L_account rfl rfl rfl (by decide +kernel) ⟨(Nat.le_of_ble_eq_true rfl), (Nat.le_of_ble_eq_true rfl)⟩) ⟨Pre.blind, Pre.mk hPc (hDc.weaken (fun _ _ _ h => hAlo _ h)) hC hS hAlo⟩ rfl rfl hl.1 rfl (lv_room (Nat.le_of_ble_eq_true rfl)) dL_law_2104 ⟨(Nat.le_of_ble_eq_true rfl), (Nat.le_of_ble_eq_true rfl)⟩) hS (fun q _ h => hFc q h) hFc (fun r_1 u t H1 locs1 ht hvm e_2 hB hz1 hk1 hS1 => ?_)
  have hS := hS1
  refine W.widen (k := 124) (n := 42914) (by omega) (by omega) ?_
  obtain ⟨fo_3, hP1, hD1, b_4⟩ := hB
  rw [ht] at hP1
  obtain ⟨hP, hD⟩ := va_join (wr := [(mm, .inr (10, [.ref w, .int 0])), (w, .inr (9, [.int 0, .int 0, .ref b2, .ref b3, .ref b4, .ref b5, .int 0, .ref b7, .ref b8, .ref b9, .ref b10, .ref b11, .ref b12, .int 0, .ref b14, .ref b15, .ref b16, .ref b17, .int 0, .ref b19, .ref b20, .ref b21, .ref b22, .ref b23, .ref b24, .ref b25, .ref b26, .ref b27, .int 0, .ref b29, .ref b30, .ref b31, .ref b32, .ref b33, .ref b34, .ref b35])), (b35, .inl (cI, 5, .inl (fun _ => 0)))]) (w1 := [(ou, .inl (cJ, 1, .inr (.inl (fo_3))))]) hP hD [0, 1, 2, 3] [4, 5, 6] rfl rfl (by decide) (by decide) hk1 hFc hP1 hD1
  have e_2 : (r_1 = 0 ∧ (0 ≤ (xs 1) ∧ (xs 1) ≤ 4)) ∨ (r_1 = 1 ∧ ¬ (0 ≤ (xs 1) ∧ (xs 1) ≤ 4)) := e_2
  clear hFc hPc hDc ht hvm hz1 hk1 hS1 hP1 hD1
  generalize H1 = H at hP hS ⊢
  replace hP : va_P D vwCl [(mm, .inr (10, [.ref w, .int 0])), (w, .inr (9, [.int 0, .int 0, .ref b2, .ref b3, .ref b4, .ref b5, .int 0, .ref b7, .ref b8, .ref b9, .ref b10, .ref b11, .ref b12, .int 0, .ref b14, .ref b15, .ref b16, .ref b17, .int 0, .ref b19, .ref b20, .ref b21, .ref b22, .ref b23, .ref b24, .ref b25, .ref b26, .ref b27, .int 0, .ref b29, .ref b30, .ref b31, .ref b32, .ref b33, .ref b34, .ref b35])), (b35, .inl (cI, 5, .inl (fun _ => 0))), (ou, .inl (cJ, 1, .inr (.inl (fo_3))))] H := hP
  replace hD : va_D (LA s) [(mm, .inr (10, [.ref w, .int 0])), (w, .inr (9, [.int 0, .int 0, .ref b2, .ref b3, .ref b4, .ref b5, .int 0, .ref b7, .ref b8, .ref b9, .ref b10, .ref b11, .ref b12, .int 0, .ref b14, .ref b15, .ref b16, .ref b17, .int 0, .ref b19, .ref b20, .ref b21, .ref b22, .ref b23, .ref b24, .ref b25, .ref b26, .ref b27, .int 0, .ref b29, .ref b30, .ref b31, .ref b32, .ref b33, .ref b34, .ref b35])), (b35, .inl (cI, 5, .inl (fun _ => 0))), (ou, .inl (cJ, 1, .inr (.inl (fo_3))))] := hD
  rcases e_2 with ⟨hr9, h_5⟩ | ⟨hr9, h_6⟩
  · have hr9 := Eq.symm hr9
    subst hr9
    refine lv_istore (lv' := [(5, .int 0), (0, .ref b), (1, .ref g), (2, .ref mm), (3, .ref ou), (4, .int 0)]) hx hb dL_law_2107 hl (by decide) rfl (fun ls hl => ?_)
    refine lv_aload_n hx hb dL_law_2109 rfl (lv_at hl 3 rfl) ?_
    refine lv_aload_n hx hb dL_law_2110 rfl (lv_at hl 1 rfl) ?_
    refine lv_iload hx hb dL_law_2111 (lv_at hl 5 rfl) ?_
    refine lv_iconst (v := 1) hx hb dL_law_2113 (by decide) ?_
    refine lv_iadd hx hb dL_law_2114 ?_
    refine lv_toi (y := 1) (by decide) ?_
    refine va_sld hx hb hX hbl hbA hS (by unfold vp_in; decide) dL_law_2115 ?_
    refine lv_toi (y := xs 1) (congrArg xs (by decide)) ?_
    have hPc := hP.sub (ws' := [(mm, .inr (10, [.ref w, .int 0])), (w, .inr (9, [.int 0, .int 0, .ref b2, .ref b3, .ref b4, .ref b5, .int 0, .ref b7, .ref b8, .ref b9, .ref b10, .ref b11, .ref b12, .int 0, .ref b14, .ref b15, .ref b16, .ref b17, .int 0, .ref b19, .ref b20, .ref b21, .ref b22, .ref b23, .ref b24, .ref b25, .ref b26, .ref b27, .int 0, .ref b29, .ref b30, .ref b31, .ref b32, .ref b33, .ref b34, .ref b35])), (b35, .inl (cI, 5, .inl (fun _ => 0)))]) [0, 1, 2] rfl
    have hDc := hD.sub (ws' := [(mm, .inr (10, [.ref w, .int 0])), (w, .inr (9, [.int 0, .int 0, .ref b2, .ref b3, .ref b4, .ref b5, .int 0, .ref b7, .ref b8, .ref b9, .ref b10, .ref b11, .ref b12, .int 0, .ref b14, .ref b15, .ref b16, .ref b17, .int 0, .ref b19, .ref b20, .ref b21, .ref b22, .ref b23, .ref b24, .ref b25, .ref b26, .ref b27, .int 0, .ref b29, .ref b30, .ref b31, .ref b32, .ref b33, .ref b34, .ref b35])), (b35, .inl (cI, 5, .inl (fun _ => 0)))]) [0, 1, 2] (by decide) rfl
    have hFc := va_free (wc := [(mm, .inr (10, [.ref w, .int 0])), (w, .inr (9, [.int 0, .int 0, .ref b2, .ref b3, .ref b4, .ref b5, .int 0, .ref b7, .ref b8, .ref b9, .ref b10, .ref b11, .ref b12, .int 0, .ref b14, .ref b15, .ref b16, .ref b17, .int 0, .ref b19, .ref b20, .ref b21, .ref b22, .ref b23, .ref b24, .ref b25, .ref b26, .ref b27, .int 0, .ref b29, .ref b30, .ref b31, .ref b32, .ref b33, .ref b34, .ref b35])), (b35, .inl (cI, 5, .inl (fun _ => 0)))]) hD hS hA [0, 1, 2] rfl
    refine va_calli (va_runV (As := [.int (xs 1)]) (rest := []) ⟨hx, hb, hml, hown, hts⟩ (m_account l D cI cZ cJ s.heap.size H.size mm 0 w 0 b2 b3 b4 b5 b7 b8 b9 b10 b11 b12 b14 b15 b16 b17 b19 b20 b21 b22 b23 b24 b25 b26 b27 b29 b30 b31 b32 b33 b34 b35 (xs 1)) (cwV 1 hts gL_law_X10_account rfl rfl rfl (by decide +kernel) ⟨(Nat.le_of_ble_eq_true rfl), (Nat.le_of_ble_eq_true rfl)⟩) ⟨Pre.blind, va_recv hK hP (ci := 10) (q0 := 0) rfl rfl, Pre.mk hPc (hDc.weaken (fun _ _ _ h => hAlo _ h)) hC hS hAlo⟩ rfl rfl hl.1 rfl (lv_room (Nat.le_of_ble_eq_true rfl)) dL_law_2116 ⟨(Nat.le_of_ble_eq_true rfl), (Nat.le_of_ble_eq_true rfl)⟩) hS (fun q _ h => hFc q h) hFc (fun r_7 u t H1 locs1 ht hvm e_8 hB hz1 hk1 hS1 => ?_)
    have hS := hS1
    refine W.widen (k := 124) (n := 42914) (by omega) (by omega) ?_
    obtain ⟨tz_9, hP1, hD1, b_10⟩ := hB
    rw [ht] at hP1
    obtain ⟨hP, hD⟩ := va_join (wr := [(ou, .inl (cJ, 1, .inr (.inl (fo_3))))]) (w1 := [(mm, .inr (10, [.ref w, .int tz_9]))]) hP hD [0, 1, 2] [3] rfl rfl (by decide) (by decide) hk1 hFc hP1 hD1
    have e_8 : 0 = r_7 := Eq.symm e_8
    subst e_8
    clear hFc hPc hDc ht hvm hz1 hk1 hS1 hP1 hD1
    generalize H1 = H at hP hS ⊢
    replace hP : va_P D vwCl [(ou, .inl (cJ, 1, .inr (.inl (fo_3)))), (mm, .inr (10, [.ref w, .int tz_9]))] H := hP
    replace hD : va_D (LA s) [(ou, .inl (cJ, 1, .inr (.inl (fo_3)))), (mm, .inr (10, [.ref w, .int tz_9]))] := hD
    have ht9 := Eq.symm (b_10.1 h_5)
    subst ht9
    refine lv_istore (lv' := [(6, .int 0), (5, .int 0), (0, .ref b), (1, .ref g), (2, .ref mm), (3, .ref ou), (4, .int 0)]) hx hb dL_law_2119 hl (by decide) rfl (fun ls hl => ?_)
    refine lv_aload_n hx hb dL_law_2121 rfl (lv_at hl 4 rfl) ?_
    have hPc := hP.sub (ws' := [(mm, .inr (10, [.ref w, .int 0]))]) [1] rfl
    have hDc := hD.sub (ws' := [(mm, .inr (10, [.ref w, .int 0]))]) [1] (by decide) rfl
    refine vp_callSi (W.runV (As := []) (rest := []) ⟨hx, hb, hml, hown, hts⟩ (c_thrown l D cI cZ cJ s.heap.size H.size mm 0 w) (cwV 0 hts gL_law_X10_thrown rfl rfl rfl (by decide +kernel) ⟨(Nat.le_of_ble_eq_true rfl), (Nat.le_of_ble_eq_true rfl)⟩) ⟨Pre.blind, va_recv hK hP (ci := 10) (q0 := 1) rfl rfl, Pre.mk hPc (hDc.weaken (fun _ _ _ h => hAlo _ h)) hC hS hAlo⟩ rfl rfl hl.1 rfl (lv_room (Nat.le_of_ble_eq_true rfl)) dL_law_2122 ⟨(Nat.le_of_ble_eq_true rfl), (Nat.le_of_ble_eq_true rfl)⟩) (fun r_11 e_12 => ?_)
    clear hPc hDc
    have e_12 : 0 = r_11 := Eq.symm e_12
    subst e_12
    refine lv_iload hx hb dL_law_2125 (lv_at hl 1 rfl) ?_
    refine lv_icmp_eq (tgt := 2132) hx hb dL_law_2127 (by decide) (fun _ => ?_) (fun c9 => absurd (show (0 : Int32) = (0 : Int32) from (by decide)) c9)
    refine lv_iload hx hb dL_law_2132 (lv_at hl 1 rfl) ?_
    refine lv_if_ne (tgt := 2149) hx hb dL_law_2134 (by decide) (fun c9 => absurd (show (0 : Int32) = (0 : Int32) from (by decide)) c9) (fun _ => ?_)
    refine lv_aload_n hx hb dL_law_2137 rfl (lv_at hl 5 rfl) ?_
    refine lv_iconst (v := 0) hx hb dL_law_2138 (by decide) ?_
    refine va_lald hx hb hK hP 0 2 rfl rfl (by unfold vp_in; decide) dL_law_2139 ?_
    refine lv_tol (y := 0) (b_4) ?_
    refine lv_iload hx hb dL_law_2140 (lv_at hl 0 rfl) ?_
    refine lv_i2l (v := 0) hx hb dL_law_2142 (by decide) ?_
    refine W.lcmp hx hb dL_law_2143 ?_
    refine lv_toi (y := 0) (lg_cmp_self _) ?_
    refine lv_if_eq (tgt := 2149) hx hb dL_law_2144 (by decide) (fun _ => ?_) (fun c9 => absurd (show (0 : Int32) = (0 : Int32) from (by decide)) c9)
    refine lv_goto (tgt := 2855) hx hb dL_law_2149 (by decide) ?_
    refine W.widen (k := 1000) (n := 200000) (Nat.le_of_ble_eq_true rfl) (Nat.le_of_ble_eq_true rfl) ?_
    exact T H _ ls hS (lv_sub hl [2, 6] rfl)
  · have hr9 := Eq.symm hr9
    subst hr9
    refine lv_istore (lv' := [(5, .int 1), (0, .ref b), (1, .ref g), (2, .ref mm), (3, .ref ou), (4, .int 0)]) hx hb dL_law_2107 hl (by decide) rfl (fun ls hl => ?_)
    refine lv_aload_n hx hb dL_law_2109 rfl (lv_at hl 3 rfl) ?_
    refine lv_aload_n hx hb dL_law_2110 rfl (lv_at hl 1 rfl) ?_
    refine lv_iload hx hb dL_law_2111 (lv_at hl 5 rfl) ?_
    refine lv_iconst (v := 1) hx hb dL_law_2113 (by decide) ?_
    refine lv_iadd hx hb dL_law_2114 ?_
    refine lv_toi (y := 1) (by decide) ?_
    refine va_sld hx hb hX hbl hbA hS (by unfold vp_in; decide) dL_law_2115 ?_
    refine lv_toi (y := xs 1) (congrArg xs (by decide)) ?_
    have hPc := hP.sub (ws' := [(mm, .inr (10, [.ref w, .int 0])), (w, .inr (9, [.int 0, .int 0, .ref b2, .ref b3, .ref b4, .ref b5, .int 0, .ref b7, .ref b8, .ref b9, .ref b10, .ref b11, .ref b12, .int 0, .ref b14, .ref b15, .ref b16, .ref b17, .int 0, .ref b19, .ref b20, .ref b21, .ref b22, .ref b23, .ref b24, .ref b25, .ref b26, .ref b27, .int 0, .ref b29, .ref b30, .ref b31, .ref b32, .ref b33, .ref b34, .ref b35])), (b35, .inl (cI, 5, .inl (fun _ => 0)))]) [0, 1, 2] rfl
    have hDc := hD.sub (ws' := [(mm, .inr (10, [.ref w, .int 0])), (w, .inr (9, [.int 0, .int 0, .ref b2, .ref b3, .ref b4, .ref b5, .int 0, .ref b7, .ref b8, .ref b9, .ref b10, .ref b11, .ref b12, .int 0, .ref b14, .ref b15, .ref b16, .ref b17, .int 0, .ref b19, .ref b20, .ref b21, .ref b22, .ref b23, .ref b24, .ref b25, .ref b26, .ref b27, .int 0, .ref b29, .ref b30, .ref b31, .ref b32, .ref b33, .ref b34, .ref b35])), (b35, .inl (cI, 5, .inl (fun _ => 0)))]) [0, 1, 2] (by decide) rfl
    have hFc := va_free (wc := [(mm, .inr (10, [.ref w, .int 0])), (w, .inr (9, [.int 0, .int 0, .ref b2, .ref b3, .ref b4, .ref b5, .int 0, .ref b7, .ref b8, .ref b9, .ref b10, .ref b11, .ref b12, .int 0, .ref b14, .ref b15, .ref b16, .ref b17, .int 0, .ref b19, .ref b20, .ref b21, .ref b22, .ref b23, .ref b24, .ref b25, .ref b26, .ref b27, .int 0, .ref b29, .ref b30, .ref b31, .ref b32, .ref b33, .ref b34, .ref b35])), (b35, .inl (cI, 5, .inl (fun _ => 0)))]) hD hS hA [0, 1, 2] rfl
    refine va_calli (va_runV (As := [.int (xs 1)]) (rest := []) ⟨hx, hb, hml, hown, hts⟩ (m_account l D cI cZ cJ s.heap.size H.size mm 0 w 0 b2 b3 b4 b5 b7 b8 b9 b10 b11 b12 b14 b15 b16 b17 b19 b20 b21 b22 b23 b24 b25 b26 b27 b29 b30 b31 b32 b33 b34 b35 (xs 1)) (cwV 1 hts gL_law_X10_account rfl rfl rfl (by decide +kernel) ⟨(Nat.le_of_ble_eq_true rfl), (Nat.le_of_ble_eq_true rfl)⟩) ⟨Pre.blind, va_recv hK hP (ci := 10) (q0 := 0) rfl rfl, Pre.mk hPc (hDc.weaken (fun _ _ _ h => hAlo _ h)) hC hS hAlo⟩ rfl rfl hl.1 rfl (lv_room (Nat.le_of_ble_eq_true rfl)) dL_law_2116 ⟨(Nat.le_of_ble_eq_true rfl), (Nat.le_of_ble_eq_true rfl)⟩) hS (fun q _ h => hFc q h) hFc (fun r_13 u t H1 locs1 ht hvm e_14 hB hz1 hk1 hS1 => ?_)
    have hS := hS1
    refine W.widen (k := 124) (n := 42914) (by omega) (by omega) ?_
    obtain ⟨tz_15, hP1, hD1, b_16⟩ := hB
    rw [ht] at hP1
    obtain ⟨hP, hD⟩ := va_join (wr := [(ou, .inl (cJ, 1, .inr (.inl (fo_3))))]) (w1 := [(mm, .inr (10, [.ref w, .int tz_15]))]) hP hD [0, 1, 2] [3] rfl rfl (by decide) (by decide) hk1 hFc hP1 hD1
    have e_14 : 0 = r_13 := Eq.symm e_14
    subst e_14
    clear hFc hPc hDc ht hvm hz1 hk1 hS1 hP1 hD1
    generalize H1 = H at hP hS ⊢
    replace hP : va_P D vwCl [(ou, .inl (cJ, 1, .inr (.inl (fo_3)))), (mm, .inr (10, [.ref w, .int tz_15]))] H := hP
    replace hD : va_D (LA s) [(ou, .inl (cJ, 1, .inr (.inl (fo_3)))), (mm, .inr (10, [.ref w, .int tz_15]))] := hD
    have ht9 := Eq.symm (b_16.2 h_6)
    subst ht9
    refine lv_istore (lv' := [(6, .int 0), (5, .int 1), (0, .ref b), (1, .ref g), (2, .ref mm), (3, .ref ou), (4, .int 0)]) hx hb dL_law_2119 hl (by decide) rfl (fun ls hl => ?_)
    refine lv_aload_n hx hb dL_law_2121 rfl (lv_at hl 4 rfl) ?_
    have hPc := hP.sub (ws' := [(mm, .inr (10, [.ref w, .int 1]))]) [1] rfl
    have hDc := hD.sub (ws' := [(mm, .inr (10, [.ref w, .int 1]))]) [1] (by decide) rfl
    refine vp_callSi (W.runV (As := []) (rest := []) ⟨hx, hb, hml, hown, hts⟩ (c_thrown l D cI cZ cJ s.heap.size H.size mm 1 w) (cwV 0 hts gL_law_X10_thrown rfl rfl rfl (by decide +kernel) ⟨(Nat.le_of_ble_eq_true rfl), (Nat.le_of_ble_eq_true rfl)⟩) ⟨Pre.blind, va_recv hK hP (ci := 10) (q0 := 1) rfl rfl, Pre.mk hPc (hDc.weaken (fun _ _ _ h => hAlo _ h)) hC hS hAlo⟩ rfl rfl hl.1 rfl (lv_room (Nat.le_of_ble_eq_true rfl)) dL_law_2122 ⟨(Nat.le_of_ble_eq_true rfl), (Nat.le_of_ble_eq_true rfl)⟩) (fun r_17 e_18 => ?_)
    clear hPc hDc
    have e_18 : 1 = r_17 := Eq.symm e_18
    subst e_18
    refine lv_iload hx hb dL_law_2125 (lv_at hl 1 rfl) ?_
    refine lv_icmp_eq (tgt := 2132) hx hb dL_law_2127 (by decide) (fun _ => ?_) (fun c9 => absurd (show (1 : Int32) = (1 : Int32) from (by decide)) c9)
    refine lv_iload hx hb dL_law_2132 (lv_at hl 1 rfl) ?_
    refine lv_if_ne (tgt := 2149) hx hb dL_law_2134 (by decide) (fun _ => ?_) (fun c9 => absurd c9 (show ¬ (1 : Int32) = (0 : Int32) from (by decide)))
    refine lv_goto (tgt := 2855) hx hb dL_law_2149 (by decide) ?_
    refine W.widen (k := 1000) (n := 200000) (Nat.le_of_ble_eq_true rfl) (Nat.le_of_ble_eq_true rfl) ?_
    exact T H _ ls hS (lv_sub hl [2, 6] rfl)

set_option maxHeartbeats 4000000 in
set_option maxRecDepth 100000 in
/-- the law at a call of rate -/
theorem law_rate {p : Program} {l : Launch} {e : Env} {s : State} {m : MethodId} {below : List Frame} {meth : Method} {c : Code} {Q : State → Prop} (hl9 : l.stackTraces = false) (D : va_G) (cI cZ cJ : ClassId) (b : Nat) (xs : Nat → Int32) (C0 : LC s p m c D cI cZ cJ b xs) (g : Nat) (nw : Nat) (la : Nat) (pn : Nat) (aI : Nat) (aS : Nat) (aP : Nat) (aL : Nat) (aO : Nat) (aT : Nat) (aA : Nat) (aQ : Nat) (aI1 : Nat) (aI2 : Nat) (aI3 : Nat) (aI4 : Nat) (mm : Nat) (w : Nat) (b2 : Nat) (b3 : Nat) (b4 : Nat) (b5 : Nat) (b7 : Nat) (b8 : Nat) (b9 : Nat) (b10 : Nat) (b11 : Nat) (b12 : Nat) (b14 : Nat) (b15 : Nat) (b16 : Nat) (b17 : Nat) (b19 : Nat) (b20 : Nat) (b21 : Nat) (b22 : Nat) (b23 : Nat) (b24 : Nat) (b25 : Nat) (b26 : Nat) (b27 : Nat) (b29 : Nat) (b30 : Nat) (b31 : Nat) (b32 : Nat) (b33 : Nat) (b34 : Nat) (b35 : Nat) (ou : Nat) (T : LT p l e s m below meth c b Q) {H : Heap} {locs : List Loc} {ls : Array Slot} (hP : va_P D vwCl [(g, .inr (8, [.ref nw, .ref la, .ref pn])), (nw, .inr (6, [.int 0, .ref aI, .ref aS, .ref aP, .ref aL, .ref aO, .ref aT, .ref aA, .ref aQ])), (aI, .inr (0, [.int 0, .ref aI1, .ref aI2, .ref aI3, .ref aI4])), (mm, .inr (10, [.ref w, .int 0])), (w, .inr (9, [.int 0, .int 0, .ref b2, .ref b3, .ref b4, .ref b5, .int 0, .ref b7, .ref b8, .ref b9, .ref b10, .ref b11, .ref b12, .int 0, .ref b14, .ref b15, .ref b16, .ref b17, .int 0, .ref b19, .ref b20, .ref b21, .ref b22, .ref b23, .ref b24, .ref b25, .ref b26, .ref b27, .int 0, .ref b29, .ref b30, .ref b31, .ref b32, .ref b33, .ref b34, .ref b35]))] H) (hD : va_D (LA s) [(g, .inr (8, [.ref nw, .ref la, .ref pn])), (nw, .inr (6, [.int 0, .ref aI, .ref aS, .ref aP, .ref aL, .ref aO, .ref aT, .ref aA, .ref aQ])), (aI, .inr (0, [.int 0, .ref aI1, .ref aI2, .ref aI3, .ref aI4])), (mm, .inr (10, [.ref w, .int 0])), (w, .inr (9, [.int 0, .int 0, .ref b2, .ref b3, .ref b4, .ref b5, .int 0, .ref b7, .ref b8, .ref b9, .ref b10, .ref b11, .ref b12, .int 0, .ref b14, .ref b15, .ref b16, .ref b17, .int 0, .ref b19, .ref b20, .ref b21, .ref b22, .ref b23, .ref b24, .ref b25, .ref b26, .ref b27, .int 0, .ref b29, .ref b30, .ref b31, .ref b32, .ref b33, .ref b34, .ref b35]))]) (hS : va_S (LA s) s.heap H locs) (hl : lv_has ls 9 [(0, .ref b), (1, .ref g), (2, .ref mm), (3, .ref ou), (4, .int 0)]) : W p l e room_1 s m #[Value.ref b] below meth c H locs 123 42908 Q (F0 m 2152 ls []) := by
  obtain ⟨hx, hb, hml, hown, hts, hX, hbl, hC⟩ := C0
  have hK := hC.K
  have hA : ∀ q : Nat, s.heap.size ≤ q → LA s q := fun _ h => h
  have hAlo : ∀ q, LA s q → s.heap.size ≤ q := fun _ h => h
  have hbA : ¬ LA s b := Nat.not_le.mpr hbl
  refine lv_aload_n hx hb dL_law_2152 rfl (lv_at hl 1 rfl) ?_
  refine lv_aload_n hx hb dL_law_2153 rfl (lv_at hl 0 rfl) ?_
  refine lv_iload hx hb dL_law_2154 (lv_at hl 4 rfl) ?_
  refine lv_iconst (v := 1) hx hb dL_law_2156 (by decide) ?_
  refine lv_iadd hx hb dL_law_2157 ?_
  refine lv_toi (y := 1) (by decide) ?_
  refine va_sld hx hb hX hbl hbA hS (by unfold vp_in; decide) dL_law_2158 ?_
  refine lv_toi (y := xs 1) (congrArg xs (by decide)) ?_
  refine lv_aload_n hx hb dL_law_2159 rfl (lv_at hl 0 rfl) ?_
  refine lv_iload hx hb dL_law_2160 (lv_at hl 4 rfl) ?_
  refine lv_iconst (v := 2) hx hb dL_law_2162 (by decide) ?_
  refine lv_iadd hx hb dL_law_2163 ?_
  refine lv_toi (y := 2) (by decide) ?_
  refine va_sld hx hb hX hbl hbA hS (by unfold vp_in; decide) dL_law_2164 ?_
  refine lv_toi (y := xs 2) (congrArg xs (by decide)) ?_
  refine lv_aload_n hx hb dL_law_2165 rfl (lv_at hl 0 rfl) ?_
  refine lv_iload hx hb dL_law_2166 (lv_at hl 4 rfl) ?_
  refine lv_iconst (v := 3) hx hb dL_law_2168 (by decide) ?_
  refine lv_iadd hx hb dL_law_2169 ?_
  refine lv_toi (y := 3) (by decide) ?_
  refine va_sld hx hb hX hbl hbA hS (by unfold vp_in; decide) dL_law_2170 ?_
  refine lv_toi (y := xs 3) (congrArg xs (by decide)) ?_
  refine lv_aload_n hx hb dL_law_2171 rfl (lv_at hl 3 rfl) ?_
  have hPc := hP.sub (ws' := [(g, .inr (8, [.ref nw, .ref la, .ref pn])), (nw, .inr (6, [.int 0, .ref aI, .ref aS, .ref aP, .ref aL, .ref aO, .ref aT, .ref aA, .ref aQ])), (aI, .inr (0, [.int 0, .ref aI1, .ref aI2, .ref aI3, .ref aI4]))]) [0, 1, 2] rfl
  have hDc := hD.sub (ws' := [(g, .inr (8, [.ref nw, .ref la, .ref pn])), (nw, .inr (6, [.int 0, .ref aI, .ref aS, .ref aP, .ref aL, .ref aO, .ref aT, .ref aA, .ref aQ])), (aI, .inr (0, [.int 0, .ref aI1, .ref aI2, .ref aI3, .ref aI4]))]) [0, 1, 2] (by decide) rfl
  have hFc := va_free (wc := [(g, .inr (8, [.ref nw, .ref la, .ref pn])), (nw, .inr (6, [.int 0, .ref aI, .ref aS, .ref aP, .ref aL, .ref aO, .ref aT, .ref aA, .ref aQ])), (aI, .inr (0, [.int 0, .ref aI1, .ref aI2, .ref aI3, .ref aI4]))]) hD hS hA [0, 1, 2] rfl
  refine va_calli (vx_runSW (As := [.ref g, .int (xs 1), .int (xs 2), .int (xs 3), .ref ou]) (rest := []) ⟨hx, hb, hml, hown, hts⟩ (h_rate l hl9 D cI cZ cJ s.heap.size H.size g nw la pn 0 aI aS aP aL aO aT aA aQ aI1 aI2 aI3 aI4 (xs 1) (xs 2) (xs 3) ou) (vx_cwSW 5 hts gL_law_L_rate rfl rfl rfl (by decide +kernel) ⟨(Nat.le_of_ble_eq_true rfl), (Nat.le_of_ble_eq_true rfl)⟩) ⟨Pre.blind, Pre.mk hPc (hDc.weaken (fun _ _ _ h => hAlo _ h)) hC hS hAlo⟩ rfl rfl hl.1 rfl (lv_room (Nat.le_of_ble_eq_true rfl)) dL_law_2172 ⟨(Nat.le_of_ble_eq_true rfl), (Nat.le_of_ble_eq_true rfl)⟩) hS (fun q _ h => hFc q h) hFc (fun r_1 u t H1 locs1 ht hvm e_2 hB hz1 hk1 hS1 => ?_)
  have hS := hS1
  refine W.widen (k := 124) (n := 42914) (by omega) (by omega) ?_
  obtain ⟨hP, hD⟩ := va_rest (wr := [(mm, .inr (10, [.ref w, .int 0])), (w, .inr (9, [.int 0, .int 0, .ref b2, .ref b3, .ref b4, .ref b5, .int 0, .ref b7, .ref b8, .ref b9, .ref b10, .ref b11, .ref b12, .int 0, .ref b14, .ref b15, .ref b16, .ref b17, .int 0, .ref b19, .ref b20, .ref b21, .ref b22, .ref b23, .ref b24, .ref b25, .ref b26, .ref b27, .int 0, .ref b29, .ref b30, .ref b31, .ref b32, .ref b33, .ref b34, .ref b35]))]) hP hD [0, 1, 2] [3, 4] rfl rfl (by decide) (by decide) hk1 hFc
  have e_2 : 1 = r_1 := Eq.symm e_2
  subst e_2
  clear hFc hPc hDc ht hvm hz1 hk1 hS1 hB
  generalize H1 = H at hP hS ⊢
  replace hP : va_P D vwCl [(mm, .inr (10, [.ref w, .int 0])), (w, .inr (9, [.int 0, .int 0, .ref b2, .ref b3, .ref b4, .ref b5, .int 0, .ref b7, .ref b8, .ref b9, .ref b10, .ref b11, .ref b12, .int 0, .ref b14, .ref b15, .ref b16, .ref b17, .int 0, .ref b19, .ref b20, .ref b21, .ref b22, .ref b23, .ref b24, .ref b25, .ref b26, .ref b27, .int 0, .ref b29, .ref b30, .ref b31, .ref b32, .ref b33, .ref b34, .ref b35]))] H := hP
  replace hD : va_D (LA s) [(mm, .inr (10, [.ref w, .int 0])), (w, .inr (9, [.int 0, .int 0, .ref b2, .ref b3, .ref b4, .ref b5, .int 0, .ref b7, .ref b8, .ref b9, .ref b10, .ref b11, .ref b12, .int 0, .ref b14, .ref b15, .ref b16, .ref b17, .int 0, .ref b19, .ref b20, .ref b21, .ref b22, .ref b23, .ref b24, .ref b25, .ref b26, .ref b27, .int 0, .ref b29, .ref b30, .ref b31, .ref b32, .ref b33, .ref b34, .ref b35]))] := hD
  refine lv_istore (lv' := [(5, .int 1), (0, .ref b), (1, .ref g), (2, .ref mm), (3, .ref ou), (4, .int 0)]) hx hb dL_law_2175 hl (by decide) rfl (fun ls hl => ?_)
  refine lv_aload_n hx hb dL_law_2177 rfl (lv_at hl 3 rfl) ?_
  refine lv_aload_n hx hb dL_law_2178 rfl (lv_at hl 1 rfl) ?_
  refine lv_iload hx hb dL_law_2179 (lv_at hl 5 rfl) ?_
  refine lv_iconst (v := 1) hx hb dL_law_2181 (by decide) ?_
  refine lv_iadd hx hb dL_law_2182 ?_
  refine lv_toi (y := 1) (by decide) ?_
  refine va_sld hx hb hX hbl hbA hS (by unfold vp_in; decide) dL_law_2183 ?_
  refine lv_toi (y := xs 1) (congrArg xs (by decide)) ?_
  refine lv_aload_n hx hb dL_law_2184 rfl (lv_at hl 1 rfl) ?_
  refine lv_iload hx hb dL_law_2185 (lv_at hl 5 rfl) ?_
  refine lv_iconst (v := 2) hx hb dL_law_2187 (by decide) ?_
  refine lv_iadd hx hb dL_law_2188 ?_
  refine lv_toi (y := 2) (by decide) ?_
  refine va_sld hx hb hX hbl hbA hS (by unfold vp_in; decide) dL_law_2189 ?_
  refine lv_toi (y := xs 2) (congrArg xs (by decide)) ?_
  refine lv_aload_n hx hb dL_law_2190 rfl (lv_at hl 1 rfl) ?_
  refine lv_iload hx hb dL_law_2191 (lv_at hl 5 rfl) ?_
  refine lv_iconst (v := 3) hx hb dL_law_2193 (by decide) ?_
  refine lv_iadd hx hb dL_law_2194 ?_
  refine lv_toi (y := 3) (by decide) ?_
  refine va_sld hx hb hX hbl hbA hS (by unfold vp_in; decide) dL_law_2195 ?_
  refine lv_toi (y := xs 3) (congrArg xs (by decide)) ?_
  have hPc := hP.sub (ws' := [(mm, .inr (10, [.ref w, .int 0])), (w, .inr (9, [.int 0, .int 0, .ref b2, .ref b3, .ref b4, .ref b5, .int 0, .ref b7, .ref b8, .ref b9, .ref b10, .ref b11, .ref b12, .int 0, .ref b14, .ref b15, .ref b16, .ref b17, .int 0, .ref b19, .ref b20, .ref b21, .ref b22, .ref b23, .ref b24, .ref b25, .ref b26, .ref b27, .int 0, .ref b29, .ref b30, .ref b31, .ref b32, .ref b33, .ref b34, .ref b35]))]) [0, 1] rfl
  have hDc := hD.sub (ws' := [(mm, .inr (10, [.ref w, .int 0])), (w, .inr (9, [.int 0, .int 0, .ref b2, .ref b3, .ref b4, .ref b5, .int 0, .ref b7, .ref b8, .ref b9, .ref b10, .ref b11, .ref b12, .int 0, .ref b14, .ref b15, .ref b16, .ref b17, .int 0, .ref b19, .ref b20, .ref b21, .ref b22, .ref b23, .ref b24, .ref b25, .ref b26, .ref b27, .int 0, .ref b29, .ref b30, .ref b31, .ref b32, .ref b33, .ref b34, .ref b35]))]) [0, 1] (by decide) rfl
  have hFc := va_free (wc := [(mm, .inr (10, [.ref w, .int 0])), (w, .inr (9, [.int 0, .int 0, .ref b2, .ref b3, .ref b4, .ref b5, .int 0, .ref b7, .ref b8, .ref b9, .ref b10, .ref b11, .ref b12, .int 0, .ref b14, .ref b15, .ref b16, .ref b17, .int 0, .ref b19, .ref b20, .ref b21, .ref b22, .ref b23, .ref b24, .ref b25, .ref b26, .ref b27, .int 0, .ref b29, .ref b30, .ref b31, .ref b32, .ref b33, .ref b34, .ref b35]))]) hD hS hA [0, 1] rfl
  refine va_calli (va_runV (As := [.int (xs 1), .int (xs 2), .int (xs 3)]) (rest := []) ⟨hx, hb, hml, hown, hts⟩ (m_rate l D cI cZ cJ s.heap.size H.size mm 0 w 0 b2 b3 b4 b5 b7 b8 b9 b10 b11 b12 b14 b15 b16 b17 b19 b20 b21 b22 b23 b24 b25 b26 b27 b29 b30 b31 b32 b33 b34 b35 (xs 1) (xs 2) (xs 3)) (cwV 3 hts gL_law_X10_rate rfl rfl rfl (by decide +kernel) ⟨(Nat.le_of_ble_eq_true rfl), (Nat.le_of_ble_eq_true rfl)⟩) ⟨Pre.blind, va_recv hK hP (ci := 10) (q0 := 0) rfl rfl, Pre.mk hPc (hDc.weaken (fun _ _ _ h => hAlo _ h)) hC hS hAlo⟩ rfl rfl hl.1 rfl (lv_room (Nat.le_of_ble_eq_true rfl)) dL_law_2196 ⟨(Nat.le_of_ble_eq_true rfl), (Nat.le_of_ble_eq_true rfl)⟩) hS (fun q _ h => hFc q h) hFc (fun r_3 u t H1 locs1 ht hvm e_4 hB hz1 hk1 hS1 => ?_)
  have hS := hS1
  refine W.widen (k := 124) (n := 42914) (by omega) (by omega) ?_
  obtain ⟨hP1, hD1⟩ := hB
  rw [ht] at hP1
  obtain ⟨hP, hD⟩ := va_join (wr := []) (w1 := [(mm, .inr (10, [.ref w, .int 1]))]) hP hD [0, 1] [] rfl rfl (by decide) (by decide) hk1 hFc hP1 hD1
  have e_4 : 0 = r_3 := Eq.symm e_4
  subst e_4
  clear hFc hPc hDc ht hvm hz1 hk1 hS1 hP1 hD1
  generalize H1 = H at hP hS ⊢
  replace hP : va_P D vwCl [(mm, .inr (10, [.ref w, .int 1]))] H := hP
  replace hD : va_D (LA s) [(mm, .inr (10, [.ref w, .int 1]))] := hD
  refine lv_istore (lv' := [(6, .int 0), (5, .int 1), (0, .ref b), (1, .ref g), (2, .ref mm), (3, .ref ou), (4, .int 0)]) hx hb dL_law_2199 hl (by decide) rfl (fun ls hl => ?_)
  refine lv_aload_n hx hb dL_law_2201 rfl (lv_at hl 4 rfl) ?_
  have hPc := hP.sub (ws' := [(mm, .inr (10, [.ref w, .int 1]))]) [0] rfl
  have hDc := hD.sub (ws' := [(mm, .inr (10, [.ref w, .int 1]))]) [0] (by decide) rfl
  refine vp_callSi (W.runV (As := []) (rest := []) ⟨hx, hb, hml, hown, hts⟩ (c_thrown l D cI cZ cJ s.heap.size H.size mm 1 w) (cwV 0 hts gL_law_X10_thrown rfl rfl rfl (by decide +kernel) ⟨(Nat.le_of_ble_eq_true rfl), (Nat.le_of_ble_eq_true rfl)⟩) ⟨Pre.blind, va_recv hK hP (ci := 10) (q0 := 0) rfl rfl, Pre.mk hPc (hDc.weaken (fun _ _ _ h => hAlo _ h)) hC hS hAlo⟩ rfl rfl hl.1 rfl (lv_room (Nat.le_of_ble_eq_true rfl)) dL_law_2202 ⟨(Nat.le_of_ble_eq_true rfl), (Nat.le_of_ble_eq_true rfl)⟩) (fun r_5 e_6 => ?_)
  clear hPc hDc
  have e_6 : 1 = r_5 := Eq.symm e_6
  subst e_6
  refine lv_iload hx hb dL_law_2205 (lv_at hl 1 rfl) ?_
  refine lv_icmp_eq (tgt := 2212) hx hb dL_law_2207 (by decide) (fun _ => ?_) (fun c9 => absurd (show (1 : Int32) = (1 : Int32) from (by decide)) c9)
  refine lv_iload hx hb dL_law_2212 (lv_at hl 1 rfl) ?_
  refine lv_if_ne (tgt := 2229) hx hb dL_law_2214 (by decide) (fun _ => ?_) (fun c9 => absurd c9 (show ¬ (1 : Int32) = (0 : Int32) from (by decide)))
  refine lv_goto (tgt := 2855) hx hb dL_law_2229 (by decide) ?_
  refine W.widen (k := 1000) (n := 200000) (Nat.le_of_ble_eq_true rfl) (Nat.le_of_ble_eq_true rfl) ?_
  exact T H _ ls hS (lv_sub hl [2, 6] rfl)

set_option maxHeartbeats 4000000 in
set_option maxRecDepth 100000 in
/-- the law at a call of pointFor -/
theorem law_pointFor {p : Program} {l : Launch} {e : Env} {s : State} {m : MethodId} {below : List Frame} {meth : Method} {c : Code} {Q : State → Prop} (hl9 : l.stackTraces = false) (D : va_G) (cI cZ cJ : ClassId) (b : Nat) (xs : Nat → Int32) (C0 : LC s p m c D cI cZ cJ b xs) (g : Nat) (nw : Nat) (la : Nat) (pn : Nat) (aI : Nat) (aS : Nat) (aP : Nat) (aL : Nat) (aO : Nat) (aT : Nat) (aA : Nat) (aQ : Nat) (aI1 : Nat) (aI2 : Nat) (aI3 : Nat) (aI4 : Nat) (mm : Nat) (w : Nat) (b2 : Nat) (b3 : Nat) (b4 : Nat) (b5 : Nat) (b7 : Nat) (b8 : Nat) (b9 : Nat) (b10 : Nat) (b11 : Nat) (b12 : Nat) (b14 : Nat) (b15 : Nat) (b16 : Nat) (b17 : Nat) (b19 : Nat) (b20 : Nat) (b21 : Nat) (b22 : Nat) (b23 : Nat) (b24 : Nat) (b25 : Nat) (b26 : Nat) (b27 : Nat) (b29 : Nat) (b30 : Nat) (b31 : Nat) (b32 : Nat) (b33 : Nat) (b34 : Nat) (b35 : Nat) (ou : Nat) (T : LT p l e s m below meth c b Q) {H : Heap} {locs : List Loc} {ls : Array Slot} (hP : va_P D vwCl [(g, .inr (8, [.ref nw, .ref la, .ref pn])), (nw, .inr (6, [.int 0, .ref aI, .ref aS, .ref aP, .ref aL, .ref aO, .ref aT, .ref aA, .ref aQ])), (aI, .inr (0, [.int 0, .ref aI1, .ref aI2, .ref aI3, .ref aI4])), (mm, .inr (10, [.ref w, .int 0])), (w, .inr (9, [.int 0, .int 0, .ref b2, .ref b3, .ref b4, .ref b5, .int 0, .ref b7, .ref b8, .ref b9, .ref b10, .ref b11, .ref b12, .int 0, .ref b14, .ref b15, .ref b16, .ref b17, .int 0, .ref b19, .ref b20, .ref b21, .ref b22, .ref b23, .ref b24, .ref b25, .ref b26, .ref b27, .int 0, .ref b29, .ref b30, .ref b31, .ref b32, .ref b33, .ref b34, .ref b35]))] H) (hD : va_D (LA s) [(g, .inr (8, [.ref nw, .ref la, .ref pn])), (nw, .inr (6, [.int 0, .ref aI, .ref aS, .ref aP, .ref aL, .ref aO, .ref aT, .ref aA, .ref aQ])), (aI, .inr (0, [.int 0, .ref aI1, .ref aI2, .ref aI3, .ref aI4])), (mm, .inr (10, [.ref w, .int 0])), (w, .inr (9, [.int 0, .int 0, .ref b2, .ref b3, .ref b4, .ref b5, .int 0, .ref b7, .ref b8, .ref b9, .ref b10, .ref b11, .ref b12, .int 0, .ref b14, .ref b15, .ref b16, .ref b17, .int 0, .ref b19, .ref b20, .ref b21, .ref b22, .ref b23, .ref b24, .ref b25, .ref b26, .ref b27, .int 0, .ref b29, .ref b30, .ref b31, .ref b32, .ref b33, .ref b34, .ref b35]))]) (hS : va_S (LA s) s.heap H locs) (hl : lv_has ls 9 [(0, .ref b), (1, .ref g), (2, .ref mm), (3, .ref ou), (4, .int 0)]) : W p l e room_1 s m #[Value.ref b] below meth c H locs 123 42908 Q (F0 m 2232 ls []) := by
  obtain ⟨hx, hb, hml, hown, hts, hX, hbl, hC⟩ := C0
  have hK := hC.K
  have hA : ∀ q : Nat, s.heap.size ≤ q → LA s q := fun _ h => h
  have hAlo : ∀ q, LA s q → s.heap.size ≤ q := fun _ h => h
  have hbA : ¬ LA s b := Nat.not_le.mpr hbl
  refine lv_aload_n hx hb dL_law_2232 rfl (lv_at hl 1 rfl) ?_
  refine lv_aload_n hx hb dL_law_2233 rfl (lv_at hl 0 rfl) ?_
  refine lv_iload hx hb dL_law_2234 (lv_at hl 4 rfl) ?_
  refine lv_iconst (v := 1) hx hb dL_law_2236 (by decide) ?_
  refine lv_iadd hx hb dL_law_2237 ?_
  refine lv_toi (y := 1) (by decide) ?_
  refine va_sld hx hb hX hbl hbA hS (by unfold vp_in; decide) dL_law_2238 ?_
  refine lv_toi (y := xs 1) (congrArg xs (by decide)) ?_
  refine lv_aload_n hx hb dL_law_2239 rfl (lv_at hl 0 rfl) ?_
  refine lv_iload hx hb dL_law_2240 (lv_at hl 4 rfl) ?_
  refine lv_iconst (v := 2) hx hb dL_law_2242 (by decide) ?_
  refine lv_iadd hx hb dL_law_2243 ?_
  refine lv_toi (y := 2) (by decide) ?_
  refine va_sld hx hb hX hbl hbA hS (by unfold vp_in; decide) dL_law_2244 ?_
  refine lv_toi (y := xs 2) (congrArg xs (by decide)) ?_
  refine lv_aload_n hx hb dL_law_2245 rfl (lv_at hl 0 rfl) ?_
  refine lv_iload hx hb dL_law_2246 (lv_at hl 4 rfl) ?_
  refine lv_iconst (v := 3) hx hb dL_law_2248 (by decide) ?_
  refine lv_iadd hx hb dL_law_2249 ?_
  refine lv_toi (y := 3) (by decide) ?_
  refine va_sld hx hb hX hbl hbA hS (by unfold vp_in; decide) dL_law_2250 ?_
  refine lv_toi (y := xs 3) (congrArg xs (by decide)) ?_
  refine lv_aload_n hx hb dL_law_2251 rfl (lv_at hl 0 rfl) ?_
  refine lv_iload hx hb dL_law_2252 (lv_at hl 4 rfl) ?_
  refine lv_iconst (v := 4) hx hb dL_law_2254 (by decide) ?_
  refine lv_iadd hx hb dL_law_2255 ?_
  refine lv_toi (y := 4) (by decide) ?_
  refine va_sld hx hb hX hbl hbA hS (by unfold vp_in; decide) dL_law_2256 ?_
  refine lv_toi (y := xs 4) (congrArg xs (by decide)) ?_
  refine lv_aload_n hx hb dL_law_2257 rfl (lv_at hl 3 rfl) ?_
  have hPc := hP.sub (ws' := [(g, .inr (8, [.ref nw, .ref la, .ref pn])), (nw, .inr (6, [.int 0, .ref aI, .ref aS, .ref aP, .ref aL, .ref aO, .ref aT, .ref aA, .ref aQ])), (aI, .inr (0, [.int 0, .ref aI1, .ref aI2, .ref aI3, .ref aI4]))]) [0, 1, 2] rfl
  have hDc := hD.sub (ws' := [(g, .inr (8, [.ref nw, .ref la, .ref pn])), (nw, .inr (6, [.int 0, .ref aI, .ref aS, .ref aP, .ref aL, .ref aO, .ref aT, .ref aA, .ref aQ])), (aI, .inr (0, [.int 0, .ref aI1, .ref aI2, .ref aI3, .ref aI4]))]) [0, 1, 2] (by decide) rfl
  have hFc := va_free (wc := [(g, .inr (8, [.ref nw, .ref la, .ref pn])), (nw, .inr (6, [.int 0, .ref aI, .ref aS, .ref aP, .ref aL, .ref aO, .ref aT, .ref aA, .ref aQ])), (aI, .inr (0, [.int 0, .ref aI1, .ref aI2, .ref aI3, .ref aI4]))]) hD hS hA [0, 1, 2] rfl
  refine va_calli (vx_runSW (As := [.ref g, .int (xs 1), .int (xs 2), .int (xs 3), .int (xs 4), .ref ou]) (rest := []) ⟨hx, hb, hml, hown, hts⟩ (h_pointFor l hl9 D cI cZ cJ s.heap.size H.size g nw la pn 0 aI aS aP aL aO aT aA aQ aI1 aI2 aI3 aI4 (xs 1) (xs 2) (xs 3) (xs 4) ou) (vx_cwSW 6 hts gL_law_L_pointFor rfl rfl rfl (by decide +kernel) ⟨(Nat.le_of_ble_eq_true rfl), (Nat.le_of_ble_eq_true rfl)⟩) ⟨Pre.blind, Pre.mk hPc (hDc.weaken (fun _ _ _ h => hAlo _ h)) hC hS hAlo⟩ rfl rfl hl.1 rfl (lv_room (Nat.le_of_ble_eq_true rfl)) dL_law_2258 ⟨(Nat.le_of_ble_eq_true rfl), (Nat.le_of_ble_eq_true rfl)⟩) hS (fun q _ h => hFc q h) hFc (fun r_1 u t H1 locs1 ht hvm e_2 hB hz1 hk1 hS1 => ?_)
  have hS := hS1
  refine W.widen (k := 124) (n := 42914) (by omega) (by omega) ?_
  obtain ⟨hP, hD⟩ := va_rest (wr := [(mm, .inr (10, [.ref w, .int 0])), (w, .inr (9, [.int 0, .int 0, .ref b2, .ref b3, .ref b4, .ref b5, .int 0, .ref b7, .ref b8, .ref b9, .ref b10, .ref b11, .ref b12, .int 0, .ref b14, .ref b15, .ref b16, .ref b17, .int 0, .ref b19, .ref b20, .ref b21, .ref b22, .ref b23, .ref b24, .ref b25, .ref b26, .ref b27, .int 0, .ref b29, .ref b30, .ref b31, .ref b32, .ref b33, .ref b34, .ref b35]))]) hP hD [0, 1, 2] [3, 4] rfl rfl (by decide) (by decide) hk1 hFc
  have e_2 : 1 = r_1 := Eq.symm e_2
  subst e_2
  clear hFc hPc hDc ht hvm hz1 hk1 hS1 hB
  generalize H1 = H at hP hS ⊢
  replace hP : va_P D vwCl [(mm, .inr (10, [.ref w, .int 0])), (w, .inr (9, [.int 0, .int 0, .ref b2, .ref b3, .ref b4, .ref b5, .int 0, .ref b7, .ref b8, .ref b9, .ref b10, .ref b11, .ref b12, .int 0, .ref b14, .ref b15, .ref b16, .ref b17, .int 0, .ref b19, .ref b20, .ref b21, .ref b22, .ref b23, .ref b24, .ref b25, .ref b26, .ref b27, .int 0, .ref b29, .ref b30, .ref b31, .ref b32, .ref b33, .ref b34, .ref b35]))] H := hP
  replace hD : va_D (LA s) [(mm, .inr (10, [.ref w, .int 0])), (w, .inr (9, [.int 0, .int 0, .ref b2, .ref b3, .ref b4, .ref b5, .int 0, .ref b7, .ref b8, .ref b9, .ref b10, .ref b11, .ref b12, .int 0, .ref b14, .ref b15, .ref b16, .ref b17, .int 0, .ref b19, .ref b20, .ref b21, .ref b22, .ref b23, .ref b24, .ref b25, .ref b26, .ref b27, .int 0, .ref b29, .ref b30, .ref b31, .ref b32, .ref b33, .ref b34, .ref b35]))] := hD
  refine lv_istore (lv' := [(5, .int 1), (0, .ref b), (1, .ref g), (2, .ref mm), (3, .ref ou), (4, .int 0)]) hx hb dL_law_2261 hl (by decide) rfl (fun ls hl => ?_)
  refine lv_aload_n hx hb dL_law_2263 rfl (lv_at hl 3 rfl) ?_
  refine lv_aload_n hx hb dL_law_2264 rfl (lv_at hl 1 rfl) ?_
  refine lv_iload hx hb dL_law_2265 (lv_at hl 5 rfl) ?_
  refine lv_iconst (v := 1) hx hb dL_law_2267 (by decide) ?_
  refine lv_iadd hx hb dL_law_2268 ?_
  refine lv_toi (y := 1) (by decide) ?_
  refine va_sld hx hb hX hbl hbA hS (by unfold vp_in; decide) dL_law_2269 ?_
  refine lv_toi (y := xs 1) (congrArg xs (by decide)) ?_
  refine lv_aload_n hx hb dL_law_2270 rfl (lv_at hl 1 rfl) ?_
  refine lv_iload hx hb dL_law_2271 (lv_at hl 5 rfl) ?_
  refine lv_iconst (v := 2) hx hb dL_law_2273 (by decide) ?_
  refine lv_iadd hx hb dL_law_2274 ?_
  refine lv_toi (y := 2) (by decide) ?_
  refine va_sld hx hb hX hbl hbA hS (by unfold vp_in; decide) dL_law_2275 ?_
  refine lv_toi (y := xs 2) (congrArg xs (by decide)) ?_
  refine lv_aload_n hx hb dL_law_2276 rfl (lv_at hl 1 rfl) ?_
  refine lv_iload hx hb dL_law_2277 (lv_at hl 5 rfl) ?_
  refine lv_iconst (v := 3) hx hb dL_law_2279 (by decide) ?_
  refine lv_iadd hx hb dL_law_2280 ?_
  refine lv_toi (y := 3) (by decide) ?_
  refine va_sld hx hb hX hbl hbA hS (by unfold vp_in; decide) dL_law_2281 ?_
  refine lv_toi (y := xs 3) (congrArg xs (by decide)) ?_
  refine lv_aload_n hx hb dL_law_2282 rfl (lv_at hl 1 rfl) ?_
  refine lv_iload hx hb dL_law_2283 (lv_at hl 5 rfl) ?_
  refine lv_iconst (v := 4) hx hb dL_law_2285 (by decide) ?_
  refine lv_iadd hx hb dL_law_2286 ?_
  refine lv_toi (y := 4) (by decide) ?_
  refine va_sld hx hb hX hbl hbA hS (by unfold vp_in; decide) dL_law_2287 ?_
  refine lv_toi (y := xs 4) (congrArg xs (by decide)) ?_
  have hPc := hP.sub (ws' := [(mm, .inr (10, [.ref w, .int 0])), (w, .inr (9, [.int 0, .int 0, .ref b2, .ref b3, .ref b4, .ref b5, .int 0, .ref b7, .ref b8, .ref b9, .ref b10, .ref b11, .ref b12, .int 0, .ref b14, .ref b15, .ref b16, .ref b17, .int 0, .ref b19, .ref b20, .ref b21, .ref b22, .ref b23, .ref b24, .ref b25, .ref b26, .ref b27, .int 0, .ref b29, .ref b30, .ref b31, .ref b32, .ref b33, .ref b34, .ref b35]))]) [0, 1] rfl
  have hDc := hD.sub (ws' := [(mm, .inr (10, [.ref w, .int 0])), (w, .inr (9, [.int 0, .int 0, .ref b2, .ref b3, .ref b4, .ref b5, .int 0, .ref b7, .ref b8, .ref b9, .ref b10, .ref b11, .ref b12, .int 0, .ref b14, .ref b15, .ref b16, .ref b17, .int 0, .ref b19, .ref b20, .ref b21, .ref b22, .ref b23, .ref b24, .ref b25, .ref b26, .ref b27, .int 0, .ref b29, .ref b30, .ref b31, .ref b32, .ref b33, .ref b34, .ref b35]))]) [0, 1] (by decide) rfl
  have hFc := va_free (wc := [(mm, .inr (10, [.ref w, .int 0])), (w, .inr (9, [.int 0, .int 0, .ref b2, .ref b3, .ref b4, .ref b5, .int 0, .ref b7, .ref b8, .ref b9, .ref b10, .ref b11, .ref b12, .int 0, .ref b14, .ref b15, .ref b16, .ref b17, .int 0, .ref b19, .ref b20, .ref b21, .ref b22, .ref b23, .ref b24, .ref b25, .ref b26, .ref b27, .int 0, .ref b29, .ref b30, .ref b31, .ref b32, .ref b33, .ref b34, .ref b35]))]) hD hS hA [0, 1] rfl
  refine va_calli (va_runV (As := [.int (xs 1), .int (xs 2), .int (xs 3), .int (xs 4)]) (rest := []) ⟨hx, hb, hml, hown, hts⟩ (m_pointFor l D cI cZ cJ s.heap.size H.size mm 0 w 0 b2 b3 b4 b5 b7 b8 b9 b10 b11 b12 b14 b15 b16 b17 b19 b20 b21 b22 b23 b24 b25 b26 b27 b29 b30 b31 b32 b33 b34 b35 (xs 1) (xs 2) (xs 3) (xs 4)) (cwV 4 hts gL_law_X10_pointFor rfl rfl rfl (by decide +kernel) ⟨(Nat.le_of_ble_eq_true rfl), (Nat.le_of_ble_eq_true rfl)⟩) ⟨Pre.blind, va_recv hK hP (ci := 10) (q0 := 0) rfl rfl, Pre.mk hPc (hDc.weaken (fun _ _ _ h => hAlo _ h)) hC hS hAlo⟩ rfl rfl hl.1 rfl (lv_room (Nat.le_of_ble_eq_true rfl)) dL_law_2288 ⟨(Nat.le_of_ble_eq_true rfl), (Nat.le_of_ble_eq_true rfl)⟩) hS (fun q _ h => hFc q h) hFc (fun r_3 u t H1 locs1 ht hvm e_4 hB hz1 hk1 hS1 => ?_)
  have hS := hS1
  refine W.widen (k := 124) (n := 42914) (by omega) (by omega) ?_
  obtain ⟨hP1, hD1⟩ := hB
  rw [ht] at hP1
  obtain ⟨hP, hD⟩ := va_join (wr := []) (w1 := [(mm, .inr (10, [.ref w, .int 1]))]) hP hD [0, 1] [] rfl rfl (by decide) (by decide) hk1 hFc hP1 hD1
  have e_4 : 0 = r_3 := Eq.symm e_4
  subst e_4
  clear hFc hPc hDc ht hvm hz1 hk1 hS1 hP1 hD1
  generalize H1 = H at hP hS ⊢
  replace hP : va_P D vwCl [(mm, .inr (10, [.ref w, .int 1]))] H := hP
  replace hD : va_D (LA s) [(mm, .inr (10, [.ref w, .int 1]))] := hD
  refine lv_istore (lv' := [(6, .int 0), (5, .int 1), (0, .ref b), (1, .ref g), (2, .ref mm), (3, .ref ou), (4, .int 0)]) hx hb dL_law_2291 hl (by decide) rfl (fun ls hl => ?_)
  refine lv_aload_n hx hb dL_law_2293 rfl (lv_at hl 4 rfl) ?_
  have hPc := hP.sub (ws' := [(mm, .inr (10, [.ref w, .int 1]))]) [0] rfl
  have hDc := hD.sub (ws' := [(mm, .inr (10, [.ref w, .int 1]))]) [0] (by decide) rfl
  refine vp_callSi (W.runV (As := []) (rest := []) ⟨hx, hb, hml, hown, hts⟩ (c_thrown l D cI cZ cJ s.heap.size H.size mm 1 w) (cwV 0 hts gL_law_X10_thrown rfl rfl rfl (by decide +kernel) ⟨(Nat.le_of_ble_eq_true rfl), (Nat.le_of_ble_eq_true rfl)⟩) ⟨Pre.blind, va_recv hK hP (ci := 10) (q0 := 0) rfl rfl, Pre.mk hPc (hDc.weaken (fun _ _ _ h => hAlo _ h)) hC hS hAlo⟩ rfl rfl hl.1 rfl (lv_room (Nat.le_of_ble_eq_true rfl)) dL_law_2294 ⟨(Nat.le_of_ble_eq_true rfl), (Nat.le_of_ble_eq_true rfl)⟩) (fun r_5 e_6 => ?_)
  clear hPc hDc
  have e_6 : 1 = r_5 := Eq.symm e_6
  subst e_6
  refine lv_iload hx hb dL_law_2297 (lv_at hl 1 rfl) ?_
  refine lv_icmp_eq (tgt := 2304) hx hb dL_law_2299 (by decide) (fun _ => ?_) (fun c9 => absurd (show (1 : Int32) = (1 : Int32) from (by decide)) c9)
  refine lv_iload hx hb dL_law_2304 (lv_at hl 1 rfl) ?_
  refine lv_if_ne (tgt := 2321) hx hb dL_law_2306 (by decide) (fun _ => ?_) (fun c9 => absurd c9 (show ¬ (1 : Int32) = (0 : Int32) from (by decide)))
  refine lv_goto (tgt := 2855) hx hb dL_law_2321 (by decide) ?_
  refine W.widen (k := 1000) (n := 200000) (Nat.le_of_ble_eq_true rfl) (Nat.le_of_ble_eq_true rfl) ?_
  exact T H _ ls hS (lv_sub hl [2, 6] rfl)

set_option maxHeartbeats 4000000 in
set_option maxRecDepth 100000 in
/-- the law at a call of classOf -/
theorem law_classOf {p : Program} {l : Launch} {e : Env} {s : State} {m : MethodId} {below : List Frame} {meth : Method} {c : Code} {Q : State → Prop} (hl9 : l.stackTraces = false) (D : va_G) (cI cZ cJ : ClassId) (b : Nat) (xs : Nat → Int32) (C0 : LC s p m c D cI cZ cJ b xs) (g : Nat) (nw : Nat) (la : Nat) (pn : Nat) (aI : Nat) (aS : Nat) (aP : Nat) (aL : Nat) (aO : Nat) (aT : Nat) (aA : Nat) (aQ : Nat) (aI1 : Nat) (aI2 : Nat) (aI3 : Nat) (aI4 : Nat) (mm : Nat) (w : Nat) (b2 : Nat) (b3 : Nat) (b4 : Nat) (b5 : Nat) (b7 : Nat) (b8 : Nat) (b9 : Nat) (b10 : Nat) (b11 : Nat) (b12 : Nat) (b14 : Nat) (b15 : Nat) (b16 : Nat) (b17 : Nat) (b19 : Nat) (b20 : Nat) (b21 : Nat) (b22 : Nat) (b23 : Nat) (b24 : Nat) (b25 : Nat) (b26 : Nat) (b27 : Nat) (b29 : Nat) (b30 : Nat) (b31 : Nat) (b32 : Nat) (b33 : Nat) (b34 : Nat) (b35 : Nat) (ou : Nat) (T : LT p l e s m below meth c b Q) {H : Heap} {locs : List Loc} {ls : Array Slot} (hP : va_P D vwCl [(g, .inr (8, [.ref nw, .ref la, .ref pn])), (nw, .inr (6, [.int 0, .ref aI, .ref aS, .ref aP, .ref aL, .ref aO, .ref aT, .ref aA, .ref aQ])), (aI, .inr (0, [.int 0, .ref aI1, .ref aI2, .ref aI3, .ref aI4])), (mm, .inr (10, [.ref w, .int 0])), (w, .inr (9, [.int 0, .int 0, .ref b2, .ref b3, .ref b4, .ref b5, .int 0, .ref b7, .ref b8, .ref b9, .ref b10, .ref b11, .ref b12, .int 0, .ref b14, .ref b15, .ref b16, .ref b17, .int 0, .ref b19, .ref b20, .ref b21, .ref b22, .ref b23, .ref b24, .ref b25, .ref b26, .ref b27, .int 0, .ref b29, .ref b30, .ref b31, .ref b32, .ref b33, .ref b34, .ref b35]))] H) (hD : va_D (LA s) [(g, .inr (8, [.ref nw, .ref la, .ref pn])), (nw, .inr (6, [.int 0, .ref aI, .ref aS, .ref aP, .ref aL, .ref aO, .ref aT, .ref aA, .ref aQ])), (aI, .inr (0, [.int 0, .ref aI1, .ref aI2, .ref aI3, .ref aI4])), (mm, .inr (10, [.ref w, .int 0])), (w, .inr (9, [.int 0, .int 0, .ref b2, .ref b3, .ref b4, .ref b5, .int 0, .ref b7, .ref b8, .ref b9, .ref b10, .ref b11, .ref b12, .int 0, .ref b14, .ref b15, .ref b16, .ref b17, .int 0, .ref b19, .ref b20, .ref b21, .ref b22, .ref b23, .ref b24, .ref b25, .ref b26, .ref b27, .int 0, .ref b29, .ref b30, .ref b31, .ref b32, .ref b33, .ref b34, .ref b35]))]) (hS : va_S (LA s) s.heap H locs) (hl : lv_has ls 9 [(0, .ref b), (1, .ref g), (2, .ref mm), (3, .ref ou), (4, .int 0)]) : W p l e room_1 s m #[Value.ref b] below meth c H locs 123 42908 Q (F0 m 2324 ls []) := by
  obtain ⟨hx, hb, hml, hown, hts, hX, hbl, hC⟩ := C0
  have hK := hC.K
  have hA : ∀ q : Nat, s.heap.size ≤ q → LA s q := fun _ h => h
  have hAlo : ∀ q, LA s q → s.heap.size ≤ q := fun _ h => h
  have hbA : ¬ LA s b := Nat.not_le.mpr hbl
  refine lv_aload_n hx hb dL_law_2324 rfl (lv_at hl 1 rfl) ?_
  refine lv_aload_n hx hb dL_law_2325 rfl (lv_at hl 0 rfl) ?_
  refine lv_iload hx hb dL_law_2326 (lv_at hl 4 rfl) ?_
  refine lv_iconst (v := 1) hx hb dL_law_2328 (by decide) ?_
  refine lv_iadd hx hb dL_law_2329 ?_
  refine lv_toi (y := 1) (by decide) ?_
  refine va_sld hx hb hX hbl hbA hS (by unfold vp_in; decide) dL_law_2330 ?_
  refine lv_toi (y := xs 1) (congrArg xs (by decide)) ?_
  refine lv_aload_n hx hb dL_law_2331 rfl (lv_at hl 3 rfl) ?_
  have hPc := hP.sub (ws' := [(g, .inr (8, [.ref nw, .ref la, .ref pn])), (nw, .inr (6, [.int 0, .ref aI, .ref aS, .ref aP, .ref aL, .ref aO, .ref aT, .ref aA, .ref aQ])), (aI, .inr (0, [.int 0, .ref aI1, .ref aI2, .ref aI3, .ref aI4]))]) [0, 1, 2] rfl
  have hDc := hD.sub (ws' := [(g, .inr (8, [.ref nw, .ref la, .ref pn])), (nw, .inr (6, [.int 0, .ref aI, .ref aS, .ref aP, .ref aL, .ref aO, .ref aT, .ref aA, .ref aQ])), (aI, .inr (0, [.int 0, .ref aI1, .ref aI2, .ref aI3, .ref aI4]))]) [0, 1, 2] (by decide) rfl
  have hFc := va_free (wc := [(g, .inr (8, [.ref nw, .ref la, .ref pn])), (nw, .inr (6, [.int 0, .ref aI, .ref aS, .ref aP, .ref aL, .ref aO, .ref aT, .ref aA, .ref aQ])), (aI, .inr (0, [.int 0, .ref aI1, .ref aI2, .ref aI3, .ref aI4]))]) hD hS hA [0, 1, 2] rfl
  refine va_calli (vx_runSW (As := [.ref g, .int (xs 1), .ref ou]) (rest := []) ⟨hx, hb, hml, hown, hts⟩ (h_classOf l hl9 D cI cZ cJ s.heap.size H.size g nw la pn 0 aI aS aP aL aO aT aA aQ aI1 aI2 aI3 aI4 (xs 1) ou) (vx_cwSW 3 hts gL_law_L_classOf rfl rfl rfl (by decide +kernel) ⟨(Nat.le_of_ble_eq_true rfl), (Nat.le_of_ble_eq_true rfl)⟩) ⟨Pre.blind, Pre.mk hPc (hDc.weaken (fun _ _ _ h => hAlo _ h)) hC hS hAlo⟩ rfl rfl hl.1 rfl (lv_room (Nat.le_of_ble_eq_true rfl)) dL_law_2332 ⟨(Nat.le_of_ble_eq_true rfl), (Nat.le_of_ble_eq_true rfl)⟩) hS (fun q _ h => hFc q h) hFc (fun r_1 u t H1 locs1 ht hvm e_2 hB hz1 hk1 hS1 => ?_)
  have hS := hS1
  refine W.widen (k := 124) (n := 42914) (by omega) (by omega) ?_
  obtain ⟨hP, hD⟩ := va_rest (wr := [(mm, .inr (10, [.ref w, .int 0])), (w, .inr (9, [.int 0, .int 0, .ref b2, .ref b3, .ref b4, .ref b5, .int 0, .ref b7, .ref b8, .ref b9, .ref b10, .ref b11, .ref b12, .int 0, .ref b14, .ref b15, .ref b16, .ref b17, .int 0, .ref b19, .ref b20, .ref b21, .ref b22, .ref b23, .ref b24, .ref b25, .ref b26, .ref b27, .int 0, .ref b29, .ref b30, .ref b31, .ref b32, .ref b33, .ref b34, .ref b35]))]) hP hD [0, 1, 2] [3, 4] rfl rfl (by decide) (by decide) hk1 hFc
  have e_2 : 1 = r_1 := Eq.symm e_2
  subst e_2
  clear hFc hPc hDc ht hvm hz1 hk1 hS1 hB
  generalize H1 = H at hP hS ⊢
  replace hP : va_P D vwCl [(mm, .inr (10, [.ref w, .int 0])), (w, .inr (9, [.int 0, .int 0, .ref b2, .ref b3, .ref b4, .ref b5, .int 0, .ref b7, .ref b8, .ref b9, .ref b10, .ref b11, .ref b12, .int 0, .ref b14, .ref b15, .ref b16, .ref b17, .int 0, .ref b19, .ref b20, .ref b21, .ref b22, .ref b23, .ref b24, .ref b25, .ref b26, .ref b27, .int 0, .ref b29, .ref b30, .ref b31, .ref b32, .ref b33, .ref b34, .ref b35]))] H := hP
  replace hD : va_D (LA s) [(mm, .inr (10, [.ref w, .int 0])), (w, .inr (9, [.int 0, .int 0, .ref b2, .ref b3, .ref b4, .ref b5, .int 0, .ref b7, .ref b8, .ref b9, .ref b10, .ref b11, .ref b12, .int 0, .ref b14, .ref b15, .ref b16, .ref b17, .int 0, .ref b19, .ref b20, .ref b21, .ref b22, .ref b23, .ref b24, .ref b25, .ref b26, .ref b27, .int 0, .ref b29, .ref b30, .ref b31, .ref b32, .ref b33, .ref b34, .ref b35]))] := hD
  refine lv_istore (lv' := [(5, .int 1), (0, .ref b), (1, .ref g), (2, .ref mm), (3, .ref ou), (4, .int 0)]) hx hb dL_law_2335 hl (by decide) rfl (fun ls hl => ?_)
  refine lv_aload_n hx hb dL_law_2337 rfl (lv_at hl 3 rfl) ?_
  refine lv_aload_n hx hb dL_law_2338 rfl (lv_at hl 1 rfl) ?_
  refine lv_iload hx hb dL_law_2339 (lv_at hl 5 rfl) ?_
  refine lv_iconst (v := 1) hx hb dL_law_2341 (by decide) ?_
  refine lv_iadd hx hb dL_law_2342 ?_
  refine lv_toi (y := 1) (by decide) ?_
  refine va_sld hx hb hX hbl hbA hS (by unfold vp_in; decide) dL_law_2343 ?_
  refine lv_toi (y := xs 1) (congrArg xs (by decide)) ?_
  have hPc := hP.sub (ws' := [(mm, .inr (10, [.ref w, .int 0])), (w, .inr (9, [.int 0, .int 0, .ref b2, .ref b3, .ref b4, .ref b5, .int 0, .ref b7, .ref b8, .ref b9, .ref b10, .ref b11, .ref b12, .int 0, .ref b14, .ref b15, .ref b16, .ref b17, .int 0, .ref b19, .ref b20, .ref b21, .ref b22, .ref b23, .ref b24, .ref b25, .ref b26, .ref b27, .int 0, .ref b29, .ref b30, .ref b31, .ref b32, .ref b33, .ref b34, .ref b35]))]) [0, 1] rfl
  have hDc := hD.sub (ws' := [(mm, .inr (10, [.ref w, .int 0])), (w, .inr (9, [.int 0, .int 0, .ref b2, .ref b3, .ref b4, .ref b5, .int 0, .ref b7, .ref b8, .ref b9, .ref b10, .ref b11, .ref b12, .int 0, .ref b14, .ref b15, .ref b16, .ref b17, .int 0, .ref b19, .ref b20, .ref b21, .ref b22, .ref b23, .ref b24, .ref b25, .ref b26, .ref b27, .int 0, .ref b29, .ref b30, .ref b31, .ref b32, .ref b33, .ref b34, .ref b35]))]) [0, 1] (by decide) rfl
  have hFc := va_free (wc := [(mm, .inr (10, [.ref w, .int 0])), (w, .inr (9, [.int 0, .int 0, .ref b2, .ref b3, .ref b4, .ref b5, .int 0, .ref b7, .ref b8, .ref b9, .ref b10, .ref b11, .ref b12, .int 0, .ref b14, .ref b15, .ref b16, .ref b17, .int 0, .ref b19, .ref b20, .ref b21, .ref b22, .ref b23, .ref b24, .ref b25, .ref b26, .ref b27, .int 0, .ref b29, .ref b30, .ref b31, .ref b32, .ref b33, .ref b34, .ref b35]))]) hD hS hA [0, 1] rfl
  refine va_calli (va_runV (As := [.int (xs 1)]) (rest := []) ⟨hx, hb, hml, hown, hts⟩ (m_classOf l D cI cZ cJ s.heap.size H.size mm 0 w 0 b2 b3 b4 b5 b7 b8 b9 b10 b11 b12 b14 b15 b16 b17 b19 b20 b21 b22 b23 b24 b25 b26 b27 b29 b30 b31 b32 b33 b34 b35 (xs 1)) (cwV 1 hts gL_law_X10_classOf rfl rfl rfl (by decide +kernel) ⟨(Nat.le_of_ble_eq_true rfl), (Nat.le_of_ble_eq_true rfl)⟩) ⟨Pre.blind, va_recv hK hP (ci := 10) (q0 := 0) rfl rfl, Pre.mk hPc (hDc.weaken (fun _ _ _ h => hAlo _ h)) hC hS hAlo⟩ rfl rfl hl.1 rfl (lv_room (Nat.le_of_ble_eq_true rfl)) dL_law_2344 ⟨(Nat.le_of_ble_eq_true rfl), (Nat.le_of_ble_eq_true rfl)⟩) hS (fun q _ h => hFc q h) hFc (fun r_3 u t H1 locs1 ht hvm e_4 hB hz1 hk1 hS1 => ?_)
  have hS := hS1
  refine W.widen (k := 124) (n := 42914) (by omega) (by omega) ?_
  obtain ⟨hP1, hD1⟩ := hB
  rw [ht] at hP1
  obtain ⟨hP, hD⟩ := va_join (wr := []) (w1 := [(mm, .inr (10, [.ref w, .int 1]))]) hP hD [0, 1] [] rfl rfl (by decide) (by decide) hk1 hFc hP1 hD1
  have e_4 : 0 = r_3 := Eq.symm e_4
  subst e_4
  clear hFc hPc hDc ht hvm hz1 hk1 hS1 hP1 hD1
  generalize H1 = H at hP hS ⊢
  replace hP : va_P D vwCl [(mm, .inr (10, [.ref w, .int 1]))] H := hP
  replace hD : va_D (LA s) [(mm, .inr (10, [.ref w, .int 1]))] := hD
  refine lv_istore (lv' := [(6, .int 0), (5, .int 1), (0, .ref b), (1, .ref g), (2, .ref mm), (3, .ref ou), (4, .int 0)]) hx hb dL_law_2347 hl (by decide) rfl (fun ls hl => ?_)
  refine lv_aload_n hx hb dL_law_2349 rfl (lv_at hl 4 rfl) ?_
  have hPc := hP.sub (ws' := [(mm, .inr (10, [.ref w, .int 1]))]) [0] rfl
  have hDc := hD.sub (ws' := [(mm, .inr (10, [.ref w, .int 1]))]) [0] (by decide) rfl
  refine vp_callSi (W.runV (As := []) (rest := []) ⟨hx, hb, hml, hown, hts⟩ (c_thrown l D cI cZ cJ s.heap.size H.size mm 1 w) (cwV 0 hts gL_law_X10_thrown rfl rfl rfl (by decide +kernel) ⟨(Nat.le_of_ble_eq_true rfl), (Nat.le_of_ble_eq_true rfl)⟩) ⟨Pre.blind, va_recv hK hP (ci := 10) (q0 := 0) rfl rfl, Pre.mk hPc (hDc.weaken (fun _ _ _ h => hAlo _ h)) hC hS hAlo⟩ rfl rfl hl.1 rfl (lv_room (Nat.le_of_ble_eq_true rfl)) dL_law_2350 ⟨(Nat.le_of_ble_eq_true rfl), (Nat.le_of_ble_eq_true rfl)⟩) (fun r_5 e_6 => ?_)
  clear hPc hDc
  have e_6 : 1 = r_5 := Eq.symm e_6
  subst e_6
  refine lv_iload hx hb dL_law_2353 (lv_at hl 1 rfl) ?_
  refine lv_icmp_eq (tgt := 2360) hx hb dL_law_2355 (by decide) (fun _ => ?_) (fun c9 => absurd (show (1 : Int32) = (1 : Int32) from (by decide)) c9)
  refine lv_iload hx hb dL_law_2360 (lv_at hl 1 rfl) ?_
  refine lv_if_ne (tgt := 2377) hx hb dL_law_2362 (by decide) (fun _ => ?_) (fun c9 => absurd c9 (show ¬ (1 : Int32) = (0 : Int32) from (by decide)))
  refine lv_goto (tgt := 2855) hx hb dL_law_2377 (by decide) ?_
  refine W.widen (k := 1000) (n := 200000) (Nat.le_of_ble_eq_true rfl) (Nat.le_of_ble_eq_true rfl) ?_
  exact T H _ ls hS (lv_sub hl [2, 6] rfl)

set_option maxHeartbeats 4000000 in
set_option maxRecDepth 100000 in
/-- the law at a call of punctuality -/
theorem law_punctuality {p : Program} {l : Launch} {e : Env} {s : State} {m : MethodId} {below : List Frame} {meth : Method} {c : Code} {Q : State → Prop} (hl9 : l.stackTraces = false) (D : va_G) (cI cZ cJ : ClassId) (b : Nat) (xs : Nat → Int32) (C0 : LC s p m c D cI cZ cJ b xs) (g : Nat) (nw : Nat) (la : Nat) (pn : Nat) (aI : Nat) (aS : Nat) (aP : Nat) (aL : Nat) (aO : Nat) (aT : Nat) (aA : Nat) (aQ : Nat) (aO1 : Nat) (aO2 : Nat) (aO3 : Nat) (aO4 : Nat) (aO5 : Nat) (aO6 : Nat) (aO7 : Nat) (aO8 : Nat) (aO9 : Nat) (aO10 : Nat) (mm : Nat) (w : Nat) (b2 : Nat) (b3 : Nat) (b4 : Nat) (b5 : Nat) (b7 : Nat) (b8 : Nat) (b9 : Nat) (b10 : Nat) (b11 : Nat) (b12 : Nat) (b14 : Nat) (b15 : Nat) (b16 : Nat) (b17 : Nat) (b19 : Nat) (b20 : Nat) (b21 : Nat) (b22 : Nat) (b23 : Nat) (b24 : Nat) (b25 : Nat) (b26 : Nat) (b27 : Nat) (b29 : Nat) (b30 : Nat) (b31 : Nat) (b32 : Nat) (b33 : Nat) (b34 : Nat) (b35 : Nat) (ou : Nat) (T : LT p l e s m below meth c b Q) {H : Heap} {locs : List Loc} {ls : Array Slot} (hP : va_P D vwCl [(g, .inr (8, [.ref nw, .ref la, .ref pn])), (nw, .inr (6, [.int 0, .ref aI, .ref aS, .ref aP, .ref aL, .ref aO, .ref aT, .ref aA, .ref aQ])), (aO, .inr (2, [.int 0, .ref aO1, .ref aO2, .ref aO3, .ref aO4, .ref aO5, .ref aO6, .ref aO7, .ref aO8, .ref aO9, .ref aO10])), (mm, .inr (10, [.ref w, .int 0])), (w, .inr (9, [.int 0, .int 0, .ref b2, .ref b3, .ref b4, .ref b5, .int 0, .ref b7, .ref b8, .ref b9, .ref b10, .ref b11, .ref b12, .int 0, .ref b14, .ref b15, .ref b16, .ref b17, .int 0, .ref b19, .ref b20, .ref b21, .ref b22, .ref b23, .ref b24, .ref b25, .ref b26, .ref b27, .int 0, .ref b29, .ref b30, .ref b31, .ref b32, .ref b33, .ref b34, .ref b35]))] H) (hD : va_D (LA s) [(g, .inr (8, [.ref nw, .ref la, .ref pn])), (nw, .inr (6, [.int 0, .ref aI, .ref aS, .ref aP, .ref aL, .ref aO, .ref aT, .ref aA, .ref aQ])), (aO, .inr (2, [.int 0, .ref aO1, .ref aO2, .ref aO3, .ref aO4, .ref aO5, .ref aO6, .ref aO7, .ref aO8, .ref aO9, .ref aO10])), (mm, .inr (10, [.ref w, .int 0])), (w, .inr (9, [.int 0, .int 0, .ref b2, .ref b3, .ref b4, .ref b5, .int 0, .ref b7, .ref b8, .ref b9, .ref b10, .ref b11, .ref b12, .int 0, .ref b14, .ref b15, .ref b16, .ref b17, .int 0, .ref b19, .ref b20, .ref b21, .ref b22, .ref b23, .ref b24, .ref b25, .ref b26, .ref b27, .int 0, .ref b29, .ref b30, .ref b31, .ref b32, .ref b33, .ref b34, .ref b35]))]) (hS : va_S (LA s) s.heap H locs) (hl : lv_has ls 9 [(0, .ref b), (1, .ref g), (2, .ref mm), (3, .ref ou), (4, .int 0)]) : W p l e room_1 s m #[Value.ref b] below meth c H locs 123 42908 Q (F0 m 2380 ls []) := by
  obtain ⟨hx, hb, hml, hown, hts, hX, hbl, hC⟩ := C0
  have hK := hC.K
  have hA : ∀ q : Nat, s.heap.size ≤ q → LA s q := fun _ h => h
  have hAlo : ∀ q, LA s q → s.heap.size ≤ q := fun _ h => h
  have hbA : ¬ LA s b := Nat.not_le.mpr hbl
  refine lv_aload_n hx hb dL_law_2380 rfl (lv_at hl 1 rfl) ?_
  have hPc := hP.sub (ws' := [(g, .inr (8, [.ref nw, .ref la, .ref pn])), (nw, .inr (6, [.int 0, .ref aI, .ref aS, .ref aP, .ref aL, .ref aO, .ref aT, .ref aA, .ref aQ])), (aO, .inr (2, [.int 0, .ref aO1, .ref aO2, .ref aO3, .ref aO4, .ref aO5, .ref aO6, .ref aO7, .ref aO8, .ref aO9, .ref aO10]))]) [0, 1, 2] rfl
  have hDc := hD.sub (ws' := [(g, .inr (8, [.ref nw, .ref la, .ref pn])), (nw, .inr (6, [.int 0, .ref aI, .ref aS, .ref aP, .ref aL, .ref aO, .ref aT, .ref aA, .ref aQ])), (aO, .inr (2, [.int 0, .ref aO1, .ref aO2, .ref aO3, .ref aO4, .ref aO5, .ref aO6, .ref aO7, .ref aO8, .ref aO9, .ref aO10]))]) [0, 1, 2] (by decide) rfl
  refine vp_callSd (W.runV (As := []) (rest := []) ⟨hx, hb, hml, hown, hts⟩ (c_punctuality l D cI cZ cJ s.heap.size H.size g nw la pn 0 aI aS aP aL aO aT aA aQ aO1 aO2 aO3 aO4 aO5 aO6 aO7 aO8 aO9 aO10) (cwV 0 hts gL_law_X8_punctuality rfl rfl rfl (by decide +kernel) ⟨(Nat.le_of_ble_eq_true rfl), (Nat.le_of_ble_eq_true rfl)⟩) ⟨Pre.blind, va_recv hK hP (ci := 8) (q0 := 0) rfl rfl, Pre.mk hPc (hDc.weaken (fun _ _ _ h => hAlo _ h)) hC hS hAlo⟩ rfl rfl hl.1 rfl (lv_room (Nat.le_of_ble_eq_true rfl)) dL_law_2381 ⟨(Nat.le_of_ble_eq_true rfl), (Nat.le_of_ble_eq_true rfl)⟩) (fun r_1 e_2 => ?_)
  clear hPc hDc
  have e_2 : FP.dconst1 = r_1 := Eq.symm e_2
  subst e_2
  refine lv_dstore (lv' := [(5, .double FP.dconst1), (0, .ref b), (1, .ref g), (2, .ref mm), (3, .ref ou), (4, .int 0)]) hx hb dL_law_2384 hl (by decide) rfl (fun ls hl => ?_)
  refine lv_aload_n hx hb dL_law_2386 rfl (lv_at hl 3 rfl) ?_
  have hPc := hP.sub (ws' := [(mm, .inr (10, [.ref w, .int 0])), (w, .inr (9, [.int 0, .int 0, .ref b2, .ref b3, .ref b4, .ref b5, .int 0, .ref b7, .ref b8, .ref b9, .ref b10, .ref b11, .ref b12, .int 0, .ref b14, .ref b15, .ref b16, .ref b17, .int 0, .ref b19, .ref b20, .ref b21, .ref b22, .ref b23, .ref b24, .ref b25, .ref b26, .ref b27, .int 0, .ref b29, .ref b30, .ref b31, .ref b32, .ref b33, .ref b34, .ref b35]))]) [3, 4] rfl
  have hDc := hD.sub (ws' := [(mm, .inr (10, [.ref w, .int 0])), (w, .inr (9, [.int 0, .int 0, .ref b2, .ref b3, .ref b4, .ref b5, .int 0, .ref b7, .ref b8, .ref b9, .ref b10, .ref b11, .ref b12, .int 0, .ref b14, .ref b15, .ref b16, .ref b17, .int 0, .ref b19, .ref b20, .ref b21, .ref b22, .ref b23, .ref b24, .ref b25, .ref b26, .ref b27, .int 0, .ref b29, .ref b30, .ref b31, .ref b32, .ref b33, .ref b34, .ref b35]))]) [3, 4] (by decide) rfl
  have hFc := va_free (wc := [(mm, .inr (10, [.ref w, .int 0])), (w, .inr (9, [.int 0, .int 0, .ref b2, .ref b3, .ref b4, .ref b5, .int 0, .ref b7, .ref b8, .ref b9, .ref b10, .ref b11, .ref b12, .int 0, .ref b14, .ref b15, .ref b16, .ref b17, .int 0, .ref b19, .ref b20, .ref b21, .ref b22, .ref b23, .ref b24, .ref b25, .ref b26, .ref b27, .int 0, .ref b29, .ref b30, .ref b31, .ref b32, .ref b33, .ref b34, .ref b35]))]) hD hS hA [3, 4] rfl
  refine va_calld (va_runV (As := []) (rest := []) ⟨hx, hb, hml, hown, hts⟩ (m_punctuality l D cI cZ cJ s.heap.size H.size mm 0 w 0 b2 b3 b4 b5 b7 b8 b9 b10 b11 b12 b14 b15 b16 b17 b19 b20 b21 b22 b23 b24 b25 b26 b27 b29 b30 b31 b32 b33 b34 b35) (cwV 0 hts gL_law_X10_punctuality rfl rfl rfl (by decide +kernel) ⟨(Nat.le_of_ble_eq_true rfl), (Nat.le_of_ble_eq_true rfl)⟩) ⟨Pre.blind, va_recv hK hP (ci := 10) (q0 := 3) rfl rfl, Pre.mk hPc (hDc.weaken (fun _ _ _ h => hAlo _ h)) hC hS hAlo⟩ rfl rfl hl.1 rfl (lv_room (Nat.le_of_ble_eq_true rfl)) dL_law_2387 ⟨(Nat.le_of_ble_eq_true rfl), (Nat.le_of_ble_eq_true rfl)⟩) hS (fun q _ h => hFc q h) hFc (fun r_3 u t H1 locs1 ht hvm e_4 hB hz1 hk1 hS1 => ?_)
  have hS := hS1
  refine W.widen (k := 123) (n := 42908) (by omega) (by omega) ?_
  obtain ⟨hP, hD⟩ := va_rest (wr := [(g, .inr (8, [.ref nw, .ref la, .ref pn])), (nw, .inr (6, [.int 0, .ref aI, .ref aS, .ref aP, .ref aL, .ref aO, .ref aT, .ref aA, .ref aQ])), (aO, .inr (2, [.int 0, .ref aO1, .ref aO2, .ref aO3, .ref aO4, .ref aO5, .ref aO6, .ref aO7, .ref aO8, .ref aO9, .ref aO10]))]) hP hD [3, 4] [0, 1, 2] rfl rfl (by decide) (by decide) hk1 hFc
  have e_4 : FP.dconst1 = r_3 := Eq.symm e_4
  subst e_4
  clear hFc hPc hDc ht hvm hz1 hk1 hS1 hB
  generalize H1 = H at hP hS ⊢
  replace hP : va_P D vwCl [(g, .inr (8, [.ref nw, .ref la, .ref pn])), (nw, .inr (6, [.int 0, .ref aI, .ref aS, .ref aP, .ref aL, .ref aO, .ref aT, .ref aA, .ref aQ])), (aO, .inr (2, [.int 0, .ref aO1, .ref aO2, .ref aO3, .ref aO4, .ref aO5, .ref aO6, .ref aO7, .ref aO8, .ref aO9, .ref aO10]))] H := hP
  replace hD : va_D (LA s) [(g, .inr (8, [.ref nw, .ref la, .ref pn])), (nw, .inr (6, [.int 0, .ref aI, .ref aS, .ref aP, .ref aL, .ref aO, .ref aT, .ref aA, .ref aQ])), (aO, .inr (2, [.int 0, .ref aO1, .ref aO2, .ref aO3, .ref aO4, .ref aO5, .ref aO6, .ref aO7, .ref aO8, .ref aO9, .ref aO10]))] := hD
  refine lv_dstore (lv' := [(7, .double FP.dconst1), (5, .double FP.dconst1), (0, .ref b), (1, .ref g), (2, .ref mm), (3, .ref ou), (4, .int 0)]) hx hb dL_law_2390 hl (by decide) rfl (fun ls hl => ?_)
  refine lv_dload hx hb dL_law_2392 (lv_at hl 1 rfl) ?_
  refine lv_dload hx hb dL_law_2394 (lv_at hl 0 rfl) ?_
  refine lv_dcmp hx hb dL_law_2396 ?_
  refine lv_toi (y := 0) (by decide +kernel) ?_
  refine lv_if_eq (tgt := 2418) hx hb dL_law_2397 (by decide) (fun _ => ?_) (fun c9 => absurd (show (0 : Int32) = (0 : Int32) from (by decide)) c9)
  refine lv_goto (tgt := 2855) hx hb dL_law_2418 (by decide) ?_
  refine W.widen (k := 1000) (n := 200000) (Nat.le_of_ble_eq_true rfl) (Nat.le_of_ble_eq_true rfl) ?_
  exact T H _ ls hS (lv_sub hl [2, 6] rfl)

set_option maxHeartbeats 4000000 in
set_option maxRecDepth 100000 in
/-- the law at a call of lacks -/
theorem law_lacks {p : Program} {l : Launch} {e : Env} {s : State} {m : MethodId} {below : List Frame} {meth : Method} {c : Code} {Q : State → Prop} (hl9 : l.stackTraces = false) (D : va_G) (cI cZ cJ : ClassId) (b : Nat) (xs : Nat → Int32) (C0 : LC s p m c D cI cZ cJ b xs) (g : Nat) (nw : Nat) (la : Nat) (pn : Nat) (aI : Nat) (aS : Nat) (aP : Nat) (aL : Nat) (aO : Nat) (aT : Nat) (aA : Nat) (aQ : Nat) (aI1 : Nat) (aI2 : Nat) (aI3 : Nat) (aI4 : Nat) (mm : Nat) (w : Nat) (b2 : Nat) (b3 : Nat) (b4 : Nat) (b5 : Nat) (b7 : Nat) (b8 : Nat) (b9 : Nat) (b10 : Nat) (b11 : Nat) (b12 : Nat) (b14 : Nat) (b15 : Nat) (b16 : Nat) (b17 : Nat) (b19 : Nat) (b20 : Nat) (b21 : Nat) (b22 : Nat) (b23 : Nat) (b24 : Nat) (b25 : Nat) (b26 : Nat) (b27 : Nat) (b29 : Nat) (b30 : Nat) (b31 : Nat) (b32 : Nat) (b33 : Nat) (b34 : Nat) (b35 : Nat) (ou : Nat) (T : LT p l e s m below meth c b Q) {H : Heap} {locs : List Loc} {ls : Array Slot} (hP : va_P D vwCl [(g, .inr (8, [.ref nw, .ref la, .ref pn])), (nw, .inr (6, [.int 0, .ref aI, .ref aS, .ref aP, .ref aL, .ref aO, .ref aT, .ref aA, .ref aQ])), (aI, .inr (0, [.int 0, .ref aI1, .ref aI2, .ref aI3, .ref aI4])), (mm, .inr (10, [.ref w, .int 0])), (w, .inr (9, [.int 0, .int 0, .ref b2, .ref b3, .ref b4, .ref b5, .int 0, .ref b7, .ref b8, .ref b9, .ref b10, .ref b11, .ref b12, .int 0, .ref b14, .ref b15, .ref b16, .ref b17, .int 0, .ref b19, .ref b20, .ref b21, .ref b22, .ref b23, .ref b24, .ref b25, .ref b26, .ref b27, .int 0, .ref b29, .ref b30, .ref b31, .ref b32, .ref b33, .ref b34, .ref b35]))] H) (hD : va_D (LA s) [(g, .inr (8, [.ref nw, .ref la, .ref pn])), (nw, .inr (6, [.int 0, .ref aI, .ref aS, .ref aP, .ref aL, .ref aO, .ref aT, .ref aA, .ref aQ])), (aI, .inr (0, [.int 0, .ref aI1, .ref aI2, .ref aI3, .ref aI4])), (mm, .inr (10, [.ref w, .int 0])), (w, .inr (9, [.int 0, .int 0, .ref b2, .ref b3, .ref b4, .ref b5, .int 0, .ref b7, .ref b8, .ref b9, .ref b10, .ref b11, .ref b12, .int 0, .ref b14, .ref b15, .ref b16, .ref b17, .int 0, .ref b19, .ref b20, .ref b21, .ref b22, .ref b23, .ref b24, .ref b25, .ref b26, .ref b27, .int 0, .ref b29, .ref b30, .ref b31, .ref b32, .ref b33, .ref b34, .ref b35]))]) (hS : va_S (LA s) s.heap H locs) (hl : lv_has ls 9 [(0, .ref b), (1, .ref g), (2, .ref mm), (3, .ref ou), (4, .int 0)]) : W p l e room_1 s m #[Value.ref b] below meth c H locs 123 42908 Q (F0 m 2421 ls []) := by
  obtain ⟨hx, hb, hml, hown, hts, hX, hbl, hC⟩ := C0
  have hK := hC.K
  have hA : ∀ q : Nat, s.heap.size ≤ q → LA s q := fun _ h => h
  have hAlo : ∀ q, LA s q → s.heap.size ≤ q := fun _ h => h
  have hbA : ¬ LA s b := Nat.not_le.mpr hbl
  refine lv_aload_n hx hb dL_law_2421 rfl (lv_at hl 1 rfl) ?_
  refine lv_aload_n hx hb dL_law_2422 rfl (lv_at hl 0 rfl) ?_
  refine lv_iload hx hb dL_law_2423 (lv_at hl 4 rfl) ?_
  refine lv_iconst (v := 1) hx hb dL_law_2425 (by decide) ?_
  refine lv_iadd hx hb dL_law_2426 ?_
  refine lv_toi (y := 1) (by decide) ?_
  refine va_sld hx hb hX hbl hbA hS (by unfold vp_in; decide) dL_law_2427 ?_
  refine lv_toi (y := xs 1) (congrArg xs (by decide)) ?_
  refine lv_aload_n hx hb dL_law_2428 rfl (lv_at hl 0 rfl) ?_
  refine lv_iload hx hb dL_law_2429 (lv_at hl 4 rfl) ?_
  refine lv_iconst (v := 2) hx hb dL_law_2431 (by decide) ?_
  refine lv_iadd hx hb dL_law_2432 ?_
  refine lv_toi (y := 2) (by decide) ?_
  refine va_sld hx hb hX hbl hbA hS (by unfold vp_in; decide) dL_law_2433 ?_
  refine lv_toi (y := xs 2) (congrArg xs (by decide)) ?_
  refine lv_aload_n hx hb dL_law_2434 rfl (lv_at hl 3 rfl) ?_
  have hPc := hP.sub (ws' := [(g, .inr (8, [.ref nw, .ref la, .ref pn])), (nw, .inr (6, [.int 0, .ref aI, .ref aS, .ref aP, .ref aL, .ref aO, .ref aT, .ref aA, .ref aQ])), (aI, .inr (0, [.int 0, .ref aI1, .ref aI2, .ref aI3, .ref aI4]))]) [0, 1, 2] rfl
  have hDc := hD.sub (ws' := [(g, .inr (8, [.ref nw, .ref la, .ref pn])), (nw, .inr (6, [.int 0, .ref aI, .ref aS, .ref aP, .ref aL, .ref aO, .ref aT, .ref aA, .ref aQ])), (aI, .inr (0, [.int 0, .ref aI1, .ref aI2, .ref aI3, .ref aI4]))]) [0, 1, 2] (by decide) rfl
  have hFc := va_free (wc := [(g, .inr (8, [.ref nw, .ref la, .ref pn])), (nw, .inr (6, [.int 0, .ref aI, .ref aS, .ref aP, .ref aL, .ref aO, .ref aT, .ref aA, .ref aQ])), (aI, .inr (0, [.int 0, .ref aI1, .ref aI2, .ref aI3, .ref aI4]))]) hD hS hA [0, 1, 2] rfl
  refine va_calli (vx_runSW (As := [.ref g, .int (xs 1), .int (xs 2), .ref ou]) (rest := []) ⟨hx, hb, hml, hown, hts⟩ (h_lacks l hl9 D cI cZ cJ s.heap.size H.size g nw la pn 0 aI aS aP aL aO aT aA aQ aI1 aI2 aI3 aI4 (xs 1) (xs 2) ou) (vx_cwSW 4 hts gL_law_L_lacks rfl rfl rfl (by decide +kernel) ⟨(Nat.le_of_ble_eq_true rfl), (Nat.le_of_ble_eq_true rfl)⟩) ⟨Pre.blind, Pre.mk hPc (hDc.weaken (fun _ _ _ h => hAlo _ h)) hC hS hAlo⟩ rfl rfl hl.1 rfl (lv_room (Nat.le_of_ble_eq_true rfl)) dL_law_2435 ⟨(Nat.le_of_ble_eq_true rfl), (Nat.le_of_ble_eq_true rfl)⟩) hS (fun q _ h => hFc q h) hFc (fun r_1 u t H1 locs1 ht hvm e_2 hB hz1 hk1 hS1 => ?_)
  have hS := hS1
  refine W.widen (k := 124) (n := 42914) (by omega) (by omega) ?_
  obtain ⟨hP, hD⟩ := va_rest (wr := [(mm, .inr (10, [.ref w, .int 0])), (w, .inr (9, [.int 0, .int 0, .ref b2, .ref b3, .ref b4, .ref b5, .int 0, .ref b7, .ref b8, .ref b9, .ref b10, .ref b11, .ref b12, .int 0, .ref b14, .ref b15, .ref b16, .ref b17, .int 0, .ref b19, .ref b20, .ref b21, .ref b22, .ref b23, .ref b24, .ref b25, .ref b26, .ref b27, .int 0, .ref b29, .ref b30, .ref b31, .ref b32, .ref b33, .ref b34, .ref b35]))]) hP hD [0, 1, 2] [3, 4] rfl rfl (by decide) (by decide) hk1 hFc
  have e_2 : 1 = r_1 := Eq.symm e_2
  subst e_2
  clear hFc hPc hDc ht hvm hz1 hk1 hS1 hB
  generalize H1 = H at hP hS ⊢
  replace hP : va_P D vwCl [(mm, .inr (10, [.ref w, .int 0])), (w, .inr (9, [.int 0, .int 0, .ref b2, .ref b3, .ref b4, .ref b5, .int 0, .ref b7, .ref b8, .ref b9, .ref b10, .ref b11, .ref b12, .int 0, .ref b14, .ref b15, .ref b16, .ref b17, .int 0, .ref b19, .ref b20, .ref b21, .ref b22, .ref b23, .ref b24, .ref b25, .ref b26, .ref b27, .int 0, .ref b29, .ref b30, .ref b31, .ref b32, .ref b33, .ref b34, .ref b35]))] H := hP
  replace hD : va_D (LA s) [(mm, .inr (10, [.ref w, .int 0])), (w, .inr (9, [.int 0, .int 0, .ref b2, .ref b3, .ref b4, .ref b5, .int 0, .ref b7, .ref b8, .ref b9, .ref b10, .ref b11, .ref b12, .int 0, .ref b14, .ref b15, .ref b16, .ref b17, .int 0, .ref b19, .ref b20, .ref b21, .ref b22, .ref b23, .ref b24, .ref b25, .ref b26, .ref b27, .int 0, .ref b29, .ref b30, .ref b31, .ref b32, .ref b33, .ref b34, .ref b35]))] := hD
  refine lv_istore (lv' := [(5, .int 1), (0, .ref b), (1, .ref g), (2, .ref mm), (3, .ref ou), (4, .int 0)]) hx hb dL_law_2438 hl (by decide) rfl (fun ls hl => ?_)
  refine lv_aload_n hx hb dL_law_2440 rfl (lv_at hl 3 rfl) ?_
  refine lv_aload_n hx hb dL_law_2441 rfl (lv_at hl 1 rfl) ?_
  refine lv_iload hx hb dL_law_2442 (lv_at hl 5 rfl) ?_
  refine lv_iconst (v := 1) hx hb dL_law_2444 (by decide) ?_
  refine lv_iadd hx hb dL_law_2445 ?_
  refine lv_toi (y := 1) (by decide) ?_
  refine va_sld hx hb hX hbl hbA hS (by unfold vp_in; decide) dL_law_2446 ?_
  refine lv_toi (y := xs 1) (congrArg xs (by decide)) ?_
  refine lv_aload_n hx hb dL_law_2447 rfl (lv_at hl 1 rfl) ?_
  refine lv_iload hx hb dL_law_2448 (lv_at hl 5 rfl) ?_
  refine lv_iconst (v := 2) hx hb dL_law_2450 (by decide) ?_
  refine lv_iadd hx hb dL_law_2451 ?_
  refine lv_toi (y := 2) (by decide) ?_
  refine va_sld hx hb hX hbl hbA hS (by unfold vp_in; decide) dL_law_2452 ?_
  refine lv_toi (y := xs 2) (congrArg xs (by decide)) ?_
  have hPc := hP.sub (ws' := [(mm, .inr (10, [.ref w, .int 0])), (w, .inr (9, [.int 0, .int 0, .ref b2, .ref b3, .ref b4, .ref b5, .int 0, .ref b7, .ref b8, .ref b9, .ref b10, .ref b11, .ref b12, .int 0, .ref b14, .ref b15, .ref b16, .ref b17, .int 0, .ref b19, .ref b20, .ref b21, .ref b22, .ref b23, .ref b24, .ref b25, .ref b26, .ref b27, .int 0, .ref b29, .ref b30, .ref b31, .ref b32, .ref b33, .ref b34, .ref b35]))]) [0, 1] rfl
  have hDc := hD.sub (ws' := [(mm, .inr (10, [.ref w, .int 0])), (w, .inr (9, [.int 0, .int 0, .ref b2, .ref b3, .ref b4, .ref b5, .int 0, .ref b7, .ref b8, .ref b9, .ref b10, .ref b11, .ref b12, .int 0, .ref b14, .ref b15, .ref b16, .ref b17, .int 0, .ref b19, .ref b20, .ref b21, .ref b22, .ref b23, .ref b24, .ref b25, .ref b26, .ref b27, .int 0, .ref b29, .ref b30, .ref b31, .ref b32, .ref b33, .ref b34, .ref b35]))]) [0, 1] (by decide) rfl
  have hFc := va_free (wc := [(mm, .inr (10, [.ref w, .int 0])), (w, .inr (9, [.int 0, .int 0, .ref b2, .ref b3, .ref b4, .ref b5, .int 0, .ref b7, .ref b8, .ref b9, .ref b10, .ref b11, .ref b12, .int 0, .ref b14, .ref b15, .ref b16, .ref b17, .int 0, .ref b19, .ref b20, .ref b21, .ref b22, .ref b23, .ref b24, .ref b25, .ref b26, .ref b27, .int 0, .ref b29, .ref b30, .ref b31, .ref b32, .ref b33, .ref b34, .ref b35]))]) hD hS hA [0, 1] rfl
  refine va_calli (va_runV (As := [.int (xs 1), .int (xs 2)]) (rest := []) ⟨hx, hb, hml, hown, hts⟩ (m_lacks l D cI cZ cJ s.heap.size H.size mm 0 w 0 b2 b3 b4 b5 b7 b8 b9 b10 b11 b12 b14 b15 b16 b17 b19 b20 b21 b22 b23 b24 b25 b26 b27 b29 b30 b31 b32 b33 b34 b35 (xs 1) (xs 2)) (cwV 2 hts gL_law_X10_lacks rfl rfl rfl (by decide +kernel) ⟨(Nat.le_of_ble_eq_true rfl), (Nat.le_of_ble_eq_true rfl)⟩) ⟨Pre.blind, va_recv hK hP (ci := 10) (q0 := 0) rfl rfl, Pre.mk hPc (hDc.weaken (fun _ _ _ h => hAlo _ h)) hC hS hAlo⟩ rfl rfl hl.1 rfl (lv_room (Nat.le_of_ble_eq_true rfl)) dL_law_2453 ⟨(Nat.le_of_ble_eq_true rfl), (Nat.le_of_ble_eq_true rfl)⟩) hS (fun q _ h => hFc q h) hFc (fun r_3 u t H1 locs1 ht hvm e_4 hB hz1 hk1 hS1 => ?_)
  have hS := hS1
  refine W.widen (k := 124) (n := 42914) (by omega) (by omega) ?_
  obtain ⟨hP1, hD1⟩ := hB
  rw [ht] at hP1
  obtain ⟨hP, hD⟩ := va_join (wr := []) (w1 := [(mm, .inr (10, [.ref w, .int 1]))]) hP hD [0, 1] [] rfl rfl (by decide) (by decide) hk1 hFc hP1 hD1
  have e_4 : 0 = r_3 := Eq.symm e_4
  subst e_4
  clear hFc hPc hDc ht hvm hz1 hk1 hS1 hP1 hD1
  generalize H1 = H at hP hS ⊢
  replace hP : va_P D vwCl [(mm, .inr (10, [.ref w, .int 1]))] H := hP
  replace hD : va_D (LA s) [(mm, .inr (10, [.ref w, .int 1]))] := hD
  refine lv_istore (lv' := [(6, .int 0), (5, .int 1), (0, .ref b), (1, .ref g), (2, .ref mm), (3, .ref ou), (4, .int 0)]) hx hb dL_law_2456 hl (by decide) rfl (fun ls hl => ?_)
  refine lv_aload_n hx hb dL_law_2458 rfl (lv_at hl 4 rfl) ?_
  have hPc := hP.sub (ws' := [(mm, .inr (10, [.ref w, .int 1]))]) [0] rfl
  have hDc := hD.sub (ws' := [(mm, .inr (10, [.ref w, .int 1]))]) [0] (by decide) rfl
  refine vp_callSi (W.runV (As := []) (rest := []) ⟨hx, hb, hml, hown, hts⟩ (c_thrown l D cI cZ cJ s.heap.size H.size mm 1 w) (cwV 0 hts gL_law_X10_thrown rfl rfl rfl (by decide +kernel) ⟨(Nat.le_of_ble_eq_true rfl), (Nat.le_of_ble_eq_true rfl)⟩) ⟨Pre.blind, va_recv hK hP (ci := 10) (q0 := 0) rfl rfl, Pre.mk hPc (hDc.weaken (fun _ _ _ h => hAlo _ h)) hC hS hAlo⟩ rfl rfl hl.1 rfl (lv_room (Nat.le_of_ble_eq_true rfl)) dL_law_2459 ⟨(Nat.le_of_ble_eq_true rfl), (Nat.le_of_ble_eq_true rfl)⟩) (fun r_5 e_6 => ?_)
  clear hPc hDc
  have e_6 : 1 = r_5 := Eq.symm e_6
  subst e_6
  refine lv_iload hx hb dL_law_2462 (lv_at hl 1 rfl) ?_
  refine lv_icmp_eq (tgt := 2469) hx hb dL_law_2464 (by decide) (fun _ => ?_) (fun c9 => absurd (show (1 : Int32) = (1 : Int32) from (by decide)) c9)
  refine lv_iload hx hb dL_law_2469 (lv_at hl 1 rfl) ?_
  refine lv_if_ne (tgt := 2486) hx hb dL_law_2471 (by decide) (fun _ => ?_) (fun c9 => absurd c9 (show ¬ (1 : Int32) = (0 : Int32) from (by decide)))
  refine lv_goto (tgt := 2855) hx hb dL_law_2486 (by decide) ?_
  refine W.widen (k := 1000) (n := 200000) (Nat.le_of_ble_eq_true rfl) (Nat.le_of_ble_eq_true rfl) ?_
  exact T H _ ls hS (lv_sub hl [2, 6] rfl)

set_option maxHeartbeats 4000000 in
set_option maxRecDepth 100000 in
/-- the law at a call of spares -/
theorem law_spares {p : Program} {l : Launch} {e : Env} {s : State} {m : MethodId} {below : List Frame} {meth : Method} {c : Code} {Q : State → Prop} (hl9 : l.stackTraces = false) (D : va_G) (cI cZ cJ : ClassId) (b : Nat) (xs : Nat → Int32) (C0 : LC s p m c D cI cZ cJ b xs) (g : Nat) (nw : Nat) (la : Nat) (pn : Nat) (aI : Nat) (aS : Nat) (aP : Nat) (aL : Nat) (aO : Nat) (aT : Nat) (aA : Nat) (aQ : Nat) (aI1 : Nat) (aI2 : Nat) (aI3 : Nat) (aI4 : Nat) (mm : Nat) (w : Nat) (b2 : Nat) (b3 : Nat) (b4 : Nat) (b5 : Nat) (b7 : Nat) (b8 : Nat) (b9 : Nat) (b10 : Nat) (b11 : Nat) (b12 : Nat) (b14 : Nat) (b15 : Nat) (b16 : Nat) (b17 : Nat) (b19 : Nat) (b20 : Nat) (b21 : Nat) (b22 : Nat) (b23 : Nat) (b24 : Nat) (b25 : Nat) (b26 : Nat) (b27 : Nat) (b29 : Nat) (b30 : Nat) (b31 : Nat) (b32 : Nat) (b33 : Nat) (b34 : Nat) (b35 : Nat) (ou : Nat) (T : LT p l e s m below meth c b Q) {H : Heap} {locs : List Loc} {ls : Array Slot} (hP : va_P D vwCl [(g, .inr (8, [.ref nw, .ref la, .ref pn])), (nw, .inr (6, [.int 0, .ref aI, .ref aS, .ref aP, .ref aL, .ref aO, .ref aT, .ref aA, .ref aQ])), (aI, .inr (0, [.int 0, .ref aI1, .ref aI2, .ref aI3, .ref aI4])), (mm, .inr (10, [.ref w, .int 0])), (w, .inr (9, [.int 0, .int 0, .ref b2, .ref b3, .ref b4, .ref b5, .int 0, .ref b7, .ref b8, .ref b9, .ref b10, .ref b11, .ref b12, .int 0, .ref b14, .ref b15, .ref b16, .ref b17, .int 0, .ref b19, .ref b20, .ref b21, .ref b22, .ref b23, .ref b24, .ref b25, .ref b26, .ref b27, .int 0, .ref b29, .ref b30, .ref b31, .ref b32, .ref b33, .ref b34, .ref b35]))] H) (hD : va_D (LA s) [(g, .inr (8, [.ref nw, .ref la, .ref pn])), (nw, .inr (6, [.int 0, .ref aI, .ref aS, .ref aP, .ref aL, .ref aO, .ref aT, .ref aA, .ref aQ])), (aI, .inr (0, [.int 0, .ref aI1, .ref aI2, .ref aI3, .ref aI4])), (mm, .inr (10, [.ref w, .int 0])), (w, .inr (9, [.int 0, .int 0, .ref b2, .ref b3, .ref b4, .ref b5, .int 0, .ref b7, .ref b8, .ref b9, .ref b10, .ref b11, .ref b12, .int 0, .ref b14, .ref b15, .ref b16, .ref b17, .int 0, .ref b19, .ref b20, .ref b21, .ref b22, .ref b23, .ref b24, .ref b25, .ref b26, .ref b27, .int 0, .ref b29, .ref b30, .ref b31, .ref b32, .ref b33, .ref b34, .ref b35]))]) (hS : va_S (LA s) s.heap H locs) (hl : lv_has ls 9 [(0, .ref b), (1, .ref g), (2, .ref mm), (3, .ref ou), (4, .int 0)]) : W p l e room_1 s m #[Value.ref b] below meth c H locs 123 42908 Q (F0 m 2489 ls []) := by
  obtain ⟨hx, hb, hml, hown, hts, hX, hbl, hC⟩ := C0
  have hK := hC.K
  have hA : ∀ q : Nat, s.heap.size ≤ q → LA s q := fun _ h => h
  have hAlo : ∀ q, LA s q → s.heap.size ≤ q := fun _ h => h
  have hbA : ¬ LA s b := Nat.not_le.mpr hbl
  refine lv_aload_n hx hb dL_law_2489 rfl (lv_at hl 1 rfl) ?_
  refine lv_aload_n hx hb dL_law_2490 rfl (lv_at hl 0 rfl) ?_
  refine lv_iload hx hb dL_law_2491 (lv_at hl 4 rfl) ?_
  refine lv_iconst (v := 1) hx hb dL_law_2493 (by decide) ?_
  refine lv_iadd hx hb dL_law_2494 ?_
  refine lv_toi (y := 1) (by decide) ?_
  refine va_sld hx hb hX hbl hbA hS (by unfold vp_in; decide) dL_law_2495 ?_
  refine lv_toi (y := xs 1) (congrArg xs (by decide)) ?_
  refine lv_aload_n hx hb dL_law_2496 rfl (lv_at hl 0 rfl) ?_
  refine lv_iload hx hb dL_law_2497 (lv_at hl 4 rfl) ?_
  refine lv_iconst (v := 2) hx hb dL_law_2499 (by decide) ?_
  refine lv_iadd hx hb dL_law_2500 ?_
  refine lv_toi (y := 2) (by decide) ?_
  refine va_sld hx hb hX hbl hbA hS (by unfold vp_in; decide) dL_law_2501 ?_
  refine lv_toi (y := xs 2) (congrArg xs (by decide)) ?_
  refine lv_aload_n hx hb dL_law_2502 rfl (lv_at hl 3 rfl) ?_
  have hPc := hP.sub (ws' := [(g, .inr (8, [.ref nw, .ref la, .ref pn])), (nw, .inr (6, [.int 0, .ref aI, .ref aS, .ref aP, .ref aL, .ref aO, .ref aT, .ref aA, .ref aQ])), (aI, .inr (0, [.int 0, .ref aI1, .ref aI2, .ref aI3, .ref aI4]))]) [0, 1, 2] rfl
  have hDc := hD.sub (ws' := [(g, .inr (8, [.ref nw, .ref la, .ref pn])), (nw, .inr (6, [.int 0, .ref aI, .ref aS, .ref aP, .ref aL, .ref aO, .ref aT, .ref aA, .ref aQ])), (aI, .inr (0, [.int 0, .ref aI1, .ref aI2, .ref aI3, .ref aI4]))]) [0, 1, 2] (by decide) rfl
  have hFc := va_free (wc := [(g, .inr (8, [.ref nw, .ref la, .ref pn])), (nw, .inr (6, [.int 0, .ref aI, .ref aS, .ref aP, .ref aL, .ref aO, .ref aT, .ref aA, .ref aQ])), (aI, .inr (0, [.int 0, .ref aI1, .ref aI2, .ref aI3, .ref aI4]))]) hD hS hA [0, 1, 2] rfl
  refine va_calli (vx_runSW (As := [.ref g, .int (xs 1), .int (xs 2), .ref ou]) (rest := []) ⟨hx, hb, hml, hown, hts⟩ (h_spares l hl9 D cI cZ cJ s.heap.size H.size g nw la pn 0 aI aS aP aL aO aT aA aQ aI1 aI2 aI3 aI4 (xs 1) (xs 2) ou) (vx_cwSW 4 hts gL_law_L_spares rfl rfl rfl (by decide +kernel) ⟨(Nat.le_of_ble_eq_true rfl), (Nat.le_of_ble_eq_true rfl)⟩) ⟨Pre.blind, Pre.mk hPc (hDc.weaken (fun _ _ _ h => hAlo _ h)) hC hS hAlo⟩ rfl rfl hl.1 rfl (lv_room (Nat.le_of_ble_eq_true rfl)) dL_law_2503 ⟨(Nat.le_of_ble_eq_true rfl), (Nat.le_of_ble_eq_true rfl)⟩) hS (fun q _ h => hFc q h) hFc (fun r_1 u t H1 locs1 ht hvm e_2 hB hz1 hk1 hS1 => ?_)
  have hS := hS1
  refine W.widen (k := 124) (n := 42914) (by omega) (by omega) ?_
  obtain ⟨hP, hD⟩ := va_rest (wr := [(mm, .inr (10, [.ref w, .int 0])), (w, .inr (9, [.int 0, .int 0, .ref b2, .ref b3, .ref b4, .ref b5, .int 0, .ref b7, .ref b8, .ref b9, .ref b10, .ref b11, .ref b12, .int 0, .ref b14, .ref b15, .ref b16, .ref b17, .int 0, .ref b19, .ref b20, .ref b21, .ref b22, .ref b23, .ref b24, .ref b25, .ref b26, .ref b27, .int 0, .ref b29, .ref b30, .ref b31, .ref b32, .ref b33, .ref b34, .ref b35]))]) hP hD [0, 1, 2] [3, 4] rfl rfl (by decide) (by decide) hk1 hFc
  have e_2 : 1 = r_1 := Eq.symm e_2
  subst e_2
  clear hFc hPc hDc ht hvm hz1 hk1 hS1 hB
  generalize H1 = H at hP hS ⊢
  replace hP : va_P D vwCl [(mm, .inr (10, [.ref w, .int 0])), (w, .inr (9, [.int 0, .int 0, .ref b2, .ref b3, .ref b4, .ref b5, .int 0, .ref b7, .ref b8, .ref b9, .ref b10, .ref b11, .ref b12, .int 0, .ref b14, .ref b15, .ref b16, .ref b17, .int 0, .ref b19, .ref b20, .ref b21, .ref b22, .ref b23, .ref b24, .ref b25, .ref b26, .ref b27, .int 0, .ref b29, .ref b30, .ref b31, .ref b32, .ref b33, .ref b34, .ref b35]))] H := hP
  replace hD : va_D (LA s) [(mm, .inr (10, [.ref w, .int 0])), (w, .inr (9, [.int 0, .int 0, .ref b2, .ref b3, .ref b4, .ref b5, .int 0, .ref b7, .ref b8, .ref b9, .ref b10, .ref b11, .ref b12, .int 0, .ref b14, .ref b15, .ref b16, .ref b17, .int 0, .ref b19, .ref b20, .ref b21, .ref b22, .ref b23, .ref b24, .ref b25, .ref b26, .ref b27, .int 0, .ref b29, .ref b30, .ref b31, .ref b32, .ref b33, .ref b34, .ref b35]))] := hD
  refine lv_istore (lv' := [(5, .int 1), (0, .ref b), (1, .ref g), (2, .ref mm), (3, .ref ou), (4, .int 0)]) hx hb dL_law_2506 hl (by decide) rfl (fun ls hl => ?_)
  refine lv_aload_n hx hb dL_law_2508 rfl (lv_at hl 3 rfl) ?_
  refine lv_aload_n hx hb dL_law_2509 rfl (lv_at hl 1 rfl) ?_
  refine lv_iload hx hb dL_law_2510 (lv_at hl 5 rfl) ?_
  refine lv_iconst (v := 1) hx hb dL_law_2512 (by decide) ?_
  refine lv_iadd hx hb dL_law_2513 ?_
  refine lv_toi (y := 1) (by decide) ?_
  refine va_sld hx hb hX hbl hbA hS (by unfold vp_in; decide) dL_law_2514 ?_
  refine lv_toi (y := xs 1) (congrArg xs (by decide)) ?_
  refine lv_aload_n hx hb dL_law_2515 rfl (lv_at hl 1 rfl) ?_
  refine lv_iload hx hb dL_law_2516 (lv_at hl 5 rfl) ?_
  refine lv_iconst (v := 2) hx hb dL_law_2518 (by decide) ?_
  refine lv_iadd hx hb dL_law_2519 ?_
  refine lv_toi (y := 2) (by decide) ?_
  refine va_sld hx hb hX hbl hbA hS (by unfold vp_in; decide) dL_law_2520 ?_
  refine lv_toi (y := xs 2) (congrArg xs (by decide)) ?_
  have hPc := hP.sub (ws' := [(mm, .inr (10, [.ref w, .int 0])), (w, .inr (9, [.int 0, .int 0, .ref b2, .ref b3, .ref b4, .ref b5, .int 0, .ref b7, .ref b8, .ref b9, .ref b10, .ref b11, .ref b12, .int 0, .ref b14, .ref b15, .ref b16, .ref b17, .int 0, .ref b19, .ref b20, .ref b21, .ref b22, .ref b23, .ref b24, .ref b25, .ref b26, .ref b27, .int 0, .ref b29, .ref b30, .ref b31, .ref b32, .ref b33, .ref b34, .ref b35]))]) [0, 1] rfl
  have hDc := hD.sub (ws' := [(mm, .inr (10, [.ref w, .int 0])), (w, .inr (9, [.int 0, .int 0, .ref b2, .ref b3, .ref b4, .ref b5, .int 0, .ref b7, .ref b8, .ref b9, .ref b10, .ref b11, .ref b12, .int 0, .ref b14, .ref b15, .ref b16, .ref b17, .int 0, .ref b19, .ref b20, .ref b21, .ref b22, .ref b23, .ref b24, .ref b25, .ref b26, .ref b27, .int 0, .ref b29, .ref b30, .ref b31, .ref b32, .ref b33, .ref b34, .ref b35]))]) [0, 1] (by decide) rfl
  have hFc := va_free (wc := [(mm, .inr (10, [.ref w, .int 0])), (w, .inr (9, [.int 0, .int 0, .ref b2, .ref b3, .ref b4, .ref b5, .int 0, .ref b7, .ref b8, .ref b9, .ref b10, .ref b11, .ref b12, .int 0, .ref b14, .ref b15, .ref b16, .ref b17, .int 0, .ref b19, .ref b20, .ref b21, .ref b22, .ref b23, .ref b24, .ref b25, .ref b26, .ref b27, .int 0, .ref b29, .ref b30, .ref b31, .ref b32, .ref b33, .ref b34, .ref b35]))]) hD hS hA [0, 1] rfl
  refine va_calli (va_runV (As := [.int (xs 1), .int (xs 2)]) (rest := []) ⟨hx, hb, hml, hown, hts⟩ (m_spares l D cI cZ cJ s.heap.size H.size mm 0 w 0 b2 b3 b4 b5 b7 b8 b9 b10 b11 b12 b14 b15 b16 b17 b19 b20 b21 b22 b23 b24 b25 b26 b27 b29 b30 b31 b32 b33 b34 b35 (xs 1) (xs 2)) (cwV 2 hts gL_law_X10_spares rfl rfl rfl (by decide +kernel) ⟨(Nat.le_of_ble_eq_true rfl), (Nat.le_of_ble_eq_true rfl)⟩) ⟨Pre.blind, va_recv hK hP (ci := 10) (q0 := 0) rfl rfl, Pre.mk hPc (hDc.weaken (fun _ _ _ h => hAlo _ h)) hC hS hAlo⟩ rfl rfl hl.1 rfl (lv_room (Nat.le_of_ble_eq_true rfl)) dL_law_2521 ⟨(Nat.le_of_ble_eq_true rfl), (Nat.le_of_ble_eq_true rfl)⟩) hS (fun q _ h => hFc q h) hFc (fun r_3 u t H1 locs1 ht hvm e_4 hB hz1 hk1 hS1 => ?_)
  have hS := hS1
  refine W.widen (k := 124) (n := 42914) (by omega) (by omega) ?_
  obtain ⟨hP1, hD1⟩ := hB
  rw [ht] at hP1
  obtain ⟨hP, hD⟩ := va_join (wr := []) (w1 := [(mm, .inr (10, [.ref w, .int 1]))]) hP hD [0, 1] [] rfl rfl (by decide) (by decide) hk1 hFc hP1 hD1
  have e_4 : 0 = r_3 := Eq.symm e_4
  subst e_4
  clear hFc hPc hDc ht hvm hz1 hk1 hS1 hP1 hD1
  generalize H1 = H at hP hS ⊢
  replace hP : va_P D vwCl [(mm, .inr (10, [.ref w, .int 1]))] H := hP
  replace hD : va_D (LA s) [(mm, .inr (10, [.ref w, .int 1]))] := hD
  refine lv_istore (lv' := [(6, .int 0), (5, .int 1), (0, .ref b), (1, .ref g), (2, .ref mm), (3, .ref ou), (4, .int 0)]) hx hb dL_law_2524 hl (by decide) rfl (fun ls hl => ?_)
  refine lv_aload_n hx hb dL_law_2526 rfl (lv_at hl 4 rfl) ?_
  have hPc := hP.sub (ws' := [(mm, .inr (10, [.ref w, .int 1]))]) [0] rfl
  have hDc := hD.sub (ws' := [(mm, .inr (10, [.ref w, .int 1]))]) [0] (by decide) rfl
  refine vp_callSi (W.runV (As := []) (rest := []) ⟨hx, hb, hml, hown, hts⟩ (c_thrown l D cI cZ cJ s.heap.size H.size mm 1 w) (cwV 0 hts gL_law_X10_thrown rfl rfl rfl (by decide +kernel) ⟨(Nat.le_of_ble_eq_true rfl), (Nat.le_of_ble_eq_true rfl)⟩) ⟨Pre.blind, va_recv hK hP (ci := 10) (q0 := 0) rfl rfl, Pre.mk hPc (hDc.weaken (fun _ _ _ h => hAlo _ h)) hC hS hAlo⟩ rfl rfl hl.1 rfl (lv_room (Nat.le_of_ble_eq_true rfl)) dL_law_2527 ⟨(Nat.le_of_ble_eq_true rfl), (Nat.le_of_ble_eq_true rfl)⟩) (fun r_5 e_6 => ?_)
  clear hPc hDc
  have e_6 : 1 = r_5 := Eq.symm e_6
  subst e_6
  refine lv_iload hx hb dL_law_2530 (lv_at hl 1 rfl) ?_
  refine lv_icmp_eq (tgt := 2537) hx hb dL_law_2532 (by decide) (fun _ => ?_) (fun c9 => absurd (show (1 : Int32) = (1 : Int32) from (by decide)) c9)
  refine lv_iload hx hb dL_law_2537 (lv_at hl 1 rfl) ?_
  refine lv_if_ne (tgt := 2554) hx hb dL_law_2539 (by decide) (fun _ => ?_) (fun c9 => absurd c9 (show ¬ (1 : Int32) = (0 : Int32) from (by decide)))
  refine lv_goto (tgt := 2855) hx hb dL_law_2554 (by decide) ?_
  refine W.widen (k := 1000) (n := 200000) (Nat.le_of_ble_eq_true rfl) (Nat.le_of_ble_eq_true rfl) ?_
  exact T H _ ls hS (lv_sub hl [2, 6] rfl)

set_option maxHeartbeats 4000000 in
set_option maxRecDepth 100000 in
/-- the law at a call of planned -/
theorem law_planned {p : Program} {l : Launch} {e : Env} {s : State} {m : MethodId} {below : List Frame} {meth : Method} {c : Code} {Q : State → Prop} (hl9 : l.stackTraces = false) (D : va_G) (cI cZ cJ : ClassId) (b : Nat) (xs : Nat → Int32) (C0 : LC s p m c D cI cZ cJ b xs) (g : Nat) (nw : Nat) (la : Nat) (pn : Nat) (aI : Nat) (aS : Nat) (aP : Nat) (aL : Nat) (aO : Nat) (aT : Nat) (aA : Nat) (aQ : Nat) (aI1 : Nat) (aI2 : Nat) (aI3 : Nat) (aI4 : Nat) (mm : Nat) (w : Nat) (b2 : Nat) (b3 : Nat) (b4 : Nat) (b5 : Nat) (b7 : Nat) (b8 : Nat) (b9 : Nat) (b10 : Nat) (b11 : Nat) (b12 : Nat) (b14 : Nat) (b15 : Nat) (b16 : Nat) (b17 : Nat) (b19 : Nat) (b20 : Nat) (b21 : Nat) (b22 : Nat) (b23 : Nat) (b24 : Nat) (b25 : Nat) (b26 : Nat) (b27 : Nat) (b29 : Nat) (b30 : Nat) (b31 : Nat) (b32 : Nat) (b33 : Nat) (b34 : Nat) (b35 : Nat) (ou : Nat) (T : LT p l e s m below meth c b Q) {H : Heap} {locs : List Loc} {ls : Array Slot} (hP : va_P D vwCl [(g, .inr (8, [.ref nw, .ref la, .ref pn])), (nw, .inr (6, [.int 0, .ref aI, .ref aS, .ref aP, .ref aL, .ref aO, .ref aT, .ref aA, .ref aQ])), (aI, .inr (0, [.int 0, .ref aI1, .ref aI2, .ref aI3, .ref aI4])), (mm, .inr (10, [.ref w, .int 0])), (w, .inr (9, [.int 0, .int 0, .ref b2, .ref b3, .ref b4, .ref b5, .int 0, .ref b7, .ref b8, .ref b9, .ref b10, .ref b11, .ref b12, .int 0, .ref b14, .ref b15, .ref b16, .ref b17, .int 0, .ref b19, .ref b20, .ref b21, .ref b22, .ref b23, .ref b24, .ref b25, .ref b26, .ref b27, .int 0, .ref b29, .ref b30, .ref b31, .ref b32, .ref b33, .ref b34, .ref b35]))] H) (hD : va_D (LA s) [(g, .inr (8, [.ref nw, .ref la, .ref pn])), (nw, .inr (6, [.int 0, .ref aI, .ref aS, .ref aP, .ref aL, .ref aO, .ref aT, .ref aA, .ref aQ])), (aI, .inr (0, [.int 0, .ref aI1, .ref aI2, .ref aI3, .ref aI4])), (mm, .inr (10, [.ref w, .int 0])), (w, .inr (9, [.int 0, .int 0, .ref b2, .ref b3, .ref b4, .ref b5, .int 0, .ref b7, .ref b8, .ref b9, .ref b10, .ref b11, .ref b12, .int 0, .ref b14, .ref b15, .ref b16, .ref b17, .int 0, .ref b19, .ref b20, .ref b21, .ref b22, .ref b23, .ref b24, .ref b25, .ref b26, .ref b27, .int 0, .ref b29, .ref b30, .ref b31, .ref b32, .ref b33, .ref b34, .ref b35]))]) (hS : va_S (LA s) s.heap H locs) (hl : lv_has ls 9 [(0, .ref b), (1, .ref g), (2, .ref mm), (3, .ref ou), (4, .int 0)]) : W p l e room_1 s m #[Value.ref b] below meth c H locs 123 42908 Q (F0 m 2557 ls []) := by
  obtain ⟨hx, hb, hml, hown, hts, hX, hbl, hC⟩ := C0
  have hK := hC.K
  have hA : ∀ q : Nat, s.heap.size ≤ q → LA s q := fun _ h => h
  have hAlo : ∀ q, LA s q → s.heap.size ≤ q := fun _ h => h
  have hbA : ¬ LA s b := Nat.not_le.mpr hbl
  refine lv_aload_n hx hb dL_law_2557 rfl (lv_at hl 1 rfl) ?_
  refine lv_aload_n hx hb dL_law_2558 rfl (lv_at hl 0 rfl) ?_
  refine lv_iload hx hb dL_law_2559 (lv_at hl 4 rfl) ?_
  refine lv_iconst (v := 1) hx hb dL_law_2561 (by decide) ?_
  refine lv_iadd hx hb dL_law_2562 ?_
  refine lv_toi (y := 1) (by decide) ?_
  refine va_sld hx hb hX hbl hbA hS (by unfold vp_in; decide) dL_law_2563 ?_
  refine lv_toi (y := xs 1) (congrArg xs (by decide)) ?_
  refine lv_aload_n hx hb dL_law_2564 rfl (lv_at hl 0 rfl) ?_
  refine lv_iload hx hb dL_law_2565 (lv_at hl 4 rfl) ?_
  refine lv_iconst (v := 2) hx hb dL_law_2567 (by decide) ?_
  refine lv_iadd hx hb dL_law_2568 ?_
  refine lv_toi (y := 2) (by decide) ?_
  refine va_sld hx hb hX hbl hbA hS (by unfold vp_in; decide) dL_law_2569 ?_
  refine lv_toi (y := xs 2) (congrArg xs (by decide)) ?_
  refine lv_aload_n hx hb dL_law_2570 rfl (lv_at hl 0 rfl) ?_
  refine lv_iload hx hb dL_law_2571 (lv_at hl 4 rfl) ?_
  refine lv_iconst (v := 3) hx hb dL_law_2573 (by decide) ?_
  refine lv_iadd hx hb dL_law_2574 ?_
  refine lv_toi (y := 3) (by decide) ?_
  refine va_sld hx hb hX hbl hbA hS (by unfold vp_in; decide) dL_law_2575 ?_
  refine lv_toi (y := xs 3) (congrArg xs (by decide)) ?_
  refine lv_aload_n hx hb dL_law_2576 rfl (lv_at hl 3 rfl) ?_
  have hPc := hP.sub (ws' := [(g, .inr (8, [.ref nw, .ref la, .ref pn])), (nw, .inr (6, [.int 0, .ref aI, .ref aS, .ref aP, .ref aL, .ref aO, .ref aT, .ref aA, .ref aQ])), (aI, .inr (0, [.int 0, .ref aI1, .ref aI2, .ref aI3, .ref aI4]))]) [0, 1, 2] rfl
  have hDc := hD.sub (ws' := [(g, .inr (8, [.ref nw, .ref la, .ref pn])), (nw, .inr (6, [.int 0, .ref aI, .ref aS, .ref aP, .ref aL, .ref aO, .ref aT, .ref aA, .ref aQ])), (aI, .inr (0, [.int 0, .ref aI1, .ref aI2, .ref aI3, .ref aI4]))]) [0, 1, 2] (by decide) rfl
  have hFc := va_free (wc := [(g, .inr (8, [.ref nw, .ref la, .ref pn])), (nw, .inr (6, [.int 0, .ref aI, .ref aS, .ref aP, .ref aL, .ref aO, .ref aT, .ref aA, .ref aQ])), (aI, .inr (0, [.int 0, .ref aI1, .ref aI2, .ref aI3, .ref aI4]))]) hD hS hA [0, 1, 2] rfl
  refine va_calli (vx_runSW (As := [.ref g, .int (xs 1), .int (xs 2), .int (xs 3), .ref ou]) (rest := []) ⟨hx, hb, hml, hown, hts⟩ (h_planned l hl9 D cI cZ cJ s.heap.size H.size g nw la pn 0 aI aS aP aL aO aT aA aQ aI1 aI2 aI3 aI4 (xs 1) (xs 2) (xs 3) ou) (vx_cwSW 5 hts gL_law_L_planned rfl rfl rfl (by decide +kernel) ⟨(Nat.le_of_ble_eq_true rfl), (Nat.le_of_ble_eq_true rfl)⟩) ⟨Pre.blind, Pre.mk hPc (hDc.weaken (fun _ _ _ h => hAlo _ h)) hC hS hAlo⟩ rfl rfl hl.1 rfl (lv_room (Nat.le_of_ble_eq_true rfl)) dL_law_2577 ⟨(Nat.le_of_ble_eq_true rfl), (Nat.le_of_ble_eq_true rfl)⟩) hS (fun q _ h => hFc q h) hFc (fun r_1 u t H1 locs1 ht hvm e_2 hB hz1 hk1 hS1 => ?_)
  have hS := hS1
  refine W.widen (k := 124) (n := 42914) (by omega) (by omega) ?_
  obtain ⟨hP, hD⟩ := va_rest (wr := [(mm, .inr (10, [.ref w, .int 0])), (w, .inr (9, [.int 0, .int 0, .ref b2, .ref b3, .ref b4, .ref b5, .int 0, .ref b7, .ref b8, .ref b9, .ref b10, .ref b11, .ref b12, .int 0, .ref b14, .ref b15, .ref b16, .ref b17, .int 0, .ref b19, .ref b20, .ref b21, .ref b22, .ref b23, .ref b24, .ref b25, .ref b26, .ref b27, .int 0, .ref b29, .ref b30, .ref b31, .ref b32, .ref b33, .ref b34, .ref b35]))]) hP hD [0, 1, 2] [3, 4] rfl rfl (by decide) (by decide) hk1 hFc
  have e_2 : 1 = r_1 := Eq.symm e_2
  subst e_2
  clear hFc hPc hDc ht hvm hz1 hk1 hS1 hB
  generalize H1 = H at hP hS ⊢
  replace hP : va_P D vwCl [(mm, .inr (10, [.ref w, .int 0])), (w, .inr (9, [.int 0, .int 0, .ref b2, .ref b3, .ref b4, .ref b5, .int 0, .ref b7, .ref b8, .ref b9, .ref b10, .ref b11, .ref b12, .int 0, .ref b14, .ref b15, .ref b16, .ref b17, .int 0, .ref b19, .ref b20, .ref b21, .ref b22, .ref b23, .ref b24, .ref b25, .ref b26, .ref b27, .int 0, .ref b29, .ref b30, .ref b31, .ref b32, .ref b33, .ref b34, .ref b35]))] H := hP
  replace hD : va_D (LA s) [(mm, .inr (10, [.ref w, .int 0])), (w, .inr (9, [.int 0, .int 0, .ref b2, .ref b3, .ref b4, .ref b5, .int 0, .ref b7, .ref b8, .ref b9, .ref b10, .ref b11, .ref b12, .int 0, .ref b14, .ref b15, .ref b16, .ref b17, .int 0, .ref b19, .ref b20, .ref b21, .ref b22, .ref b23, .ref b24, .ref b25, .ref b26, .ref b27, .int 0, .ref b29, .ref b30, .ref b31, .ref b32, .ref b33, .ref b34, .ref b35]))] := hD
  refine lv_istore (lv' := [(5, .int 1), (0, .ref b), (1, .ref g), (2, .ref mm), (3, .ref ou), (4, .int 0)]) hx hb dL_law_2580 hl (by decide) rfl (fun ls hl => ?_)
  refine lv_aload_n hx hb dL_law_2582 rfl (lv_at hl 3 rfl) ?_
  refine lv_aload_n hx hb dL_law_2583 rfl (lv_at hl 1 rfl) ?_
  refine lv_iload hx hb dL_law_2584 (lv_at hl 5 rfl) ?_
  refine lv_iconst (v := 1) hx hb dL_law_2586 (by decide) ?_
  refine lv_iadd hx hb dL_law_2587 ?_
  refine lv_toi (y := 1) (by decide) ?_
  refine va_sld hx hb hX hbl hbA hS (by unfold vp_in; decide) dL_law_2588 ?_
  refine lv_toi (y := xs 1) (congrArg xs (by decide)) ?_
  refine lv_aload_n hx hb dL_law_2589 rfl (lv_at hl 1 rfl) ?_
  refine lv_iload hx hb dL_law_2590 (lv_at hl 5 rfl) ?_
  refine lv_iconst (v := 2) hx hb dL_law_2592 (by decide) ?_
  refine lv_iadd hx hb dL_law_2593 ?_
  refine lv_toi (y := 2) (by decide) ?_
  refine va_sld hx hb hX hbl hbA hS (by unfold vp_in; decide) dL_law_2594 ?_
  refine lv_toi (y := xs 2) (congrArg xs (by decide)) ?_
  refine lv_aload_n hx hb dL_law_2595 rfl (lv_at hl 1 rfl) ?_
  refine lv_iload hx hb dL_law_2596 (lv_at hl 5 rfl) ?_
  refine lv_iconst (v := 3) hx hb dL_law_2598 (by decide) ?_
  refine lv_iadd hx hb dL_law_2599 ?_
  refine lv_toi (y := 3) (by decide) ?_
  refine va_sld hx hb hX hbl hbA hS (by unfold vp_in; decide) dL_law_2600 ?_
  refine lv_toi (y := xs 3) (congrArg xs (by decide)) ?_
  have hPc := hP.sub (ws' := [(mm, .inr (10, [.ref w, .int 0])), (w, .inr (9, [.int 0, .int 0, .ref b2, .ref b3, .ref b4, .ref b5, .int 0, .ref b7, .ref b8, .ref b9, .ref b10, .ref b11, .ref b12, .int 0, .ref b14, .ref b15, .ref b16, .ref b17, .int 0, .ref b19, .ref b20, .ref b21, .ref b22, .ref b23, .ref b24, .ref b25, .ref b26, .ref b27, .int 0, .ref b29, .ref b30, .ref b31, .ref b32, .ref b33, .ref b34, .ref b35]))]) [0, 1] rfl
  have hDc := hD.sub (ws' := [(mm, .inr (10, [.ref w, .int 0])), (w, .inr (9, [.int 0, .int 0, .ref b2, .ref b3, .ref b4, .ref b5, .int 0, .ref b7, .ref b8, .ref b9, .ref b10, .ref b11, .ref b12, .int 0, .ref b14, .ref b15, .ref b16, .ref b17, .int 0, .ref b19, .ref b20, .ref b21, .ref b22, .ref b23, .ref b24, .ref b25, .ref b26, .ref b27, .int 0, .ref b29, .ref b30, .ref b31, .ref b32, .ref b33, .ref b34, .ref b35]))]) [0, 1] (by decide) rfl
  have hFc := va_free (wc := [(mm, .inr (10, [.ref w, .int 0])), (w, .inr (9, [.int 0, .int 0, .ref b2, .ref b3, .ref b4, .ref b5, .int 0, .ref b7, .ref b8, .ref b9, .ref b10, .ref b11, .ref b12, .int 0, .ref b14, .ref b15, .ref b16, .ref b17, .int 0, .ref b19, .ref b20, .ref b21, .ref b22, .ref b23, .ref b24, .ref b25, .ref b26, .ref b27, .int 0, .ref b29, .ref b30, .ref b31, .ref b32, .ref b33, .ref b34, .ref b35]))]) hD hS hA [0, 1] rfl
  refine va_calli (va_runV (As := [.int (xs 1), .int (xs 2), .int (xs 3)]) (rest := []) ⟨hx, hb, hml, hown, hts⟩ (m_planned l D cI cZ cJ s.heap.size H.size mm 0 w 0 b2 b3 b4 b5 b7 b8 b9 b10 b11 b12 b14 b15 b16 b17 b19 b20 b21 b22 b23 b24 b25 b26 b27 b29 b30 b31 b32 b33 b34 b35 (xs 1) (xs 2) (xs 3)) (cwV 3 hts gL_law_X10_planned rfl rfl rfl (by decide +kernel) ⟨(Nat.le_of_ble_eq_true rfl), (Nat.le_of_ble_eq_true rfl)⟩) ⟨Pre.blind, va_recv hK hP (ci := 10) (q0 := 0) rfl rfl, Pre.mk hPc (hDc.weaken (fun _ _ _ h => hAlo _ h)) hC hS hAlo⟩ rfl rfl hl.1 rfl (lv_room (Nat.le_of_ble_eq_true rfl)) dL_law_2601 ⟨(Nat.le_of_ble_eq_true rfl), (Nat.le_of_ble_eq_true rfl)⟩) hS (fun q _ h => hFc q h) hFc (fun r_3 u t H1 locs1 ht hvm e_4 hB hz1 hk1 hS1 => ?_)
  have hS := hS1
  refine W.widen (k := 124) (n := 42914) (by omega) (by omega) ?_
  obtain ⟨hP1, hD1⟩ := hB
  rw [ht] at hP1
  obtain ⟨hP, hD⟩ := va_join (wr := []) (w1 := [(mm, .inr (10, [.ref w, .int 1]))]) hP hD [0, 1] [] rfl rfl (by decide) (by decide) hk1 hFc hP1 hD1
  have e_4 : 0 = r_3 := Eq.symm e_4
  subst e_4
  clear hFc hPc hDc ht hvm hz1 hk1 hS1 hP1 hD1
  generalize H1 = H at hP hS ⊢
  replace hP : va_P D vwCl [(mm, .inr (10, [.ref w, .int 1]))] H := hP
  replace hD : va_D (LA s) [(mm, .inr (10, [.ref w, .int 1]))] := hD
  refine lv_istore (lv' := [(6, .int 0), (5, .int 1), (0, .ref b), (1, .ref g), (2, .ref mm), (3, .ref ou), (4, .int 0)]) hx hb dL_law_2604 hl (by decide) rfl (fun ls hl => ?_)
  refine lv_aload_n hx hb dL_law_2606 rfl (lv_at hl 4 rfl) ?_
  have hPc := hP.sub (ws' := [(mm, .inr (10, [.ref w, .int 1]))]) [0] rfl
  have hDc := hD.sub (ws' := [(mm, .inr (10, [.ref w, .int 1]))]) [0] (by decide) rfl
  refine vp_callSi (W.runV (As := []) (rest := []) ⟨hx, hb, hml, hown, hts⟩ (c_thrown l D cI cZ cJ s.heap.size H.size mm 1 w) (cwV 0 hts gL_law_X10_thrown rfl rfl rfl (by decide +kernel) ⟨(Nat.le_of_ble_eq_true rfl), (Nat.le_of_ble_eq_true rfl)⟩) ⟨Pre.blind, va_recv hK hP (ci := 10) (q0 := 0) rfl rfl, Pre.mk hPc (hDc.weaken (fun _ _ _ h => hAlo _ h)) hC hS hAlo⟩ rfl rfl hl.1 rfl (lv_room (Nat.le_of_ble_eq_true rfl)) dL_law_2607 ⟨(Nat.le_of_ble_eq_true rfl), (Nat.le_of_ble_eq_true rfl)⟩) (fun r_5 e_6 => ?_)
  clear hPc hDc
  have e_6 : 1 = r_5 := Eq.symm e_6
  subst e_6
  refine lv_iload hx hb dL_law_2610 (lv_at hl 1 rfl) ?_
  refine lv_icmp_eq (tgt := 2617) hx hb dL_law_2612 (by decide) (fun _ => ?_) (fun c9 => absurd (show (1 : Int32) = (1 : Int32) from (by decide)) c9)
  refine lv_iload hx hb dL_law_2617 (lv_at hl 1 rfl) ?_
  refine lv_if_ne (tgt := 2634) hx hb dL_law_2619 (by decide) (fun _ => ?_) (fun c9 => absurd c9 (show ¬ (1 : Int32) = (0 : Int32) from (by decide)))
  refine lv_goto (tgt := 2855) hx hb dL_law_2634 (by decide) ?_
  refine W.widen (k := 1000) (n := 200000) (Nat.le_of_ble_eq_true rfl) (Nat.le_of_ble_eq_true rfl) ?_
  exact T H _ ls hS (lv_sub hl [2, 6] rfl)

set_option maxHeartbeats 4000000 in
set_option maxRecDepth 100000 in
/-- the law at a call of onHandIn -/
theorem law_onHandIn {p : Program} {l : Launch} {e : Env} {s : State} {m : MethodId} {below : List Frame} {meth : Method} {c : Code} {Q : State → Prop} (hl9 : l.stackTraces = false) (D : va_G) (cI cZ cJ : ClassId) (b : Nat) (xs : Nat → Int32) (C0 : LC s p m c D cI cZ cJ b xs) (g : Nat) (nw : Nat) (la : Nat) (pn : Nat) (aI : Nat) (aS : Nat) (aP : Nat) (aL : Nat) (aO : Nat) (aT : Nat) (aA : Nat) (aQ : Nat) (aI1 : Nat) (aI2 : Nat) (aI3 : Nat) (aI4 : Nat) (mm : Nat) (w : Nat) (b2 : Nat) (b3 : Nat) (b4 : Nat) (b5 : Nat) (b7 : Nat) (b8 : Nat) (b9 : Nat) (b10 : Nat) (b11 : Nat) (b12 : Nat) (b14 : Nat) (b15 : Nat) (b16 : Nat) (b17 : Nat) (b19 : Nat) (b20 : Nat) (b21 : Nat) (b22 : Nat) (b23 : Nat) (b24 : Nat) (b25 : Nat) (b26 : Nat) (b27 : Nat) (b29 : Nat) (b30 : Nat) (b31 : Nat) (b32 : Nat) (b33 : Nat) (b34 : Nat) (b35 : Nat) (ou : Nat) (T : LT p l e s m below meth c b Q) {H : Heap} {locs : List Loc} {ls : Array Slot} (hP : va_P D vwCl [(g, .inr (8, [.ref nw, .ref la, .ref pn])), (nw, .inr (6, [.int 0, .ref aI, .ref aS, .ref aP, .ref aL, .ref aO, .ref aT, .ref aA, .ref aQ])), (aI, .inr (0, [.int 0, .ref aI1, .ref aI2, .ref aI3, .ref aI4])), (mm, .inr (10, [.ref w, .int 0])), (w, .inr (9, [.int 0, .int 0, .ref b2, .ref b3, .ref b4, .ref b5, .int 0, .ref b7, .ref b8, .ref b9, .ref b10, .ref b11, .ref b12, .int 0, .ref b14, .ref b15, .ref b16, .ref b17, .int 0, .ref b19, .ref b20, .ref b21, .ref b22, .ref b23, .ref b24, .ref b25, .ref b26, .ref b27, .int 0, .ref b29, .ref b30, .ref b31, .ref b32, .ref b33, .ref b34, .ref b35]))] H) (hD : va_D (LA s) [(g, .inr (8, [.ref nw, .ref la, .ref pn])), (nw, .inr (6, [.int 0, .ref aI, .ref aS, .ref aP, .ref aL, .ref aO, .ref aT, .ref aA, .ref aQ])), (aI, .inr (0, [.int 0, .ref aI1, .ref aI2, .ref aI3, .ref aI4])), (mm, .inr (10, [.ref w, .int 0])), (w, .inr (9, [.int 0, .int 0, .ref b2, .ref b3, .ref b4, .ref b5, .int 0, .ref b7, .ref b8, .ref b9, .ref b10, .ref b11, .ref b12, .int 0, .ref b14, .ref b15, .ref b16, .ref b17, .int 0, .ref b19, .ref b20, .ref b21, .ref b22, .ref b23, .ref b24, .ref b25, .ref b26, .ref b27, .int 0, .ref b29, .ref b30, .ref b31, .ref b32, .ref b33, .ref b34, .ref b35]))]) (hS : va_S (LA s) s.heap H locs) (hl : lv_has ls 9 [(0, .ref b), (1, .ref g), (2, .ref mm), (3, .ref ou), (4, .int 0)]) : W p l e room_1 s m #[Value.ref b] below meth c H locs 123 42908 Q (F0 m 2637 ls []) := by
  obtain ⟨hx, hb, hml, hown, hts, hX, hbl, hC⟩ := C0
  have hK := hC.K
  have hA : ∀ q : Nat, s.heap.size ≤ q → LA s q := fun _ h => h
  have hAlo : ∀ q, LA s q → s.heap.size ≤ q := fun _ h => h
  have hbA : ¬ LA s b := Nat.not_le.mpr hbl
  refine lv_aload_n hx hb dL_law_2637 rfl (lv_at hl 1 rfl) ?_
  refine lv_aload_n hx hb dL_law_2638 rfl (lv_at hl 0 rfl) ?_
  refine lv_iload hx hb dL_law_2639 (lv_at hl 4 rfl) ?_
  refine lv_iconst (v := 1) hx hb dL_law_2641 (by decide) ?_
  refine lv_iadd hx hb dL_law_2642 ?_
  refine lv_toi (y := 1) (by decide) ?_
  refine va_sld hx hb hX hbl hbA hS (by unfold vp_in; decide) dL_law_2643 ?_
  refine lv_toi (y := xs 1) (congrArg xs (by decide)) ?_
  refine lv_aload_n hx hb dL_law_2644 rfl (lv_at hl 0 rfl) ?_
  refine lv_iload hx hb dL_law_2645 (lv_at hl 4 rfl) ?_
  refine lv_iconst (v := 2) hx hb dL_law_2647 (by decide) ?_
  refine lv_iadd hx hb dL_law_2648 ?_
  refine lv_toi (y := 2) (by decide) ?_
  refine va_sld hx hb hX hbl hbA hS (by unfold vp_in; decide) dL_law_2649 ?_
  refine lv_toi (y := xs 2) (congrArg xs (by decide)) ?_
  refine lv_aload_n hx hb dL_law_2650 rfl (lv_at hl 0 rfl) ?_
  refine lv_iload hx hb dL_law_2651 (lv_at hl 4 rfl) ?_
  refine lv_iconst (v := 3) hx hb dL_law_2653 (by decide) ?_
  refine lv_iadd hx hb dL_law_2654 ?_
  refine lv_toi (y := 3) (by decide) ?_
  refine va_sld hx hb hX hbl hbA hS (by unfold vp_in; decide) dL_law_2655 ?_
  refine lv_toi (y := xs 3) (congrArg xs (by decide)) ?_
  refine lv_aload_n hx hb dL_law_2656 rfl (lv_at hl 3 rfl) ?_
  have hPc := hP.sub (ws' := [(g, .inr (8, [.ref nw, .ref la, .ref pn])), (nw, .inr (6, [.int 0, .ref aI, .ref aS, .ref aP, .ref aL, .ref aO, .ref aT, .ref aA, .ref aQ])), (aI, .inr (0, [.int 0, .ref aI1, .ref aI2, .ref aI3, .ref aI4]))]) [0, 1, 2] rfl
  have hDc := hD.sub (ws' := [(g, .inr (8, [.ref nw, .ref la, .ref pn])), (nw, .inr (6, [.int 0, .ref aI, .ref aS, .ref aP, .ref aL, .ref aO, .ref aT, .ref aA, .ref aQ])), (aI, .inr (0, [.int 0, .ref aI1, .ref aI2, .ref aI3, .ref aI4]))]) [0, 1, 2] (by decide) rfl
  have hFc := va_free (wc := [(g, .inr (8, [.ref nw, .ref la, .ref pn])), (nw, .inr (6, [.int 0, .ref aI, .ref aS, .ref aP, .ref aL, .ref aO, .ref aT, .ref aA, .ref aQ])), (aI, .inr (0, [.int 0, .ref aI1, .ref aI2, .ref aI3, .ref aI4]))]) hD hS hA [0, 1, 2] rfl
  refine va_calli (vx_runSW (As := [.ref g, .int (xs 1), .int (xs 2), .int (xs 3), .ref ou]) (rest := []) ⟨hx, hb, hml, hown, hts⟩ (h_onHandIn l hl9 D cI cZ cJ s.heap.size H.size g nw la pn 0 aI aS aP aL aO aT aA aQ aI1 aI2 aI3 aI4 (xs 1) (xs 2) (xs 3) ou) (vx_cwSW 5 hts gL_law_L_onHandIn rfl rfl rfl (by decide +kernel) ⟨(Nat.le_of_ble_eq_true rfl), (Nat.le_of_ble_eq_true rfl)⟩) ⟨Pre.blind, Pre.mk hPc (hDc.weaken (fun _ _ _ h => hAlo _ h)) hC hS hAlo⟩ rfl rfl hl.1 rfl (lv_room (Nat.le_of_ble_eq_true rfl)) dL_law_2657 ⟨(Nat.le_of_ble_eq_true rfl), (Nat.le_of_ble_eq_true rfl)⟩) hS (fun q _ h => hFc q h) hFc (fun r_1 u t H1 locs1 ht hvm e_2 hB hz1 hk1 hS1 => ?_)
  have hS := hS1
  refine W.widen (k := 124) (n := 42914) (by omega) (by omega) ?_
  obtain ⟨hP, hD⟩ := va_rest (wr := [(mm, .inr (10, [.ref w, .int 0])), (w, .inr (9, [.int 0, .int 0, .ref b2, .ref b3, .ref b4, .ref b5, .int 0, .ref b7, .ref b8, .ref b9, .ref b10, .ref b11, .ref b12, .int 0, .ref b14, .ref b15, .ref b16, .ref b17, .int 0, .ref b19, .ref b20, .ref b21, .ref b22, .ref b23, .ref b24, .ref b25, .ref b26, .ref b27, .int 0, .ref b29, .ref b30, .ref b31, .ref b32, .ref b33, .ref b34, .ref b35]))]) hP hD [0, 1, 2] [3, 4] rfl rfl (by decide) (by decide) hk1 hFc
  have e_2 : 1 = r_1 := Eq.symm e_2
  subst e_2
  clear hFc hPc hDc ht hvm hz1 hk1 hS1 hB
  generalize H1 = H at hP hS ⊢
  replace hP : va_P D vwCl [(mm, .inr (10, [.ref w, .int 0])), (w, .inr (9, [.int 0, .int 0, .ref b2, .ref b3, .ref b4, .ref b5, .int 0, .ref b7, .ref b8, .ref b9, .ref b10, .ref b11, .ref b12, .int 0, .ref b14, .ref b15, .ref b16, .ref b17, .int 0, .ref b19, .ref b20, .ref b21, .ref b22, .ref b23, .ref b24, .ref b25, .ref b26, .ref b27, .int 0, .ref b29, .ref b30, .ref b31, .ref b32, .ref b33, .ref b34, .ref b35]))] H := hP
  replace hD : va_D (LA s) [(mm, .inr (10, [.ref w, .int 0])), (w, .inr (9, [.int 0, .int 0, .ref b2, .ref b3, .ref b4, .ref b5, .int 0, .ref b7, .ref b8, .ref b9, .ref b10, .ref b11, .ref b12, .int 0, .ref b14, .ref b15, .ref b16, .ref b17, .int 0, .ref b19, .ref b20, .ref b21, .ref b22, .ref b23, .ref b24, .ref b25, .ref b26, .ref b27, .int 0, .ref b29, .ref b30, .ref b31, .ref b32, .ref b33, .ref b34, .ref b35]))] := hD
  refine lv_istore (lv' := [(5, .int 1), (0, .ref b), (1, .ref g), (2, .ref mm), (3, .ref ou), (4, .int 0)]) hx hb dL_law_2660 hl (by decide) rfl (fun ls hl => ?_)
  refine lv_aload_n hx hb dL_law_2662 rfl (lv_at hl 3 rfl) ?_
  refine lv_aload_n hx hb dL_law_2663 rfl (lv_at hl 1 rfl) ?_
  refine lv_iload hx hb dL_law_2664 (lv_at hl 5 rfl) ?_
  refine lv_iconst (v := 1) hx hb dL_law_2666 (by decide) ?_
  refine lv_iadd hx hb dL_law_2667 ?_
  refine lv_toi (y := 1) (by decide) ?_
  refine va_sld hx hb hX hbl hbA hS (by unfold vp_in; decide) dL_law_2668 ?_
  refine lv_toi (y := xs 1) (congrArg xs (by decide)) ?_
  refine lv_aload_n hx hb dL_law_2669 rfl (lv_at hl 1 rfl) ?_
  refine lv_iload hx hb dL_law_2670 (lv_at hl 5 rfl) ?_
  refine lv_iconst (v := 2) hx hb dL_law_2672 (by decide) ?_
  refine lv_iadd hx hb dL_law_2673 ?_
  refine lv_toi (y := 2) (by decide) ?_
  refine va_sld hx hb hX hbl hbA hS (by unfold vp_in; decide) dL_law_2674 ?_
  refine lv_toi (y := xs 2) (congrArg xs (by decide)) ?_
  refine lv_aload_n hx hb dL_law_2675 rfl (lv_at hl 1 rfl) ?_
  refine lv_iload hx hb dL_law_2676 (lv_at hl 5 rfl) ?_
  refine lv_iconst (v := 3) hx hb dL_law_2678 (by decide) ?_
  refine lv_iadd hx hb dL_law_2679 ?_
  refine lv_toi (y := 3) (by decide) ?_
  refine va_sld hx hb hX hbl hbA hS (by unfold vp_in; decide) dL_law_2680 ?_
  refine lv_toi (y := xs 3) (congrArg xs (by decide)) ?_
  have hPc := hP.sub (ws' := [(mm, .inr (10, [.ref w, .int 0])), (w, .inr (9, [.int 0, .int 0, .ref b2, .ref b3, .ref b4, .ref b5, .int 0, .ref b7, .ref b8, .ref b9, .ref b10, .ref b11, .ref b12, .int 0, .ref b14, .ref b15, .ref b16, .ref b17, .int 0, .ref b19, .ref b20, .ref b21, .ref b22, .ref b23, .ref b24, .ref b25, .ref b26, .ref b27, .int 0, .ref b29, .ref b30, .ref b31, .ref b32, .ref b33, .ref b34, .ref b35]))]) [0, 1] rfl
  have hDc := hD.sub (ws' := [(mm, .inr (10, [.ref w, .int 0])), (w, .inr (9, [.int 0, .int 0, .ref b2, .ref b3, .ref b4, .ref b5, .int 0, .ref b7, .ref b8, .ref b9, .ref b10, .ref b11, .ref b12, .int 0, .ref b14, .ref b15, .ref b16, .ref b17, .int 0, .ref b19, .ref b20, .ref b21, .ref b22, .ref b23, .ref b24, .ref b25, .ref b26, .ref b27, .int 0, .ref b29, .ref b30, .ref b31, .ref b32, .ref b33, .ref b34, .ref b35]))]) [0, 1] (by decide) rfl
  have hFc := va_free (wc := [(mm, .inr (10, [.ref w, .int 0])), (w, .inr (9, [.int 0, .int 0, .ref b2, .ref b3, .ref b4, .ref b5, .int 0, .ref b7, .ref b8, .ref b9, .ref b10, .ref b11, .ref b12, .int 0, .ref b14, .ref b15, .ref b16, .ref b17, .int 0, .ref b19, .ref b20, .ref b21, .ref b22, .ref b23, .ref b24, .ref b25, .ref b26, .ref b27, .int 0, .ref b29, .ref b30, .ref b31, .ref b32, .ref b33, .ref b34, .ref b35]))]) hD hS hA [0, 1] rfl
  refine va_calli (va_runV (As := [.int (xs 1), .int (xs 2), .int (xs 3)]) (rest := []) ⟨hx, hb, hml, hown, hts⟩ (m_onHandIn l D cI cZ cJ s.heap.size H.size mm 0 w 0 b2 b3 b4 b5 b7 b8 b9 b10 b11 b12 b14 b15 b16 b17 b19 b20 b21 b22 b23 b24 b25 b26 b27 b29 b30 b31 b32 b33 b34 b35 (xs 1) (xs 2) (xs 3)) (cwV 3 hts gL_law_X10_onHandIn rfl rfl rfl (by decide +kernel) ⟨(Nat.le_of_ble_eq_true rfl), (Nat.le_of_ble_eq_true rfl)⟩) ⟨Pre.blind, va_recv hK hP (ci := 10) (q0 := 0) rfl rfl, Pre.mk hPc (hDc.weaken (fun _ _ _ h => hAlo _ h)) hC hS hAlo⟩ rfl rfl hl.1 rfl (lv_room (Nat.le_of_ble_eq_true rfl)) dL_law_2681 ⟨(Nat.le_of_ble_eq_true rfl), (Nat.le_of_ble_eq_true rfl)⟩) hS (fun q _ h => hFc q h) hFc (fun r_3 u t H1 locs1 ht hvm e_4 hB hz1 hk1 hS1 => ?_)
  have hS := hS1
  refine W.widen (k := 124) (n := 42914) (by omega) (by omega) ?_
  obtain ⟨hP1, hD1⟩ := hB
  rw [ht] at hP1
  obtain ⟨hP, hD⟩ := va_join (wr := []) (w1 := [(mm, .inr (10, [.ref w, .int 1]))]) hP hD [0, 1] [] rfl rfl (by decide) (by decide) hk1 hFc hP1 hD1
  have e_4 : 0 = r_3 := Eq.symm e_4
  subst e_4
  clear hFc hPc hDc ht hvm hz1 hk1 hS1 hP1 hD1
  generalize H1 = H at hP hS ⊢
  replace hP : va_P D vwCl [(mm, .inr (10, [.ref w, .int 1]))] H := hP
  replace hD : va_D (LA s) [(mm, .inr (10, [.ref w, .int 1]))] := hD
  refine lv_istore (lv' := [(6, .int 0), (5, .int 1), (0, .ref b), (1, .ref g), (2, .ref mm), (3, .ref ou), (4, .int 0)]) hx hb dL_law_2684 hl (by decide) rfl (fun ls hl => ?_)
  refine lv_aload_n hx hb dL_law_2686 rfl (lv_at hl 4 rfl) ?_
  have hPc := hP.sub (ws' := [(mm, .inr (10, [.ref w, .int 1]))]) [0] rfl
  have hDc := hD.sub (ws' := [(mm, .inr (10, [.ref w, .int 1]))]) [0] (by decide) rfl
  refine vp_callSi (W.runV (As := []) (rest := []) ⟨hx, hb, hml, hown, hts⟩ (c_thrown l D cI cZ cJ s.heap.size H.size mm 1 w) (cwV 0 hts gL_law_X10_thrown rfl rfl rfl (by decide +kernel) ⟨(Nat.le_of_ble_eq_true rfl), (Nat.le_of_ble_eq_true rfl)⟩) ⟨Pre.blind, va_recv hK hP (ci := 10) (q0 := 0) rfl rfl, Pre.mk hPc (hDc.weaken (fun _ _ _ h => hAlo _ h)) hC hS hAlo⟩ rfl rfl hl.1 rfl (lv_room (Nat.le_of_ble_eq_true rfl)) dL_law_2687 ⟨(Nat.le_of_ble_eq_true rfl), (Nat.le_of_ble_eq_true rfl)⟩) (fun r_5 e_6 => ?_)
  clear hPc hDc
  have e_6 : 1 = r_5 := Eq.symm e_6
  subst e_6
  refine lv_iload hx hb dL_law_2690 (lv_at hl 1 rfl) ?_
  refine lv_icmp_eq (tgt := 2697) hx hb dL_law_2692 (by decide) (fun _ => ?_) (fun c9 => absurd (show (1 : Int32) = (1 : Int32) from (by decide)) c9)
  refine lv_iload hx hb dL_law_2697 (lv_at hl 1 rfl) ?_
  refine lv_if_ne (tgt := 2714) hx hb dL_law_2699 (by decide) (fun _ => ?_) (fun c9 => absurd c9 (show ¬ (1 : Int32) = (0 : Int32) from (by decide)))
  refine lv_goto (tgt := 2855) hx hb dL_law_2714 (by decide) ?_
  refine W.widen (k := 1000) (n := 200000) (Nat.le_of_ble_eq_true rfl) (Nat.le_of_ble_eq_true rfl) ?_
  exact T H _ ls hS (lv_sub hl [2, 6] rfl)

set_option maxHeartbeats 4000000 in
set_option maxRecDepth 100000 in
/-- the law at a call of firstShort -/
theorem law_firstShort {p : Program} {l : Launch} {e : Env} {s : State} {m : MethodId} {below : List Frame} {meth : Method} {c : Code} {Q : State → Prop} (hl9 : l.stackTraces = false) (D : va_G) (cI cZ cJ : ClassId) (b : Nat) (xs : Nat → Int32) (C0 : LC s p m c D cI cZ cJ b xs) (g : Nat) (nw : Nat) (es : Nat) (pn : Nat) (eI : Nat) (eS : Nat) (eP : Nat) (eL : Nat) (eO : Nat) (eT : Nat) (eA : Nat) (eQ : Nat) (aI : Nat) (aS : Nat) (aP : Nat) (aL : Nat) (aO : Nat) (aT : Nat) (aA : Nat) (aQ : Nat) (eI1 : Nat) (eI2 : Nat) (eI3 : Nat) (eI4 : Nat) (aI1 : Nat) (aI2 : Nat) (aI3 : Nat) (aI4 : Nat) (eS1 : Nat) (eS2 : Nat) (aS1 : Nat) (aS2 : Nat) (eP1 : Nat) (eP2 : Nat) (eP3 : Nat) (eP4 : Nat) (eP5 : Nat) (aP1 : Nat) (aP2 : Nat) (aP3 : Nat) (aP4 : Nat) (aP5 : Nat) (eL1 : Nat) (eL2 : Nat) (eL3 : Nat) (eL4 : Nat) (eL5 : Nat) (aL1 : Nat) (aL2 : Nat) (aL3 : Nat) (aL4 : Nat) (aL5 : Nat) (eO1 : Nat) (eO2 : Nat) (eO3 : Nat) (eO4 : Nat) (eO5 : Nat) (eO6 : Nat) (eO7 : Nat) (eO8 : Nat) (eO9 : Nat) (eO10 : Nat) (aO1 : Nat) (aO2 : Nat) (aO3 : Nat) (aO4 : Nat) (aO5 : Nat) (aO6 : Nat) (aO7 : Nat) (aO8 : Nat) (aO9 : Nat) (aO10 : Nat) (eT1 : Nat) (eT2 : Nat) (eT3 : Nat) (eT4 : Nat) (eT5 : Nat) (eT6 : Nat) (aT1 : Nat) (aT2 : Nat) (aT3 : Nat) (aT4 : Nat) (aT5 : Nat) (aT6 : Nat) (ou : Nat) (mm : Nat) (w : Nat) (b2 : Nat) (b3 : Nat) (b4 : Nat) (b5 : Nat) (b7 : Nat) (b8 : Nat) (b9 : Nat) (b10 : Nat) (b11 : Nat) (b12 : Nat) (b14 : Nat) (b15 : Nat) (b16 : Nat) (b17 : Nat) (b19 : Nat) (b20 : Nat) (b21 : Nat) (b22 : Nat) (b23 : Nat) (b24 : Nat) (b25 : Nat) (b26 : Nat) (b27 : Nat) (b29 : Nat) (b30 : Nat) (b31 : Nat) (b32 : Nat) (b33 : Nat) (b34 : Nat) (b35 : Nat) (ft : Nat → Int32) (T : LT p l e s m below meth c b Q) {H : Heap} {locs : List Loc} {ls : Array Slot} (hP : va_P D vwCl [(g, .inr (8, [.ref nw, .ref es, .ref pn])), (es, .inr (6, [.int 0, .ref eI, .ref eS, .ref eP, .ref eL, .ref eO, .ref eT, .ref eA, .ref eQ])), (nw, .inr (6, [.int 0, .ref aI, .ref aS, .ref aP, .ref aL, .ref aO, .ref aT, .ref aA, .ref aQ])), (eI, .inr (0, [.int 0, .ref eI1, .ref eI2, .ref eI3, .ref eI4])), (eI1, .inl (cI, 6, .inl (fun _ => 0))), (eI2, .inl (cI, 6, .inl (fun _ => 0))), (eI3, .inl (cI, 6, .inl (fun _ => 0))), (eI4, .inl (cI, 6, .inl (fun _ => 0))), (aI, .inr (0, [.int 0, .ref aI1, .ref aI2, .ref aI3, .ref aI4])), (aI1, .inl (cI, 6, .inl (fun _ => 0))), (aI2, .inl (cI, 6, .inl (fun _ => 0))), (aI3, .inl (cI, 6, .inl (fun _ => 0))), (aI4, .inl (cI, 6, .inl (fun _ => 0))), (eS, .inr (5, [.int 0, .ref eS1, .ref eS2])), (eS1, .inl (cI, 5, .inl (fun _ => 0))), (eS2, .inl (cI, 25, .inl (fun _ => 0))), (aS, .inr (5, [.int 0, .ref aS1, .ref aS2])), (aS1, .inl (cI, 5, .inl (fun _ => 0))), (aS2, .inl (cI, 25, .inl (fun _ => 0))), (eP, .inr (4, [.ref eP1, .ref eP2, .ref eP3, .ref eP4, .ref eP5])), (eP1, .inl (cZ, 30, .inl (fun _ => 0))), (eP2, .inl (cI, 30, .inl (fun _ => 0))), (eP3, .inl (cI, 30, .inl (fun _ => 0))), (eP4, .inl (cI, 30, .inl (fun _ => 0))), (eP5, .inl (cI, 30, .inl (fun _ => 0))), (aP, .inr (4, [.ref aP1, .ref aP2, .ref aP3, .ref aP4, .ref aP5])), (aP1, .inl (cZ, 30, .inl (fun _ => 0))), (aP2, .inl (cI, 30, .inl (fun _ => 0))), (aP3, .inl (cI, 30, .inl (fun _ => 0))), (aP4, .inl (cI, 30, .inl (fun _ => 0))), (aP5, .inl (cI, 30, .inl (fun _ => 0))), (eL, .inr (1, [.int 0, .ref eL1, .ref eL2, .ref eL3, .ref eL4, .ref eL5])), (eL1, .inl (cI, 200, .inl (fun _ => 0))), (eL2, .inl (cI, 200, .inl (fun _ => 0))), (eL3, .inl (cI, 200, .inl (fun _ => 0))), (eL4, .inl (cI, 200, .inl (fun _ => 0))), (eL5, .inl (cI, 200, .inl (fun _ => 0))), (aL, .inr (1, [.int 0, .ref aL1, .ref aL2, .ref aL3, .ref aL4, .ref aL5])), (aL1, .inl (cI, 200, .inl (fun _ => 0))), (aL2, .inl (cI, 200, .inl (fun _ => 0))), (aL3, .inl (cI, 200, .inl (fun _ => 0))), (aL4, .inl (cI, 200, .inl (fun _ => 0))), (aL5, .inl (cI, 200, .inl (fun _ => 0))), (eO, .inr (2, [.int 0, .ref eO1, .ref eO2, .ref eO3, .ref eO4, .ref eO5, .ref eO6, .ref eO7, .ref eO8, .ref eO9, .ref eO10])), (eO1, .inl (cI, 60, .inl (fun _ => 0))), (eO2, .inl (cI, 60, .inl (fun _ => 0))), (eO3, .inl (cI, 60, .inl (fun _ => 0))), (eO4, .inl (cI, 60, .inl (fun _ => 0))), (eO5, .inl (cI, 60, .inl (fun _ => 0))), (eO6, .inl (cI, 60, .inl (fun _ => 0))), (eO7, .inl (cI, 60, .inl (fun _ => 0))), (eO8, .inl (cI, 60, .inl (fun _ => 0))), (eO9, .inl (cI, 60, .inl (fun _ => 0))), (eO10, .inl (cI, 12000, .inl (fun _ => 0))), (aO, .inr (2, [.int 0, .ref aO1, .ref aO2, .ref aO3, .ref aO4, .ref aO5, .ref aO6, .ref aO7, .ref aO8, .ref aO9, .ref aO10])), (aO1, .inl (cI, 60, .inl (fun _ => 0))), (aO2, .inl (cI, 60, .inl (fun _ => 0))), (aO3, .inl (cI, 60, .inl (fun _ => 0))), (aO4, .inl (cI, 60, .inl (fun _ => 0))), (aO5, .inl (cI, 60, .inl (fun _ => 0))), (aO6, .inl (cI, 60, .inl (fun _ => 0))), (aO7, .inl (cI, 60, .inl (fun _ => 0))), (aO8, .inl (cI, 60, .inl (fun _ => 0))), (aO9, .inl (cI, 60, .inl (fun _ => 0))), (aO10, .inl (cI, 12000, .inl (fun _ => 0))), (eT, .inr (7, [.int 0, .ref eT1, .ref eT2, .ref eT3, .ref eT4, .ref eT5, .ref eT6])), (eT1, .inl (cI, 90, .inl (fun _ => 0))), (eT2, .inl (cI, 90, .inl (fun _ => 0))), (eT3, .inl (cI, 90, .inl (fun _ => 0))), (eT4, .inl (cI, 90, .inl (fun _ => 0))), (eT5, .inl (cI, 90, .inl (fun _ => 0))), (eT6, .inl (cI, 90, .inl (fun _ => 0))), (aT, .inr (7, [.int 0, .ref aT1, .ref aT2, .ref aT3, .ref aT4, .ref aT5, .ref aT6])), (aT1, .inl (cI, 90, .inl (fun _ => 0))), (aT2, .inl (cI, 90, .inl (fun _ => 0))), (aT3, .inl (cI, 90, .inl (fun _ => 0))), (aT4, .inl (cI, 90, .inl (fun _ => 0))), (aT5, .inl (cI, 90, .inl (fun _ => 0))), (aT6, .inl (cI, 90, .inl (fun _ => 0))), (eA, .inl (cI, 5, .inl (fun _ => 0))), (aA, .inl (cI, 5, .inl (fun _ => 0))), (ou, .inl (cJ, 1, .inr (.inl (fun _ => 0)))), (mm, .inr (10, [.ref w, .int 0])), (w, .inr (9, [.int 0, .int 0, .ref b2, .ref b3, .ref b4, .ref b5, .int 0, .ref b7, .ref b8, .ref b9, .ref b10, .ref b11, .ref b12, .int 0, .ref b14, .ref b15, .ref b16, .ref b17, .int 0, .ref b19, .ref b20, .ref b21, .ref b22, .ref b23, .ref b24, .ref b25, .ref b26, .ref b27, .int 0, .ref b29, .ref b30, .ref b31, .ref b32, .ref b33, .ref b34, .ref b35])), (b2, .inl (cI, 6, .inl (fun _ => 0))), (b3, .inl (cI, 6, .inl (fun _ => 0))), (b4, .inl (cI, 6, .inl (fun _ => 0))), (b5, .inl (cI, 6, .inl (fun _ => 0))), (b7, .inl (cI, 5, .inl (fun _ => 0))), (b8, .inl (cI, 25, .inl (fun _ => 0))), (b9, .inl (cI, 30, .inl (fun _ => 0))), (b10, .inl (cI, 30, .inl (ft))), (b11, .inl (cI, 30, .inl (fun _ => 0))), (b12, .inl (cI, 30, .inl (fun _ => 0))), (b14, .inl (cI, 200, .inl (fun _ => 0))), (b15, .inl (cI, 200, .inl (fun _ => 0))), (b16, .inl (cI, 200, .inl (fun _ => 0))), (b17, .inl (cI, 200, .inl (fun _ => 0))), (b19, .inl (cI, 60, .inl (fun _ => 0))), (b20, .inl (cI, 60, .inl (fun _ => 0))), (b21, .inl (cI, 60, .inl (fun _ => 0))), (b22, .inl (cI, 60, .inl (fun _ => 0))), (b23, .inl (cI, 60, .inl (fun _ => 0))), (b24, .inl (cI, 60, .inl (fun _ => 0))), (b25, .inl (cI, 60, .inl (fun _ => 0))), (b26, .inl (cI, 60, .inl (fun _ => 0))), (b27, .inl (cI, 12000, .inl (fun _ => 0))), (b29, .inl (cI, 90, .inl (fun _ => 0))), (b30, .inl (cI, 90, .inl (fun _ => 0))), (b31, .inl (cI, 90, .inl (fun _ => 0))), (b32, .inl (cI, 90, .inl (fun _ => 0))), (b33, .inl (cI, 90, .inl (fun _ => 0))), (b34, .inl (cI, 90, .inl (fun _ => 0))), (b35, .inl (cI, 5, .inl (fun _ => 0)))] H) (hD : va_D (LA s) [(g, .inr (8, [.ref nw, .ref es, .ref pn])), (es, .inr (6, [.int 0, .ref eI, .ref eS, .ref eP, .ref eL, .ref eO, .ref eT, .ref eA, .ref eQ])), (nw, .inr (6, [.int 0, .ref aI, .ref aS, .ref aP, .ref aL, .ref aO, .ref aT, .ref aA, .ref aQ])), (eI, .inr (0, [.int 0, .ref eI1, .ref eI2, .ref eI3, .ref eI4])), (eI1, .inl (cI, 6, .inl (fun _ => 0))), (eI2, .inl (cI, 6, .inl (fun _ => 0))), (eI3, .inl (cI, 6, .inl (fun _ => 0))), (eI4, .inl (cI, 6, .inl (fun _ => 0))), (aI, .inr (0, [.int 0, .ref aI1, .ref aI2, .ref aI3, .ref aI4])), (aI1, .inl (cI, 6, .inl (fun _ => 0))), (aI2, .inl (cI, 6, .inl (fun _ => 0))), (aI3, .inl (cI, 6, .inl (fun _ => 0))), (aI4, .inl (cI, 6, .inl (fun _ => 0))), (eS, .inr (5, [.int 0, .ref eS1, .ref eS2])), (eS1, .inl (cI, 5, .inl (fun _ => 0))), (eS2, .inl (cI, 25, .inl (fun _ => 0))), (aS, .inr (5, [.int 0, .ref aS1, .ref aS2])), (aS1, .inl (cI, 5, .inl (fun _ => 0))), (aS2, .inl (cI, 25, .inl (fun _ => 0))), (eP, .inr (4, [.ref eP1, .ref eP2, .ref eP3, .ref eP4, .ref eP5])), (eP1, .inl (cZ, 30, .inl (fun _ => 0))), (eP2, .inl (cI, 30, .inl (fun _ => 0))), (eP3, .inl (cI, 30, .inl (fun _ => 0))), (eP4, .inl (cI, 30, .inl (fun _ => 0))), (eP5, .inl (cI, 30, .inl (fun _ => 0))), (aP, .inr (4, [.ref aP1, .ref aP2, .ref aP3, .ref aP4, .ref aP5])), (aP1, .inl (cZ, 30, .inl (fun _ => 0))), (aP2, .inl (cI, 30, .inl (fun _ => 0))), (aP3, .inl (cI, 30, .inl (fun _ => 0))), (aP4, .inl (cI, 30, .inl (fun _ => 0))), (aP5, .inl (cI, 30, .inl (fun _ => 0))), (eL, .inr (1, [.int 0, .ref eL1, .ref eL2, .ref eL3, .ref eL4, .ref eL5])), (eL1, .inl (cI, 200, .inl (fun _ => 0))), (eL2, .inl (cI, 200, .inl (fun _ => 0))), (eL3, .inl (cI, 200, .inl (fun _ => 0))), (eL4, .inl (cI, 200, .inl (fun _ => 0))), (eL5, .inl (cI, 200, .inl (fun _ => 0))), (aL, .inr (1, [.int 0, .ref aL1, .ref aL2, .ref aL3, .ref aL4, .ref aL5])), (aL1, .inl (cI, 200, .inl (fun _ => 0))), (aL2, .inl (cI, 200, .inl (fun _ => 0))), (aL3, .inl (cI, 200, .inl (fun _ => 0))), (aL4, .inl (cI, 200, .inl (fun _ => 0))), (aL5, .inl (cI, 200, .inl (fun _ => 0))), (eO, .inr (2, [.int 0, .ref eO1, .ref eO2, .ref eO3, .ref eO4, .ref eO5, .ref eO6, .ref eO7, .ref eO8, .ref eO9, .ref eO10])), (eO1, .inl (cI, 60, .inl (fun _ => 0))), (eO2, .inl (cI, 60, .inl (fun _ => 0))), (eO3, .inl (cI, 60, .inl (fun _ => 0))), (eO4, .inl (cI, 60, .inl (fun _ => 0))), (eO5, .inl (cI, 60, .inl (fun _ => 0))), (eO6, .inl (cI, 60, .inl (fun _ => 0))), (eO7, .inl (cI, 60, .inl (fun _ => 0))), (eO8, .inl (cI, 60, .inl (fun _ => 0))), (eO9, .inl (cI, 60, .inl (fun _ => 0))), (eO10, .inl (cI, 12000, .inl (fun _ => 0))), (aO, .inr (2, [.int 0, .ref aO1, .ref aO2, .ref aO3, .ref aO4, .ref aO5, .ref aO6, .ref aO7, .ref aO8, .ref aO9, .ref aO10])), (aO1, .inl (cI, 60, .inl (fun _ => 0))), (aO2, .inl (cI, 60, .inl (fun _ => 0))), (aO3, .inl (cI, 60, .inl (fun _ => 0))), (aO4, .inl (cI, 60, .inl (fun _ => 0))), (aO5, .inl (cI, 60, .inl (fun _ => 0))), (aO6, .inl (cI, 60, .inl (fun _ => 0))), (aO7, .inl (cI, 60, .inl (fun _ => 0))), (aO8, .inl (cI, 60, .inl (fun _ => 0))), (aO9, .inl (cI, 60, .inl (fun _ => 0))), (aO10, .inl (cI, 12000, .inl (fun _ => 0))), (eT, .inr (7, [.int 0, .ref eT1, .ref eT2, .ref eT3, .ref eT4, .ref eT5, .ref eT6])), (eT1, .inl (cI, 90, .inl (fun _ => 0))), (eT2, .inl (cI, 90, .inl (fun _ => 0))), (eT3, .inl (cI, 90, .inl (fun _ => 0))), (eT4, .inl (cI, 90, .inl (fun _ => 0))), (eT5, .inl (cI, 90, .inl (fun _ => 0))), (eT6, .inl (cI, 90, .inl (fun _ => 0))), (aT, .inr (7, [.int 0, .ref aT1, .ref aT2, .ref aT3, .ref aT4, .ref aT5, .ref aT6])), (aT1, .inl (cI, 90, .inl (fun _ => 0))), (aT2, .inl (cI, 90, .inl (fun _ => 0))), (aT3, .inl (cI, 90, .inl (fun _ => 0))), (aT4, .inl (cI, 90, .inl (fun _ => 0))), (aT5, .inl (cI, 90, .inl (fun _ => 0))), (aT6, .inl (cI, 90, .inl (fun _ => 0))), (eA, .inl (cI, 5, .inl (fun _ => 0))), (aA, .inl (cI, 5, .inl (fun _ => 0))), (ou, .inl (cJ, 1, .inr (.inl (fun _ => 0)))), (mm, .inr (10, [.ref w, .int 0])), (w, .inr (9, [.int 0, .int 0, .ref b2, .ref b3, .ref b4, .ref b5, .int 0, .ref b7, .ref b8, .ref b9, .ref b10, .ref b11, .ref b12, .int 0, .ref b14, .ref b15, .ref b16, .ref b17, .int 0, .ref b19, .ref b20, .ref b21, .ref b22, .ref b23, .ref b24, .ref b25, .ref b26, .ref b27, .int 0, .ref b29, .ref b30, .ref b31, .ref b32, .ref b33, .ref b34, .ref b35])), (b2, .inl (cI, 6, .inl (fun _ => 0))), (b3, .inl (cI, 6, .inl (fun _ => 0))), (b4, .inl (cI, 6, .inl (fun _ => 0))), (b5, .inl (cI, 6, .inl (fun _ => 0))), (b7, .inl (cI, 5, .inl (fun _ => 0))), (b8, .inl (cI, 25, .inl (fun _ => 0))), (b9, .inl (cI, 30, .inl (fun _ => 0))), (b10, .inl (cI, 30, .inl (ft))), (b11, .inl (cI, 30, .inl (fun _ => 0))), (b12, .inl (cI, 30, .inl (fun _ => 0))), (b14, .inl (cI, 200, .inl (fun _ => 0))), (b15, .inl (cI, 200, .inl (fun _ => 0))), (b16, .inl (cI, 200, .inl (fun _ => 0))), (b17, .inl (cI, 200, .inl (fun _ => 0))), (b19, .inl (cI, 60, .inl (fun _ => 0))), (b20, .inl (cI, 60, .inl (fun _ => 0))), (b21, .inl (cI, 60, .inl (fun _ => 0))), (b22, .inl (cI, 60, .inl (fun _ => 0))), (b23, .inl (cI, 60, .inl (fun _ => 0))), (b24, .inl (cI, 60, .inl (fun _ => 0))), (b25, .inl (cI, 60, .inl (fun _ => 0))), (b26, .inl (cI, 60, .inl (fun _ => 0))), (b27, .inl (cI, 12000, .inl (fun _ => 0))), (b29, .inl (cI, 90, .inl (fun _ => 0))), (b30, .inl (cI, 90, .inl (fun _ => 0))), (b31, .inl (cI, 90, .inl (fun _ => 0))), (b32, .inl (cI, 90, .inl (fun _ => 0))), (b33, .inl (cI, 90, .inl (fun _ => 0))), (b34, .inl (cI, 90, .inl (fun _ => 0))), (b35, .inl (cI, 5, .inl (fun _ => 0)))]) (hS : va_S (LA s) s.heap H locs) (hl : lv_has ls 9 [(0, .ref b), (1, .ref g), (2, .ref mm), (3, .ref ou), (4, .int 0)]) : W p l e room_1 s m #[Value.ref b] below meth c H locs 123 42908 Q (F0 m 2717 ls []) := by
  obtain ⟨hx, hb, hml, hown, hts, hX, hbl, hC⟩ := C0
  have hK := hC.K
  have hA : ∀ q : Nat, s.heap.size ≤ q → LA s q := fun _ h => h
  have hAlo : ∀ q, LA s q → s.heap.size ≤ q := fun _ h => h
  have hbA : ¬ LA s b := Nat.not_le.mpr hbl
  refine lv_aload_n hx hb dL_law_2717 rfl (lv_at hl 1 rfl) ?_
  refine lv_aload_n hx hb dL_law_2718 rfl (lv_at hl 0 rfl) ?_
  refine lv_iload hx hb dL_law_2719 (lv_at hl 4 rfl) ?_
  refine lv_iconst (v := 1) hx hb dL_law_2721 (by decide) ?_
  refine lv_iadd hx hb dL_law_2722 ?_
  refine lv_toi (y := 1) (by decide) ?_
  refine va_sld hx hb hX hbl hbA hS (by unfold vp_in; decide) dL_law_2723 ?_
  refine lv_toi (y := xs 1) (congrArg xs (by decide)) ?_
  refine lv_aload_n hx hb dL_law_2724 rfl (lv_at hl 3 rfl) ?_
  have hPc := hP.sub (ws' := [(g, .inr (8, [.ref nw, .ref es, .ref pn])), (es, .inr (6, [.int 0, .ref eI, .ref eS, .ref eP, .ref eL, .ref eO, .ref eT, .ref eA, .ref eQ])), (nw, .inr (6, [.int 0, .ref aI, .ref aS, .ref aP, .ref aL, .ref aO, .ref aT, .ref aA, .ref aQ])), (eI, .inr (0, [.int 0, .ref eI1, .ref eI2, .ref eI3, .ref eI4])), (eI1, .inl (cI, 6, .inl (fun _ => 0))), (eI2, .inl (cI, 6, .inl (fun _ => 0))), (eI3, .inl (cI, 6, .inl (fun _ => 0))), (eI4, .inl (cI, 6, .inl (fun _ => 0))), (aI, .inr (0, [.int 0, .ref aI1, .ref aI2, .ref aI3, .ref aI4])), (aI1, .inl (cI, 6, .inl (fun _ => 0))), (aI2, .inl (cI, 6, .inl (fun _ => 0))), (aI3, .inl (cI, 6, .inl (fun _ => 0))), (aI4, .inl (cI, 6, .inl (fun _ => 0))), (eS, .inr (5, [.int 0, .ref eS1, .ref eS2])), (eS1, .inl (cI, 5, .inl (fun _ => 0))), (eS2, .inl (cI, 25, .inl (fun _ => 0))), (aS, .inr (5, [.int 0, .ref aS1, .ref aS2])), (aS1, .inl (cI, 5, .inl (fun _ => 0))), (aS2, .inl (cI, 25, .inl (fun _ => 0))), (eP, .inr (4, [.ref eP1, .ref eP2, .ref eP3, .ref eP4, .ref eP5])), (eP1, .inl (cZ, 30, .inl (fun _ => 0))), (eP2, .inl (cI, 30, .inl (fun _ => 0))), (eP3, .inl (cI, 30, .inl (fun _ => 0))), (eP4, .inl (cI, 30, .inl (fun _ => 0))), (eP5, .inl (cI, 30, .inl (fun _ => 0))), (aP, .inr (4, [.ref aP1, .ref aP2, .ref aP3, .ref aP4, .ref aP5])), (aP1, .inl (cZ, 30, .inl (fun _ => 0))), (aP2, .inl (cI, 30, .inl (fun _ => 0))), (aP3, .inl (cI, 30, .inl (fun _ => 0))), (aP4, .inl (cI, 30, .inl (fun _ => 0))), (aP5, .inl (cI, 30, .inl (fun _ => 0))), (eL, .inr (1, [.int 0, .ref eL1, .ref eL2, .ref eL3, .ref eL4, .ref eL5])), (eL1, .inl (cI, 200, .inl (fun _ => 0))), (eL2, .inl (cI, 200, .inl (fun _ => 0))), (eL3, .inl (cI, 200, .inl (fun _ => 0))), (eL4, .inl (cI, 200, .inl (fun _ => 0))), (eL5, .inl (cI, 200, .inl (fun _ => 0))), (aL, .inr (1, [.int 0, .ref aL1, .ref aL2, .ref aL3, .ref aL4, .ref aL5])), (aL1, .inl (cI, 200, .inl (fun _ => 0))), (aL2, .inl (cI, 200, .inl (fun _ => 0))), (aL3, .inl (cI, 200, .inl (fun _ => 0))), (aL4, .inl (cI, 200, .inl (fun _ => 0))), (aL5, .inl (cI, 200, .inl (fun _ => 0))), (eO, .inr (2, [.int 0, .ref eO1, .ref eO2, .ref eO3, .ref eO4, .ref eO5, .ref eO6, .ref eO7, .ref eO8, .ref eO9, .ref eO10])), (eO1, .inl (cI, 60, .inl (fun _ => 0))), (eO2, .inl (cI, 60, .inl (fun _ => 0))), (eO3, .inl (cI, 60, .inl (fun _ => 0))), (eO4, .inl (cI, 60, .inl (fun _ => 0))), (eO5, .inl (cI, 60, .inl (fun _ => 0))), (eO6, .inl (cI, 60, .inl (fun _ => 0))), (eO7, .inl (cI, 60, .inl (fun _ => 0))), (eO8, .inl (cI, 60, .inl (fun _ => 0))), (eO9, .inl (cI, 60, .inl (fun _ => 0))), (eO10, .inl (cI, 12000, .inl (fun _ => 0))), (aO, .inr (2, [.int 0, .ref aO1, .ref aO2, .ref aO3, .ref aO4, .ref aO5, .ref aO6, .ref aO7, .ref aO8, .ref aO9, .ref aO10])), (aO1, .inl (cI, 60, .inl (fun _ => 0))), (aO2, .inl (cI, 60, .inl (fun _ => 0))), (aO3, .inl (cI, 60, .inl (fun _ => 0))), (aO4, .inl (cI, 60, .inl (fun _ => 0))), (aO5, .inl (cI, 60, .inl (fun _ => 0))), (aO6, .inl (cI, 60, .inl (fun _ => 0))), (aO7, .inl (cI, 60, .inl (fun _ => 0))), (aO8, .inl (cI, 60, .inl (fun _ => 0))), (aO9, .inl (cI, 60, .inl (fun _ => 0))), (aO10, .inl (cI, 12000, .inl (fun _ => 0))), (eT, .inr (7, [.int 0, .ref eT1, .ref eT2, .ref eT3, .ref eT4, .ref eT5, .ref eT6])), (eT1, .inl (cI, 90, .inl (fun _ => 0))), (eT2, .inl (cI, 90, .inl (fun _ => 0))), (eT3, .inl (cI, 90, .inl (fun _ => 0))), (eT4, .inl (cI, 90, .inl (fun _ => 0))), (eT5, .inl (cI, 90, .inl (fun _ => 0))), (eT6, .inl (cI, 90, .inl (fun _ => 0))), (aT, .inr (7, [.int 0, .ref aT1, .ref aT2, .ref aT3, .ref aT4, .ref aT5, .ref aT6])), (aT1, .inl (cI, 90, .inl (fun _ => 0))), (aT2, .inl (cI, 90, .inl (fun _ => 0))), (aT3, .inl (cI, 90, .inl (fun _ => 0))), (aT4, .inl (cI, 90, .inl (fun _ => 0))), (aT5, .inl (cI, 90, .inl (fun _ => 0))), (aT6, .inl (cI, 90, .inl (fun _ => 0))), (eA, .inl (cI, 5, .inl (fun _ => 0))), (aA, .inl (cI, 5, .inl (fun _ => 0))), (ou, .inl (cJ, 1, .inr (.inl (fun _ => 0))))]) [0, 1, 2, 3, 4, 5, 6, 7, 8, 9, 10, 11, 12, 13, 14, 15, 16, 17, 18, 19, 20, 21, 22, 23, 24, 25, 26, 27, 28, 29, 30, 31, 32, 33, 34, 35, 36, 37, 38, 39, 40, 41, 42, 43, 44, 45, 46, 47, 48, 49, 50, 51, 52, 53, 54, 55, 56, 57, 58, 59, 60, 61, 62, 63, 64, 65, 66, 67, 68, 69, 70, 71, 72, 73, 74, 75, 76, 77, 78, 79, 80, 81] rfl
  have hDc := hD.sub (ws' := [(g, .inr (8, [.ref nw, .ref es, .ref pn])), (es, .inr (6, [.int 0, .ref eI, .ref eS, .ref eP, .ref eL, .ref eO, .ref eT, .ref eA, .ref eQ])), (nw, .inr (6, [.int 0, .ref aI, .ref aS, .ref aP, .ref aL, .ref aO, .ref aT, .ref aA, .ref aQ])), (eI, .inr (0, [.int 0, .ref eI1, .ref eI2, .ref eI3, .ref eI4])), (eI1, .inl (cI, 6, .inl (fun _ => 0))), (eI2, .inl (cI, 6, .inl (fun _ => 0))), (eI3, .inl (cI, 6, .inl (fun _ => 0))), (eI4, .inl (cI, 6, .inl (fun _ => 0))), (aI, .inr (0, [.int 0, .ref aI1, .ref aI2, .ref aI3, .ref aI4])), (aI1, .inl (cI, 6, .inl (fun _ => 0))), (aI2, .inl (cI, 6, .inl (fun _ => 0))), (aI3, .inl (cI, 6, .inl (fun _ => 0))), (aI4, .inl (cI, 6, .inl (fun _ => 0))), (eS, .inr (5, [.int 0, .ref eS1, .ref eS2])), (eS1, .inl (cI, 5, .inl (fun _ => 0))), (eS2, .inl (cI, 25, .inl (fun _ => 0))), (aS, .inr (5, [.int 0, .ref aS1, .ref aS2])), (aS1, .inl (cI, 5, .inl (fun _ => 0))), (aS2, .inl (cI, 25, .inl (fun _ => 0))), (eP, .inr (4, [.ref eP1, .ref eP2, .ref eP3, .ref eP4, .ref eP5])), (eP1, .inl (cZ, 30, .inl (fun _ => 0))), (eP2, .inl (cI, 30, .inl (fun _ => 0))), (eP3, .inl (cI, 30, .inl (fun _ => 0))), (eP4, .inl (cI, 30, .inl (fun _ => 0))), (eP5, .inl (cI, 30, .inl (fun _ => 0))), (aP, .inr (4, [.ref aP1, .ref aP2, .ref aP3, .ref aP4, .ref aP5])), (aP1, .inl (cZ, 30, .inl (fun _ => 0))), (aP2, .inl (cI, 30, .inl (fun _ => 0))), (aP3, .inl (cI, 30, .inl (fun _ => 0))), (aP4, .inl (cI, 30, .inl (fun _ => 0))), (aP5, .inl (cI, 30, .inl (fun _ => 0))), (eL, .inr (1, [.int 0, .ref eL1, .ref eL2, .ref eL3, .ref eL4, .ref eL5])), (eL1, .inl (cI, 200, .inl (fun _ => 0))), (eL2, .inl (cI, 200, .inl (fun _ => 0))), (eL3, .inl (cI, 200, .inl (fun _ => 0))), (eL4, .inl (cI, 200, .inl (fun _ => 0))), (eL5, .inl (cI, 200, .inl (fun _ => 0))), (aL, .inr (1, [.int 0, .ref aL1, .ref aL2, .ref aL3, .ref aL4, .ref aL5])), (aL1, .inl (cI, 200, .inl (fun _ => 0))), (aL2, .inl (cI, 200, .inl (fun _ => 0))), (aL3, .inl (cI, 200, .inl (fun _ => 0))), (aL4, .inl (cI, 200, .inl (fun _ => 0))), (aL5, .inl (cI, 200, .inl (fun _ => 0))), (eO, .inr (2, [.int 0, .ref eO1, .ref eO2, .ref eO3, .ref eO4, .ref eO5, .ref eO6, .ref eO7, .ref eO8, .ref eO9, .ref eO10])), (eO1, .inl (cI, 60, .inl (fun _ => 0))), (eO2, .inl (cI, 60, .inl (fun _ => 0))), (eO3, .inl (cI, 60, .inl (fun _ => 0))), (eO4, .inl (cI, 60, .inl (fun _ => 0))), (eO5, .inl (cI, 60, .inl (fun _ => 0))), (eO6, .inl (cI, 60, .inl (fun _ => 0))), (eO7, .inl (cI, 60, .inl (fun _ => 0))), (eO8, .inl (cI, 60, .inl (fun _ => 0))), (eO9, .inl (cI, 60, .inl (fun _ => 0))), (eO10, .inl (cI, 12000, .inl (fun _ => 0))), (aO, .inr (2, [.int 0, .ref aO1, .ref aO2, .ref aO3, .ref aO4, .ref aO5, .ref aO6, .ref aO7, .ref aO8, .ref aO9, .ref aO10])), (aO1, .inl (cI, 60, .inl (fun _ => 0))), (aO2, .inl (cI, 60, .inl (fun _ => 0))), (aO3, .inl (cI, 60, .inl (fun _ => 0))), (aO4, .inl (cI, 60, .inl (fun _ => 0))), (aO5, .inl (cI, 60, .inl (fun _ => 0))), (aO6, .inl (cI, 60, .inl (fun _ => 0))), (aO7, .inl (cI, 60, .inl (fun _ => 0))), (aO8, .inl (cI, 60, .inl (fun _ => 0))), (aO9, .inl (cI, 60, .inl (fun _ => 0))), (aO10, .inl (cI, 12000, .inl (fun _ => 0))), (eT, .inr (7, [.int 0, .ref eT1, .ref eT2, .ref eT3, .ref eT4, .ref eT5, .ref eT6])), (eT1, .inl (cI, 90, .inl (fun _ => 0))), (eT2, .inl (cI, 90, .inl (fun _ => 0))), (eT3, .inl (cI, 90, .inl (fun _ => 0))), (eT4, .inl (cI, 90, .inl (fun _ => 0))), (eT5, .inl (cI, 90, .inl (fun _ => 0))), (eT6, .inl (cI, 90, .inl (fun _ => 0))), (aT, .inr (7, [.int 0, .ref aT1, .ref aT2, .ref aT3, .ref aT4, .ref aT5, .ref aT6])), (aT1, .inl (cI, 90, .inl (fun _ => 0))), (aT2, .inl (cI, 90, .inl (fun _ => 0))), (aT3, .inl (cI, 90, .inl (fun _ => 0))), (aT4, .inl (cI, 90, .inl (fun _ => 0))), (aT5, .inl (cI, 90, .inl (fun _ => 0))), (aT6, .inl (cI, 90, .inl (fun _ => 0))), (eA, .inl (cI, 5, .inl (fun _ => 0))), (aA, .inl (cI, 5, .inl (fun _ => 0))), (ou, .inl (cJ, 1, .inr (.inl (fun _ => 0))))]) [0, 1, 2, 3, 4, 5, 6, 7, 8, 9, 10, 11, 12, 13, 14, 15, 16, 17, 18, 19, 20, 21, 22, 23, 24, 25, 26, 27, 28, 29, 30, 31, 32, 33, 34, 35, 36, 37, 38, 39, 40, 41, 42, 43, 44, 45, 46, 47, 48, 49, 50, 51, 52, 53, 54, 55, 56, 57, 58, 59, 60, 61, 62, 63, 64, 65, 66, 67, 68, 69, 70, 71, 72, 73, 74, 75, 76, 77, 78, 79, 80, 81] (by decide) rfl
  have hFc := va_free (wc := [(g, .inr (8, [.ref nw, .ref es, .ref pn])), (es, .inr (6, [.int 0, .ref eI, .ref eS, .ref eP, .ref eL, .ref eO, .ref eT, .ref eA, .ref eQ])), (nw, .inr (6, [.int 0, .ref aI, .ref aS, .ref aP, .ref aL, .ref aO, .ref aT, .ref aA, .ref aQ])), (eI, .inr (0, [.int 0, .ref eI1, .ref eI2, .ref eI3, .ref eI4])), (eI1, .inl (cI, 6, .inl (fun _ => 0))), (eI2, .inl (cI, 6, .inl (fun _ => 0))), (eI3, .inl (cI, 6, .inl (fun _ => 0))), (eI4, .inl (cI, 6, .inl (fun _ => 0))), (aI, .inr (0, [.int 0, .ref aI1, .ref aI2, .ref aI3, .ref aI4])), (aI1, .inl (cI, 6, .inl (fun _ => 0))), (aI2, .inl (cI, 6, .inl (fun _ => 0))), (aI3, .inl (cI, 6, .inl (fun _ => 0))), (aI4, .inl (cI, 6, .inl (fun _ => 0))), (eS, .inr (5, [.int 0, .ref eS1, .ref eS2])), (eS1, .inl (cI, 5, .inl (fun _ => 0))), (eS2, .inl (cI, 25, .inl (fun _ => 0))), (aS, .inr (5, [.int 0, .ref aS1, .ref aS2])), (aS1, .inl (cI, 5, .inl (fun _ => 0))), (aS2, .inl (cI, 25, .inl (fun _ => 0))), (eP, .inr (4, [.ref eP1, .ref eP2, .ref eP3, .ref eP4, .ref eP5])), (eP1, .inl (cZ, 30, .inl (fun _ => 0))), (eP2, .inl (cI, 30, .inl (fun _ => 0))), (eP3, .inl (cI, 30, .inl (fun _ => 0))), (eP4, .inl (cI, 30, .inl (fun _ => 0))), (eP5, .inl (cI, 30, .inl (fun _ => 0))), (aP, .inr (4, [.ref aP1, .ref aP2, .ref aP3, .ref aP4, .ref aP5])), (aP1, .inl (cZ, 30, .inl (fun _ => 0))), (aP2, .inl (cI, 30, .inl (fun _ => 0))), (aP3, .inl (cI, 30, .inl (fun _ => 0))), (aP4, .inl (cI, 30, .inl (fun _ => 0))), (aP5, .inl (cI, 30, .inl (fun _ => 0))), (eL, .inr (1, [.int 0, .ref eL1, .ref eL2, .ref eL3, .ref eL4, .ref eL5])), (eL1, .inl (cI, 200, .inl (fun _ => 0))), (eL2, .inl (cI, 200, .inl (fun _ => 0))), (eL3, .inl (cI, 200, .inl (fun _ => 0))), (eL4, .inl (cI, 200, .inl (fun _ => 0))), (eL5, .inl (cI, 200, .inl (fun _ => 0))), (aL, .inr (1, [.int 0, .ref aL1, .ref aL2, .ref aL3, .ref aL4, .ref aL5])), (aL1, .inl (cI, 200, .inl (fun _ => 0))), (aL2, .inl (cI, 200, .inl (fun _ => 0))), (aL3, .inl (cI, 200, .inl (fun _ => 0))), (aL4, .inl (cI, 200, .inl (fun _ => 0))), (aL5, .inl (cI, 200, .inl (fun _ => 0))), (eO, .inr (2, [.int 0, .ref eO1, .ref eO2, .ref eO3, .ref eO4, .ref eO5, .ref eO6, .ref eO7, .ref eO8, .ref eO9, .ref eO10])), (eO1, .inl (cI, 60, .inl (fun _ => 0))), (eO2, .inl (cI, 60, .inl (fun _ => 0))), (eO3, .inl (cI, 60, .inl (fun _ => 0))), (eO4, .inl (cI, 60, .inl (fun _ => 0))), (eO5, .inl (cI, 60, .inl (fun _ => 0))), (eO6, .inl (cI, 60, .inl (fun _ => 0))), (eO7, .inl (cI, 60, .inl (fun _ => 0))), (eO8, .inl (cI, 60, .inl (fun _ => 0))), (eO9, .inl (cI, 60, .inl (fun _ => 0))), (eO10, .inl (cI, 12000, .inl (fun _ => 0))), (aO, .inr (2, [.int 0, .ref aO1, .ref aO2, .ref aO3, .ref aO4, .ref aO5, .ref aO6, .ref aO7, .ref aO8, .ref aO9, .ref aO10])), (aO1, .inl (cI, 60, .inl (fun _ => 0))), (aO2, .inl (cI, 60, .inl (fun _ => 0))), (aO3, .inl (cI, 60, .inl (fun _ => 0))), (aO4, .inl (cI, 60, .inl (fun _ => 0))), (aO5, .inl (cI, 60, .inl (fun _ => 0))), (aO6, .inl (cI, 60, .inl (fun _ => 0))), (aO7, .inl (cI, 60, .inl (fun _ => 0))), (aO8, .inl (cI, 60, .inl (fun _ => 0))), (aO9, .inl (cI, 60, .inl (fun _ => 0))), (aO10, .inl (cI, 12000, .inl (fun _ => 0))), (eT, .inr (7, [.int 0, .ref eT1, .ref eT2, .ref eT3, .ref eT4, .ref eT5, .ref eT6])), (eT1, .inl (cI, 90, .inl (fun _ => 0))), (eT2, .inl (cI, 90, .inl (fun _ => 0))), (eT3, .inl (cI, 90, .inl (fun _ => 0))), (eT4, .inl (cI, 90, .inl (fun _ => 0))), (eT5, .inl (cI, 90, .inl (fun _ => 0))), (eT6, .inl (cI, 90, .inl (fun _ => 0))), (aT, .inr (7, [.int 0, .ref aT1, .ref aT2, .ref aT3, .ref aT4, .ref aT5, .ref aT6])), (aT1, .inl (cI, 90, .inl (fun _ => 0))), (aT2, .inl (cI, 90, .inl (fun _ => 0))), (aT3, .inl (cI, 90, .inl (fun _ => 0))), (aT4, .inl (cI, 90, .inl (fun _ => 0))), (aT5, .inl (cI, 90, .inl (fun _ => 0))), (aT6, .inl (cI, 90, .inl (fun _ => 0))), (eA, .inl (cI, 5, .inl (fun _ => 0))), (aA, .inl (cI, 5, .inl (fun _ => 0))), (ou, .inl (cJ, 1, .inr (.inl (fun _ => 0))))]) hD hS hA [0, 1, 2, 3, 4, 5, 6, 7, 8, 9, 10, 11, 12, 13, 14, 15, 16, 17, 18, 19, 20, 21, 22, 23, 24, 25, 26, 27, 28, 29, 30, 31, 32, 33, 34, 35, 36, 37, 38, 39, 40, 41, 42, 43, 44, 45, 46, 47, 48, 49, 50, 51, 52, 53, 54, 55, 56, 57, 58, 59, 60, 61, 62, 63, 64, 65, 66, 67, 68, 69, 70, 71, 72, 73, 74, 75, 76, 77, 78, 79, 80, 81] rfl
  refine va_calli (vx_runSW (As := [.ref g, .int (xs 1), .ref ou]) (rest := []) ⟨hx, hb, hml, hown, hts⟩ (h_firstShort l hl9 D cI cZ cJ s.heap.size H.size g pn es eI eS eP eL eO eT eA eQ nw aI aS aP aL aO aT aA aQ eI1 eI2 eI3 eI4 aI1 aI2 aI3 aI4 eS1 eS2 aS1 aS2 eP1 eP2 eP3 eP4 eP5 aP1 aP2 aP3 aP4 aP5 eL1 eL2 eL3 eL4 eL5 aL1 aL2 aL3 aL4 aL5 eO1 eO2 eO3 eO4 eO5 eO6 eO7 eO8 eO9 eO10 aO1 aO2 aO3 aO4 aO5 aO6 aO7 aO8 aO9 aO10 eT1 eT2 eT3 eT4 eT5 eT6 aT1 aT2 aT3 aT4 aT5 aT6 (xs 1) ou) (vx_cwSW 3 hts gL_law_L_firstShort rfl rfl rfl (by decide +kernel) ⟨(Nat.le_of_ble_eq_true rfl), (Nat.le_of_ble_eq_true rfl)⟩) ⟨Pre.blind, Pre.mk hPc (hDc.weaken (fun _ _ _ h => hAlo _ h)) hC hS hAlo⟩ rfl rfl hl.1 rfl (lv_room (Nat.le_of_ble_eq_true rfl)) dL_law_2725 ⟨(Nat.le_of_ble_eq_true rfl), (Nat.le_of_ble_eq_true rfl)⟩) hS (fun q _ h => hFc q h) hFc (fun r_1 u t H1 locs1 ht hvm e_2 hB hz1 hk1 hS1 => ?_)
  have hS := hS1
  refine W.widen (k := 124) (n := 42914) (by omega) (by omega) ?_
  obtain ⟨fo_3, hP1, hD1, b_4⟩ := hB
  rw [ht] at hP1
  obtain ⟨hP, hD⟩ := va_join (wr := [(mm, .inr (10, [.ref w, .int 0])), (w, .inr (9, [.int 0, .int 0, .ref b2, .ref b3, .ref b4, .ref b5, .int 0, .ref b7, .ref b8, .ref b9, .ref b10, .ref b11, .ref b12, .int 0, .ref b14, .ref b15, .ref b16, .ref b17, .int 0, .ref b19, .ref b20, .ref b21, .ref b22, .ref b23, .ref b24, .ref b25, .ref b26, .ref b27, .int 0, .ref b29, .ref b30, .ref b31, .ref b32, .ref b33, .ref b34, .ref b35])), (b2, .inl (cI, 6, .inl (fun _ => 0))), (b3, .inl (cI, 6, .inl (fun _ => 0))), (b4, .inl (cI, 6, .inl (fun _ => 0))), (b5, .inl (cI, 6, .inl (fun _ => 0))), (b7, .inl (cI, 5, .inl (fun _ => 0))), (b8, .inl (cI, 25, .inl (fun _ => 0))), (b9, .inl (cI, 30, .inl (fun _ => 0))), (b10, .inl (cI, 30, .inl (ft))), (b11, .inl (cI, 30, .inl (fun _ => 0))), (b12, .inl (cI, 30, .inl (fun _ => 0))), (b14, .inl (cI, 200, .inl (fun _ => 0))), (b15, .inl (cI, 200, .inl (fun _ => 0))), (b16, .inl (cI, 200, .inl (fun _ => 0))), (b17, .inl (cI, 200, .inl (fun _ => 0))), (b19, .inl (cI, 60, .inl (fun _ => 0))), (b20, .inl (cI, 60, .inl (fun _ => 0))), (b21, .inl (cI, 60, .inl (fun _ => 0))), (b22, .inl (cI, 60, .inl (fun _ => 0))), (b23, .inl (cI, 60, .inl (fun _ => 0))), (b24, .inl (cI, 60, .inl (fun _ => 0))), (b25, .inl (cI, 60, .inl (fun _ => 0))), (b26, .inl (cI, 60, .inl (fun _ => 0))), (b27, .inl (cI, 12000, .inl (fun _ => 0))), (b29, .inl (cI, 90, .inl (fun _ => 0))), (b30, .inl (cI, 90, .inl (fun _ => 0))), (b31, .inl (cI, 90, .inl (fun _ => 0))), (b32, .inl (cI, 90, .inl (fun _ => 0))), (b33, .inl (cI, 90, .inl (fun _ => 0))), (b34, .inl (cI, 90, .inl (fun _ => 0))), (b35, .inl (cI, 5, .inl (fun _ => 0)))]) (w1 := [(ou, .inl (cJ, 1, .inr (.inl (fo_3))))]) hP hD [0, 1, 2, 3, 4, 5, 6, 7, 8, 9, 10, 11, 12, 13, 14, 15, 16, 17, 18, 19, 20, 21, 22, 23, 24, 25, 26, 27, 28, 29, 30, 31, 32, 33, 34, 35, 36, 37, 38, 39, 40, 41, 42, 43, 44, 45, 46, 47, 48, 49, 50, 51, 52, 53, 54, 55, 56, 57, 58, 59, 60, 61, 62, 63, 64, 65, 66, 67, 68, 69, 70, 71, 72, 73, 74, 75, 76, 77, 78, 79, 80, 81] [82, 83, 84, 85, 86, 87, 88, 89, 90, 91, 92, 93, 94, 95, 96, 97, 98, 99, 100, 101, 102, 103, 104, 105, 106, 107, 108, 109, 110, 111, 112, 113] rfl rfl (by decide) (by decide) hk1 hFc hP1 hD1
  have e_2 : (r_1 = 0 ∧ (1 ≤ (xs 1) ∧ (xs 1) ≤ 30)) ∨ (r_1 = 1 ∧ ¬ (1 ≤ (xs 1) ∧ (xs 1) ≤ 30)) := e_2
  clear hFc hPc hDc ht hvm hz1 hk1 hS1 hP1 hD1
  generalize H1 = H at hP hS ⊢
  replace hP : va_P D vwCl [(mm, .inr (10, [.ref w, .int 0])), (w, .inr (9, [.int 0, .int 0, .ref b2, .ref b3, .ref b4, .ref b5, .int 0, .ref b7, .ref b8, .ref b9, .ref b10, .ref b11, .ref b12, .int 0, .ref b14, .ref b15, .ref b16, .ref b17, .int 0, .ref b19, .ref b20, .ref b21, .ref b22, .ref b23, .ref b24, .ref b25, .ref b26, .ref b27, .int 0, .ref b29, .ref b30, .ref b31, .ref b32, .ref b33, .ref b34, .ref b35])), (b2, .inl (cI, 6, .inl (fun _ => 0))), (b3, .inl (cI, 6, .inl (fun _ => 0))), (b4, .inl (cI, 6, .inl (fun _ => 0))), (b5, .inl (cI, 6, .inl (fun _ => 0))), (b7, .inl (cI, 5, .inl (fun _ => 0))), (b8, .inl (cI, 25, .inl (fun _ => 0))), (b9, .inl (cI, 30, .inl (fun _ => 0))), (b10, .inl (cI, 30, .inl (ft))), (b11, .inl (cI, 30, .inl (fun _ => 0))), (b12, .inl (cI, 30, .inl (fun _ => 0))), (b14, .inl (cI, 200, .inl (fun _ => 0))), (b15, .inl (cI, 200, .inl (fun _ => 0))), (b16, .inl (cI, 200, .inl (fun _ => 0))), (b17, .inl (cI, 200, .inl (fun _ => 0))), (b19, .inl (cI, 60, .inl (fun _ => 0))), (b20, .inl (cI, 60, .inl (fun _ => 0))), (b21, .inl (cI, 60, .inl (fun _ => 0))), (b22, .inl (cI, 60, .inl (fun _ => 0))), (b23, .inl (cI, 60, .inl (fun _ => 0))), (b24, .inl (cI, 60, .inl (fun _ => 0))), (b25, .inl (cI, 60, .inl (fun _ => 0))), (b26, .inl (cI, 60, .inl (fun _ => 0))), (b27, .inl (cI, 12000, .inl (fun _ => 0))), (b29, .inl (cI, 90, .inl (fun _ => 0))), (b30, .inl (cI, 90, .inl (fun _ => 0))), (b31, .inl (cI, 90, .inl (fun _ => 0))), (b32, .inl (cI, 90, .inl (fun _ => 0))), (b33, .inl (cI, 90, .inl (fun _ => 0))), (b34, .inl (cI, 90, .inl (fun _ => 0))), (b35, .inl (cI, 5, .inl (fun _ => 0))), (ou, .inl (cJ, 1, .inr (.inl (fo_3))))] H := hP
  replace hD : va_D (LA s) [(mm, .inr (10, [.ref w, .int 0])), (w, .inr (9, [.int 0, .int 0, .ref b2, .ref b3, .ref b4, .ref b5, .int 0, .ref b7, .ref b8, .ref b9, .ref b10, .ref b11, .ref b12, .int 0, .ref b14, .ref b15, .ref b16, .ref b17, .int 0, .ref b19, .ref b20, .ref b21, .ref b22, .ref b23, .ref b24, .ref b25, .ref b26, .ref b27, .int 0, .ref b29, .ref b30, .ref b31, .ref b32, .ref b33, .ref b34, .ref b35])), (b2, .inl (cI, 6, .inl (fun _ => 0))), (b3, .inl (cI, 6, .inl (fun _ => 0))), (b4, .inl (cI, 6, .inl (fun _ => 0))), (b5, .inl (cI, 6, .inl (fun _ => 0))), (b7, .inl (cI, 5, .inl (fun _ => 0))), (b8, .inl (cI, 25, .inl (fun _ => 0))), (b9, .inl (cI, 30, .inl (fun _ => 0))), (b10, .inl (cI, 30, .inl (ft))), (b11, .inl (cI, 30, .inl (fun _ => 0))), (b12, .inl (cI, 30, .inl (fun _ => 0))), (b14, .inl (cI, 200, .inl (fun _ => 0))), (b15, .inl (cI, 200, .inl (fun _ => 0))), (b16, .inl (cI, 200, .inl (fun _ => 0))), (b17, .inl (cI, 200, .inl (fun _ => 0))), (b19, .inl (cI, 60, .inl (fun _ => 0))), (b20, .inl (cI, 60, .inl (fun _ => 0))), (b21, .inl (cI, 60, .inl (fun _ => 0))), (b22, .inl (cI, 60, .inl (fun _ => 0))), (b23, .inl (cI, 60, .inl (fun _ => 0))), (b24, .inl (cI, 60, .inl (fun _ => 0))), (b25, .inl (cI, 60, .inl (fun _ => 0))), (b26, .inl (cI, 60, .inl (fun _ => 0))), (b27, .inl (cI, 12000, .inl (fun _ => 0))), (b29, .inl (cI, 90, .inl (fun _ => 0))), (b30, .inl (cI, 90, .inl (fun _ => 0))), (b31, .inl (cI, 90, .inl (fun _ => 0))), (b32, .inl (cI, 90, .inl (fun _ => 0))), (b33, .inl (cI, 90, .inl (fun _ => 0))), (b34, .inl (cI, 90, .inl (fun _ => 0))), (b35, .inl (cI, 5, .inl (fun _ => 0))), (ou, .inl (cJ, 1, .inr (.inl (fo_3))))] := hD
  rcases e_2 with ⟨hr9, h_5⟩ | ⟨hr9, h_6⟩
  · have hr9 := Eq.symm hr9
    subst hr9
    refine lv_istore (lv' := [(5, .int 0), (0, .ref b), (1, .ref g), (2, .ref mm), (3, .ref ou), (4, .int 0)]) hx hb dL_law_2728 hl (by decide) rfl (fun ls hl => ?_)
    refine lv_aload_n hx hb dL_law_2730 rfl (lv_at hl 3 rfl) ?_
    refine lv_aload_n hx hb dL_law_2731 rfl (lv_at hl 1 rfl) ?_
    refine lv_iload hx hb dL_law_2732 (lv_at hl 5 rfl) ?_
    refine lv_iconst (v := 1) hx hb dL_law_2734 (by decide) ?_
    refine lv_iadd hx hb dL_law_2735 ?_
    refine lv_toi (y := 1) (by decide) ?_
    refine va_sld hx hb hX hbl hbA hS (by unfold vp_in; decide) dL_law_2736 ?_
    refine lv_toi (y := xs 1) (congrArg xs (by decide)) ?_
    have hPc := hP.sub (ws' := [(mm, .inr (10, [.ref w, .int 0])), (w, .inr (9, [.int 0, .int 0, .ref b2, .ref b3, .ref b4, .ref b5, .int 0, .ref b7, .ref b8, .ref b9, .ref b10, .ref b11, .ref b12, .int 0, .ref b14, .ref b15, .ref b16, .ref b17, .int 0, .ref b19, .ref b20, .ref b21, .ref b22, .ref b23, .ref b24, .ref b25, .ref b26, .ref b27, .int 0, .ref b29, .ref b30, .ref b31, .ref b32, .ref b33, .ref b34, .ref b35])), (b2, .inl (cI, 6, .inl (fun _ => 0))), (b3, .inl (cI, 6, .inl (fun _ => 0))), (b4, .inl (cI, 6, .inl (fun _ => 0))), (b5, .inl (cI, 6, .inl (fun _ => 0))), (b7, .inl (cI, 5, .inl (fun _ => 0))), (b8, .inl (cI, 25, .inl (fun _ => 0))), (b9, .inl (cI, 30, .inl (fun _ => 0))), (b10, .inl (cI, 30, .inl (ft))), (b11, .inl (cI, 30, .inl (fun _ => 0))), (b12, .inl (cI, 30, .inl (fun _ => 0))), (b14, .inl (cI, 200, .inl (fun _ => 0))), (b15, .inl (cI, 200, .inl (fun _ => 0))), (b16, .inl (cI, 200, .inl (fun _ => 0))), (b17, .inl (cI, 200, .inl (fun _ => 0))), (b19, .inl (cI, 60, .inl (fun _ => 0))), (b20, .inl (cI, 60, .inl (fun _ => 0))), (b21, .inl (cI, 60, .inl (fun _ => 0))), (b22, .inl (cI, 60, .inl (fun _ => 0))), (b23, .inl (cI, 60, .inl (fun _ => 0))), (b24, .inl (cI, 60, .inl (fun _ => 0))), (b25, .inl (cI, 60, .inl (fun _ => 0))), (b26, .inl (cI, 60, .inl (fun _ => 0))), (b27, .inl (cI, 12000, .inl (fun _ => 0))), (b29, .inl (cI, 90, .inl (fun _ => 0))), (b30, .inl (cI, 90, .inl (fun _ => 0))), (b31, .inl (cI, 90, .inl (fun _ => 0))), (b32, .inl (cI, 90, .inl (fun _ => 0))), (b33, .inl (cI, 90, .inl (fun _ => 0))), (b34, .inl (cI, 90, .inl (fun _ => 0))), (b35, .inl (cI, 5, .inl (fun _ => 0)))]) [0, 1, 2, 3, 4, 5, 6, 7, 8, 9, 10, 11, 12, 13, 14, 15, 16, 17, 18, 19, 20, 21, 22, 23, 24, 25, 26, 27, 28, 29, 30, 31] rfl
    have hDc := hD.sub (ws' := [(mm, .inr (10, [.ref w, .int 0])), (w, .inr (9, [.int 0, .int 0, .ref b2, .ref b3, .ref b4, .ref b5, .int 0, .ref b7, .ref b8, .ref b9, .ref b10, .ref b11, .ref b12, .int 0, .ref b14, .ref b15, .ref b16, .ref b17, .int 0, .ref b19, .ref b20, .ref b21, .ref b22, .ref b23, .ref b24, .ref b25, .ref b26, .ref b27, .int 0, .ref b29, .ref b30, .ref b31, .ref b32, .ref b33, .ref b34, .ref b35])), (b2, .inl (cI, 6, .inl (fun _ => 0))), (b3, .inl (cI, 6, .inl (fun _ => 0))), (b4, .inl (cI, 6, .inl (fun _ => 0))), (b5, .inl (cI, 6, .inl (fun _ => 0))), (b7, .inl (cI, 5, .inl (fun _ => 0))), (b8, .inl (cI, 25, .inl (fun _ => 0))), (b9, .inl (cI, 30, .inl (fun _ => 0))), (b10, .inl (cI, 30, .inl (ft))), (b11, .inl (cI, 30, .inl (fun _ => 0))), (b12, .inl (cI, 30, .inl (fun _ => 0))), (b14, .inl (cI, 200, .inl (fun _ => 0))), (b15, .inl (cI, 200, .inl (fun _ => 0))), (b16, .inl (cI, 200, .inl (fun _ => 0))), (b17, .inl (cI, 200, .inl (fun _ => 0))), (b19, .inl (cI, 60, .inl (fun _ => 0))), (b20, .inl (cI, 60, .inl (fun _ => 0))), (b21, .inl (cI, 60, .inl (fun _ => 0))), (b22, .inl (cI, 60, .inl (fun _ => 0))), (b23, .inl (cI, 60, .inl (fun _ => 0))), (b24, .inl (cI, 60, .inl (fun _ => 0))), (b25, .inl (cI, 60, .inl (fun _ => 0))), (b26, .inl (cI, 60, .inl (fun _ => 0))), (b27, .inl (cI, 12000, .inl (fun _ => 0))), (b29, .inl (cI, 90, .inl (fun _ => 0))), (b30, .inl (cI, 90, .inl (fun _ => 0))), (b31, .inl (cI, 90, .inl (fun _ => 0))), (b32, .inl (cI, 90, .inl (fun _ => 0))), (b33, .inl (cI, 90, .inl (fun _ => 0))), (b34, .inl (cI, 90, .inl (fun _ => 0))), (b35, .inl (cI, 5, .inl (fun _ => 0)))]) [0, 1, 2, 3, 4, 5, 6, 7, 8, 9, 10, 11, 12, 13, 14, 15, 16, 17, 18, 19, 20, 21, 22, 23, 24, 25, 26, 27, 28, 29, 30, 31] (by decide) rfl
    have hFc := va_free (wc := [(mm, .inr (10, [.ref w, .int 0])), (w, .inr (9, [.int 0, .int 0, .ref b2, .ref b3, .ref b4, .ref b5, .int 0, .ref b7, .ref b8, .ref b9, .ref b10, .ref b11, .ref b12, .int 0, .ref b14, .ref b15, .ref b16, .ref b17, .int 0, .ref b19, .ref b20, .ref b21, .ref b22, .ref b23, .ref b24, .ref b25, .ref b26, .ref b27, .int 0, .ref b29, .ref b30, .ref b31, .ref b32, .ref b33, .ref b34, .ref b35])), (b2, .inl (cI, 6, .inl (fun _ => 0))), (b3, .inl (cI, 6, .inl (fun _ => 0))), (b4, .inl (cI, 6, .inl (fun _ => 0))), (b5, .inl (cI, 6, .inl (fun _ => 0))), (b7, .inl (cI, 5, .inl (fun _ => 0))), (b8, .inl (cI, 25, .inl (fun _ => 0))), (b9, .inl (cI, 30, .inl (fun _ => 0))), (b10, .inl (cI, 30, .inl (ft))), (b11, .inl (cI, 30, .inl (fun _ => 0))), (b12, .inl (cI, 30, .inl (fun _ => 0))), (b14, .inl (cI, 200, .inl (fun _ => 0))), (b15, .inl (cI, 200, .inl (fun _ => 0))), (b16, .inl (cI, 200, .inl (fun _ => 0))), (b17, .inl (cI, 200, .inl (fun _ => 0))), (b19, .inl (cI, 60, .inl (fun _ => 0))), (b20, .inl (cI, 60, .inl (fun _ => 0))), (b21, .inl (cI, 60, .inl (fun _ => 0))), (b22, .inl (cI, 60, .inl (fun _ => 0))), (b23, .inl (cI, 60, .inl (fun _ => 0))), (b24, .inl (cI, 60, .inl (fun _ => 0))), (b25, .inl (cI, 60, .inl (fun _ => 0))), (b26, .inl (cI, 60, .inl (fun _ => 0))), (b27, .inl (cI, 12000, .inl (fun _ => 0))), (b29, .inl (cI, 90, .inl (fun _ => 0))), (b30, .inl (cI, 90, .inl (fun _ => 0))), (b31, .inl (cI, 90, .inl (fun _ => 0))), (b32, .inl (cI, 90, .inl (fun _ => 0))), (b33, .inl (cI, 90, .inl (fun _ => 0))), (b34, .inl (cI, 90, .inl (fun _ => 0))), (b35, .inl (cI, 5, .inl (fun _ => 0)))]) hD hS hA [0, 1, 2, 3, 4, 5, 6, 7, 8, 9, 10, 11, 12, 13, 14, 15, 16, 17, 18, 19, 20, 21, 22, 23, 24, 25, 26, 27, 28, 29, 30, 31] rfl
    refine va_calli (va_runV (As := [.int (xs 1)]) (rest := []) ⟨hx, hb, hml, hown, hts⟩ (m_firstShort l D cI cZ cJ s.heap.size H.size mm 0 w b2 b3 b4 b5 b7 b8 b9 b10 b11 b12 b14 b15 b16 b17 b19 b20 b21 b22 b23 b24 b25 b26 b27 b29 b30 b31 b32 b33 b34 b35 ft (xs 1)) (cwV 1 hts gL_law_X10_firstShort rfl rfl rfl (by decide +kernel) ⟨(Nat.le_of_ble_eq_true rfl), (Nat.le_of_ble_eq_true rfl)⟩) ⟨Pre.blind, va_recv hK hP (ci := 10) (q0 := 0) rfl rfl, Pre.mk hPc (hDc.weaken (fun _ _ _ h => hAlo _ h)) hC hS hAlo⟩ rfl rfl hl.1 rfl (lv_room (Nat.le_of_ble_eq_true rfl)) dL_law_2737 ⟨(Nat.le_of_ble_eq_true rfl), (Nat.le_of_ble_eq_true rfl)⟩) hS (fun q _ h => hFc q h) hFc (fun r_7 u t H1 locs1 ht hvm e_8 hB hz1 hk1 hS1 => ?_)
    have hS := hS1
    refine W.widen (k := 215) (n := 70948) (by omega) (by omega) ?_
    obtain ⟨tz_9, hP1, hD1, b_10⟩ := hB
    rw [ht] at hP1
    obtain ⟨hP, hD⟩ := va_join (wr := [(ou, .inl (cJ, 1, .inr (.inl (fo_3))))]) (w1 := [(mm, .inr (10, [.ref w, .int tz_9]))]) hP hD [0, 1, 2, 3, 4, 5, 6, 7, 8, 9, 10, 11, 12, 13, 14, 15, 16, 17, 18, 19, 20, 21, 22, 23, 24, 25, 26, 27, 28, 29, 30, 31] [32] rfl rfl (by decide) (by decide) hk1 hFc hP1 hD1
    have e_8 : ((1 ≤ (xs 1) ∧ (xs 1) ≤ 30) → r_7 = (-1)) := e_8
    clear hFc hPc hDc ht hvm hz1 hk1 hS1 hP1 hD1
    generalize H1 = H at hP hS ⊢
    replace hP : va_P D vwCl [(ou, .inl (cJ, 1, .inr (.inl (fo_3)))), (mm, .inr (10, [.ref w, .int tz_9]))] H := hP
    replace hD : va_D (LA s) [(ou, .inl (cJ, 1, .inr (.inl (fo_3)))), (mm, .inr (10, [.ref w, .int tz_9]))] := hD
    have ht9 := Eq.symm (b_10.1 h_5)
    subst ht9
    have ht9 := Eq.symm (e_8 h_5)
    subst ht9
    refine lv_istore (lv' := [(6, .int (-1)), (5, .int 0), (0, .ref b), (1, .ref g), (2, .ref mm), (3, .ref ou), (4, .int 0)]) hx hb dL_law_2740 hl (by decide) rfl (fun ls hl => ?_)
    refine lv_aload_n hx hb dL_law_2742 rfl (lv_at hl 4 rfl) ?_
    have hPc := hP.sub (ws' := [(mm, .inr (10, [.ref w, .int 0]))]) [1] rfl
    have hDc := hD.sub (ws' := [(mm, .inr (10, [.ref w, .int 0]))]) [1] (by decide) rfl
    refine vp_callSi (W.runV (As := []) (rest := []) ⟨hx, hb, hml, hown, hts⟩ (c_thrown l D cI cZ cJ s.heap.size H.size mm 0 w) (cwV 0 hts gL_law_X10_thrown rfl rfl rfl (by decide +kernel) ⟨(Nat.le_of_ble_eq_true rfl), (Nat.le_of_ble_eq_true rfl)⟩) ⟨Pre.blind, va_recv hK hP (ci := 10) (q0 := 1) rfl rfl, Pre.mk hPc (hDc.weaken (fun _ _ _ h => hAlo _ h)) hC hS hAlo⟩ rfl rfl hl.1 rfl (lv_room (Nat.le_of_ble_eq_true rfl)) dL_law_2743 ⟨(Nat.le_of_ble_eq_true rfl), (Nat.le_of_ble_eq_true rfl)⟩) (fun r_11 e_12 => ?_)
    clear hPc hDc
    have e_12 : 0 = r_11 := Eq.symm e_12
    subst e_12
    refine lv_iload hx hb dL_law_2746 (lv_at hl 1 rfl) ?_
    refine lv_icmp_eq (tgt := 2753) hx hb dL_law_2748 (by decide) (fun _ => ?_) (fun c9 => absurd (show (0 : Int32) = (0 : Int32) from (by decide)) c9)
    refine lv_iload hx hb dL_law_2753 (lv_at hl 1 rfl) ?_
    refine lv_if_ne (tgt := 2770) hx hb dL_law_2755 (by decide) (fun c9 => absurd (show (0 : Int32) = (0 : Int32) from (by decide)) c9) (fun _ => ?_)
    refine lv_aload_n hx hb dL_law_2758 rfl (lv_at hl 5 rfl) ?_
    refine lv_iconst (v := 0) hx hb dL_law_2759 (by decide) ?_
    refine va_lald hx hb hK hP 0 2 rfl rfl (by unfold vp_in; decide) dL_law_2760 ?_
    refine lv_tol (y := (-1)) (b_4 h_5) ?_
    refine lv_iload hx hb dL_law_2761 (lv_at hl 0 rfl) ?_
    refine lv_i2l (v := (-1)) hx hb dL_law_2763 (by decide) ?_
    refine W.lcmp hx hb dL_law_2764 ?_
    refine lv_toi (y := 0) (lg_cmp_self _) ?_
    refine lv_if_eq (tgt := 2770) hx hb dL_law_2765 (by decide) (fun _ => ?_) (fun c9 => absurd (show (0 : Int32) = (0 : Int32) from (by decide)) c9)
    refine lv_goto (tgt := 2855) hx hb dL_law_2770 (by decide) ?_
    refine W.widen (k := 1000) (n := 200000) (Nat.le_of_ble_eq_true rfl) (Nat.le_of_ble_eq_true rfl) ?_
    exact T H _ ls hS (lv_sub hl [2, 6] rfl)
  · have hr9 := Eq.symm hr9
    subst hr9
    refine lv_istore (lv' := [(5, .int 1), (0, .ref b), (1, .ref g), (2, .ref mm), (3, .ref ou), (4, .int 0)]) hx hb dL_law_2728 hl (by decide) rfl (fun ls hl => ?_)
    refine lv_aload_n hx hb dL_law_2730 rfl (lv_at hl 3 rfl) ?_
    refine lv_aload_n hx hb dL_law_2731 rfl (lv_at hl 1 rfl) ?_
    refine lv_iload hx hb dL_law_2732 (lv_at hl 5 rfl) ?_
    refine lv_iconst (v := 1) hx hb dL_law_2734 (by decide) ?_
    refine lv_iadd hx hb dL_law_2735 ?_
    refine lv_toi (y := 1) (by decide) ?_
    refine va_sld hx hb hX hbl hbA hS (by unfold vp_in; decide) dL_law_2736 ?_
    refine lv_toi (y := xs 1) (congrArg xs (by decide)) ?_
    have hPc := hP.sub (ws' := [(mm, .inr (10, [.ref w, .int 0])), (w, .inr (9, [.int 0, .int 0, .ref b2, .ref b3, .ref b4, .ref b5, .int 0, .ref b7, .ref b8, .ref b9, .ref b10, .ref b11, .ref b12, .int 0, .ref b14, .ref b15, .ref b16, .ref b17, .int 0, .ref b19, .ref b20, .ref b21, .ref b22, .ref b23, .ref b24, .ref b25, .ref b26, .ref b27, .int 0, .ref b29, .ref b30, .ref b31, .ref b32, .ref b33, .ref b34, .ref b35])), (b2, .inl (cI, 6, .inl (fun _ => 0))), (b3, .inl (cI, 6, .inl (fun _ => 0))), (b4, .inl (cI, 6, .inl (fun _ => 0))), (b5, .inl (cI, 6, .inl (fun _ => 0))), (b7, .inl (cI, 5, .inl (fun _ => 0))), (b8, .inl (cI, 25, .inl (fun _ => 0))), (b9, .inl (cI, 30, .inl (fun _ => 0))), (b10, .inl (cI, 30, .inl (ft))), (b11, .inl (cI, 30, .inl (fun _ => 0))), (b12, .inl (cI, 30, .inl (fun _ => 0))), (b14, .inl (cI, 200, .inl (fun _ => 0))), (b15, .inl (cI, 200, .inl (fun _ => 0))), (b16, .inl (cI, 200, .inl (fun _ => 0))), (b17, .inl (cI, 200, .inl (fun _ => 0))), (b19, .inl (cI, 60, .inl (fun _ => 0))), (b20, .inl (cI, 60, .inl (fun _ => 0))), (b21, .inl (cI, 60, .inl (fun _ => 0))), (b22, .inl (cI, 60, .inl (fun _ => 0))), (b23, .inl (cI, 60, .inl (fun _ => 0))), (b24, .inl (cI, 60, .inl (fun _ => 0))), (b25, .inl (cI, 60, .inl (fun _ => 0))), (b26, .inl (cI, 60, .inl (fun _ => 0))), (b27, .inl (cI, 12000, .inl (fun _ => 0))), (b29, .inl (cI, 90, .inl (fun _ => 0))), (b30, .inl (cI, 90, .inl (fun _ => 0))), (b31, .inl (cI, 90, .inl (fun _ => 0))), (b32, .inl (cI, 90, .inl (fun _ => 0))), (b33, .inl (cI, 90, .inl (fun _ => 0))), (b34, .inl (cI, 90, .inl (fun _ => 0))), (b35, .inl (cI, 5, .inl (fun _ => 0)))]) [0, 1, 2, 3, 4, 5, 6, 7, 8, 9, 10, 11, 12, 13, 14, 15, 16, 17, 18, 19, 20, 21, 22, 23, 24, 25, 26, 27, 28, 29, 30, 31] rfl
    have hDc := hD.sub (ws' := [(mm, .inr (10, [.ref w, .int 0])), (w, .inr (9, [.int 0, .int 0, .ref b2, .ref b3, .ref b4, .ref b5, .int 0, .ref b7, .ref b8, .ref b9, .ref b10, .ref b11, .ref b12, .int 0, .ref b14, .ref b15, .ref b16, .ref b17, .int 0, .ref b19, .ref b20, .ref b21, .ref b22, .ref b23, .ref b24, .ref b25, .ref b26, .ref b27, .int 0, .ref b29, .ref b30, .ref b31, .ref b32, .ref b33, .ref b34, .ref b35])), (b2, .inl (cI, 6, .inl (fun _ => 0))), (b3, .inl (cI, 6, .inl (fun _ => 0))), (b4, .inl (cI, 6, .inl (fun _ => 0))), (b5, .inl (cI, 6, .inl (fun _ => 0))), (b7, .inl (cI, 5, .inl (fun _ => 0))), (b8, .inl (cI, 25, .inl (fun _ => 0))), (b9, .inl (cI, 30, .inl (fun _ => 0))), (b10, .inl (cI, 30, .inl (ft))), (b11, .inl (cI, 30, .inl (fun _ => 0))), (b12, .inl (cI, 30, .inl (fun _ => 0))), (b14, .inl (cI, 200, .inl (fun _ => 0))), (b15, .inl (cI, 200, .inl (fun _ => 0))), (b16, .inl (cI, 200, .inl (fun _ => 0))), (b17, .inl (cI, 200, .inl (fun _ => 0))), (b19, .inl (cI, 60, .inl (fun _ => 0))), (b20, .inl (cI, 60, .inl (fun _ => 0))), (b21, .inl (cI, 60, .inl (fun _ => 0))), (b22, .inl (cI, 60, .inl (fun _ => 0))), (b23, .inl (cI, 60, .inl (fun _ => 0))), (b24, .inl (cI, 60, .inl (fun _ => 0))), (b25, .inl (cI, 60, .inl (fun _ => 0))), (b26, .inl (cI, 60, .inl (fun _ => 0))), (b27, .inl (cI, 12000, .inl (fun _ => 0))), (b29, .inl (cI, 90, .inl (fun _ => 0))), (b30, .inl (cI, 90, .inl (fun _ => 0))), (b31, .inl (cI, 90, .inl (fun _ => 0))), (b32, .inl (cI, 90, .inl (fun _ => 0))), (b33, .inl (cI, 90, .inl (fun _ => 0))), (b34, .inl (cI, 90, .inl (fun _ => 0))), (b35, .inl (cI, 5, .inl (fun _ => 0)))]) [0, 1, 2, 3, 4, 5, 6, 7, 8, 9, 10, 11, 12, 13, 14, 15, 16, 17, 18, 19, 20, 21, 22, 23, 24, 25, 26, 27, 28, 29, 30, 31] (by decide) rfl
    have hFc := va_free (wc := [(mm, .inr (10, [.ref w, .int 0])), (w, .inr (9, [.int 0, .int 0, .ref b2, .ref b3, .ref b4, .ref b5, .int 0, .ref b7, .ref b8, .ref b9, .ref b10, .ref b11, .ref b12, .int 0, .ref b14, .ref b15, .ref b16, .ref b17, .int 0, .ref b19, .ref b20, .ref b21, .ref b22, .ref b23, .ref b24, .ref b25, .ref b26, .ref b27, .int 0, .ref b29, .ref b30, .ref b31, .ref b32, .ref b33, .ref b34, .ref b35])), (b2, .inl (cI, 6, .inl (fun _ => 0))), (b3, .inl (cI, 6, .inl (fun _ => 0))), (b4, .inl (cI, 6, .inl (fun _ => 0))), (b5, .inl (cI, 6, .inl (fun _ => 0))), (b7, .inl (cI, 5, .inl (fun _ => 0))), (b8, .inl (cI, 25, .inl (fun _ => 0))), (b9, .inl (cI, 30, .inl (fun _ => 0))), (b10, .inl (cI, 30, .inl (ft))), (b11, .inl (cI, 30, .inl (fun _ => 0))), (b12, .inl (cI, 30, .inl (fun _ => 0))), (b14, .inl (cI, 200, .inl (fun _ => 0))), (b15, .inl (cI, 200, .inl (fun _ => 0))), (b16, .inl (cI, 200, .inl (fun _ => 0))), (b17, .inl (cI, 200, .inl (fun _ => 0))), (b19, .inl (cI, 60, .inl (fun _ => 0))), (b20, .inl (cI, 60, .inl (fun _ => 0))), (b21, .inl (cI, 60, .inl (fun _ => 0))), (b22, .inl (cI, 60, .inl (fun _ => 0))), (b23, .inl (cI, 60, .inl (fun _ => 0))), (b24, .inl (cI, 60, .inl (fun _ => 0))), (b25, .inl (cI, 60, .inl (fun _ => 0))), (b26, .inl (cI, 60, .inl (fun _ => 0))), (b27, .inl (cI, 12000, .inl (fun _ => 0))), (b29, .inl (cI, 90, .inl (fun _ => 0))), (b30, .inl (cI, 90, .inl (fun _ => 0))), (b31, .inl (cI, 90, .inl (fun _ => 0))), (b32, .inl (cI, 90, .inl (fun _ => 0))), (b33, .inl (cI, 90, .inl (fun _ => 0))), (b34, .inl (cI, 90, .inl (fun _ => 0))), (b35, .inl (cI, 5, .inl (fun _ => 0)))]) hD hS hA [0, 1, 2, 3, 4, 5, 6, 7, 8, 9, 10, 11, 12, 13, 14, 15, 16, 17, 18, 19, 20, 21, 22, 23, 24, 25, 26, 27, 28, 29, 30, 31] rfl
    refine va_calli (va_runV (As := [.int (xs 1)]) (rest := []) ⟨hx, hb, hml, hown, hts⟩ (m_firstShort l D cI cZ cJ s.heap.size H.size mm 0 w b2 b3 b4 b5 b7 b8 b9 b10 b11 b12 b14 b15 b16 b17 b19 b20 b21 b22 b23 b24 b25 b26 b27 b29 b30 b31 b32 b33 b34 b35 ft (xs 1)) (cwV 1 hts gL_law_X10_firstShort rfl rfl rfl (by decide +kernel) ⟨(Nat.le_of_ble_eq_true rfl), (Nat.le_of_ble_eq_true rfl)⟩) ⟨Pre.blind, va_recv hK hP (ci := 10) (q0 := 0) rfl rfl, Pre.mk hPc (hDc.weaken (fun _ _ _ h => hAlo _ h)) hC hS hAlo⟩ rfl rfl hl.1 rfl (lv_room (Nat.le_of_ble_eq_true rfl)) dL_law_2737 ⟨(Nat.le_of_ble_eq_true rfl), (Nat.le_of_ble_eq_true rfl)⟩) hS (fun q _ h => hFc q h) hFc (fun r_13 u t H1 locs1 ht hvm e_14 hB hz1 hk1 hS1 => ?_)
    have hS := hS1
    refine W.widen (k := 215) (n := 70948) (by omega) (by omega) ?_
    obtain ⟨tz_15, hP1, hD1, b_16⟩ := hB
    rw [ht] at hP1
    obtain ⟨hP, hD⟩ := va_join (wr := [(ou, .inl (cJ, 1, .inr (.inl (fo_3))))]) (w1 := [(mm, .inr (10, [.ref w, .int tz_15]))]) hP hD [0, 1, 2, 3, 4, 5, 6, 7, 8, 9, 10, 11, 12, 13, 14, 15, 16, 17, 18, 19, 20, 21, 22, 23, 24, 25, 26, 27, 28, 29, 30, 31] [32] rfl rfl (by decide) (by decide) hk1 hFc hP1 hD1
    have e_14 : ((1 ≤ (xs 1) ∧ (xs 1) ≤ 30) → r_13 = (-1)) := e_14
    clear hFc hPc hDc ht hvm hz1 hk1 hS1 hP1 hD1
    generalize H1 = H at hP hS ⊢
    replace hP : va_P D vwCl [(ou, .inl (cJ, 1, .inr (.inl (fo_3)))), (mm, .inr (10, [.ref w, .int tz_15]))] H := hP
    replace hD : va_D (LA s) [(ou, .inl (cJ, 1, .inr (.inl (fo_3)))), (mm, .inr (10, [.ref w, .int tz_15]))] := hD
    have ht9 := Eq.symm (b_16.2 h_6)
    subst ht9
    refine lv_istore (lv' := [(6, .int r_13), (5, .int 1), (0, .ref b), (1, .ref g), (2, .ref mm), (3, .ref ou), (4, .int 0)]) hx hb dL_law_2740 hl (by decide) rfl (fun ls hl => ?_)
    refine lv_aload_n hx hb dL_law_2742 rfl (lv_at hl 4 rfl) ?_
    have hPc := hP.sub (ws' := [(mm, .inr (10, [.ref w, .int 1]))]) [1] rfl
    have hDc := hD.sub (ws' := [(mm, .inr (10, [.ref w, .int 1]))]) [1] (by decide) rfl
    refine vp_callSi (W.runV (As := []) (rest := []) ⟨hx, hb, hml, hown, hts⟩ (c_thrown l D cI cZ cJ s.heap.size H.size mm 1 w) (cwV 0 hts gL_law_X10_thrown rfl rfl rfl (by decide +kernel) ⟨(Nat.le_of_ble_eq_true rfl), (Nat.le_of_ble_eq_true rfl)⟩) ⟨Pre.blind, va_recv hK hP (ci := 10) (q0 := 1) rfl rfl, Pre.mk hPc (hDc.weaken (fun _ _ _ h => hAlo _ h)) hC hS hAlo⟩ rfl rfl hl.1 rfl (lv_room (Nat.le_of_ble_eq_true rfl)) dL_law_2743 ⟨(Nat.le_of_ble_eq_true rfl), (Nat.le_of_ble_eq_true rfl)⟩) (fun r_17 e_18 => ?_)
    clear hPc hDc
    have e_18 : 1 = r_17 := Eq.symm e_18
    subst e_18
    refine lv_iload hx hb dL_law_2746 (lv_at hl 1 rfl) ?_
    refine lv_icmp_eq (tgt := 2753) hx hb dL_law_2748 (by decide) (fun _ => ?_) (fun c9 => absurd (show (1 : Int32) = (1 : Int32) from (by decide)) c9)
    refine lv_iload hx hb dL_law_2753 (lv_at hl 1 rfl) ?_
    refine lv_if_ne (tgt := 2770) hx hb dL_law_2755 (by decide) (fun _ => ?_) (fun c9 => absurd c9 (show ¬ (1 : Int32) = (0 : Int32) from (by decide)))
    refine lv_goto (tgt := 2855) hx hb dL_law_2770 (by decide) ?_
    refine W.widen (k := 1000) (n := 200000) (Nat.le_of_ble_eq_true rfl) (Nat.le_of_ble_eq_true rfl) ?_
    exact T H _ ls hS (lv_sub hl [2, 6] rfl)

set_option maxHeartbeats 4000000 in
set_option maxRecDepth 100000 in
/-- the law at a call of shippedOn -/
theorem law_shippedOn {p : Program} {l : Launch} {e : Env} {s : State} {m : MethodId} {below : List Frame} {meth : Method} {c : Code} {Q : State → Prop} (hl9 : l.stackTraces = false) (D : va_G) (cI cZ cJ : ClassId) (b : Nat) (xs : Nat → Int32) (C0 : LC s p m c D cI cZ cJ b xs) (g : Nat) (nw : Nat) (la : Nat) (pn : Nat) (aI : Nat) (aS : Nat) (aP : Nat) (aL : Nat) (aO : Nat) (aT : Nat) (aA : Nat) (aQ : Nat) (aO1 : Nat) (aO2 : Nat) (aO3 : Nat) (aO4 : Nat) (aO5 : Nat) (aO6 : Nat) (aO7 : Nat) (aO8 : Nat) (aO9 : Nat) (aO10 : Nat) (mm : Nat) (w : Nat) (b2 : Nat) (b3 : Nat) (b4 : Nat) (b5 : Nat) (b7 : Nat) (b8 : Nat) (b9 : Nat) (b10 : Nat) (b11 : Nat) (b12 : Nat) (b14 : Nat) (b15 : Nat) (b16 : Nat) (b17 : Nat) (b19 : Nat) (b20 : Nat) (b21 : Nat) (b22 : Nat) (b23 : Nat) (b24 : Nat) (b25 : Nat) (b26 : Nat) (b27 : Nat) (b29 : Nat) (b30 : Nat) (b31 : Nat) (b32 : Nat) (b33 : Nat) (b34 : Nat) (b35 : Nat) (ou : Nat) (T : LT p l e s m below meth c b Q) {H : Heap} {locs : List Loc} {ls : Array Slot} (hP : va_P D vwCl [(g, .inr (8, [.ref nw, .ref la, .ref pn])), (nw, .inr (6, [.int 0, .ref aI, .ref aS, .ref aP, .ref aL, .ref aO, .ref aT, .ref aA, .ref aQ])), (aO, .inr (2, [.int 0, .ref aO1, .ref aO2, .ref aO3, .ref aO4, .ref aO5, .ref aO6, .ref aO7, .ref aO8, .ref aO9, .ref aO10])), (mm, .inr (10, [.ref w, .int 0])), (w, .inr (9, [.int 0, .int 0, .ref b2, .ref b3, .ref b4, .ref b5, .int 0, .ref b7, .ref b8, .ref b9, .ref b10, .ref b11, .ref b12, .int 0, .ref b14, .ref b15, .ref b16, .ref b17, .int 0, .ref b19, .ref b20, .ref b21, .ref b22, .ref b23, .ref b24, .ref b25, .ref b26, .ref b27, .int 0, .ref b29, .ref b30, .ref b31, .ref b32, .ref b33, .ref b34, .ref b35]))] H) (hD : va_D (LA s) [(g, .inr (8, [.ref nw, .ref la, .ref pn])), (nw, .inr (6, [.int 0, .ref aI, .ref aS, .ref aP, .ref aL, .ref aO, .ref aT, .ref aA, .ref aQ])), (aO, .inr (2, [.int 0, .ref aO1, .ref aO2, .ref aO3, .ref aO4, .ref aO5, .ref aO6, .ref aO7, .ref aO8, .ref aO9, .ref aO10])), (mm, .inr (10, [.ref w, .int 0])), (w, .inr (9, [.int 0, .int 0, .ref b2, .ref b3, .ref b4, .ref b5, .int 0, .ref b7, .ref b8, .ref b9, .ref b10, .ref b11, .ref b12, .int 0, .ref b14, .ref b15, .ref b16, .ref b17, .int 0, .ref b19, .ref b20, .ref b21, .ref b22, .ref b23, .ref b24, .ref b25, .ref b26, .ref b27, .int 0, .ref b29, .ref b30, .ref b31, .ref b32, .ref b33, .ref b34, .ref b35]))]) (hS : va_S (LA s) s.heap H locs) (hl : lv_has ls 9 [(0, .ref b), (1, .ref g), (2, .ref mm), (3, .ref ou), (4, .int 0)]) : W p l e room_1 s m #[Value.ref b] below meth c H locs 123 42908 Q (F0 m 2773 ls []) := by
  obtain ⟨hx, hb, hml, hown, hts, hX, hbl, hC⟩ := C0
  have hK := hC.K
  have hA : ∀ q : Nat, s.heap.size ≤ q → LA s q := fun _ h => h
  have hAlo : ∀ q, LA s q → s.heap.size ≤ q := fun _ h => h
  have hbA : ¬ LA s b := Nat.not_le.mpr hbl
  refine lv_aload_n hx hb dL_law_2773 rfl (lv_at hl 1 rfl) ?_
  refine lv_aload_n hx hb dL_law_2774 rfl (lv_at hl 0 rfl) ?_
  refine lv_iload hx hb dL_law_2775 (lv_at hl 4 rfl) ?_
  refine lv_iconst (v := 1) hx hb dL_law_2777 (by decide) ?_
  refine lv_iadd hx hb dL_law_2778 ?_
  refine lv_toi (y := 1) (by decide) ?_
  refine va_sld hx hb hX hbl hbA hS (by unfold vp_in; decide) dL_law_2779 ?_
  refine lv_toi (y := xs 1) (congrArg xs (by decide)) ?_
  refine lv_aload_n hx hb dL_law_2780 rfl (lv_at hl 0 rfl) ?_
  refine lv_iload hx hb dL_law_2781 (lv_at hl 4 rfl) ?_
  refine lv_iconst (v := 2) hx hb dL_law_2783 (by decide) ?_
  refine lv_iadd hx hb dL_law_2784 ?_
  refine lv_toi (y := 2) (by decide) ?_
  refine va_sld hx hb hX hbl hbA hS (by unfold vp_in; decide) dL_law_2785 ?_
  refine lv_toi (y := xs 2) (congrArg xs (by decide)) ?_
  refine lv_aload_n hx hb dL_law_2786 rfl (lv_at hl 3 rfl) ?_
  have hPc := hP.sub (ws' := [(g, .inr (8, [.ref nw, .ref la, .ref pn])), (nw, .inr (6, [.int 0, .ref aI, .ref aS, .ref aP, .ref aL, .ref aO, .ref aT, .ref aA, .ref aQ])), (aO, .inr (2, [.int 0, .ref aO1, .ref aO2, .ref aO3, .ref aO4, .ref aO5, .ref aO6, .ref aO7, .ref aO8, .ref aO9, .ref aO10]))]) [0, 1, 2] rfl
  have hDc := hD.sub (ws' := [(g, .inr (8, [.ref nw, .ref la, .ref pn])), (nw, .inr (6, [.int 0, .ref aI, .ref aS, .ref aP, .ref aL, .ref aO, .ref aT, .ref aA, .ref aQ])), (aO, .inr (2, [.int 0, .ref aO1, .ref aO2, .ref aO3, .ref aO4, .ref aO5, .ref aO6, .ref aO7, .ref aO8, .ref aO9, .ref aO10]))]) [0, 1, 2] (by decide) rfl
  have hFc := va_free (wc := [(g, .inr (8, [.ref nw, .ref la, .ref pn])), (nw, .inr (6, [.int 0, .ref aI, .ref aS, .ref aP, .ref aL, .ref aO, .ref aT, .ref aA, .ref aQ])), (aO, .inr (2, [.int 0, .ref aO1, .ref aO2, .ref aO3, .ref aO4, .ref aO5, .ref aO6, .ref aO7, .ref aO8, .ref aO9, .ref aO10]))]) hD hS hA [0, 1, 2] rfl
  refine va_calli (vx_runSW (As := [.ref g, .int (xs 1), .int (xs 2), .ref ou]) (rest := []) ⟨hx, hb, hml, hown, hts⟩ (h_shippedOn l hl9 D cI cZ cJ s.heap.size H.size g nw la pn 0 aI aS aP aL aO aT aA aQ aO1 aO2 aO3 aO4 aO5 aO6 aO7 aO8 aO9 aO10 (xs 1) (xs 2) ou) (vx_cwSW 4 hts gL_law_L_shippedOn rfl rfl rfl (by decide +kernel) ⟨(Nat.le_of_ble_eq_true rfl), (Nat.le_of_ble_eq_true rfl)⟩) ⟨Pre.blind, Pre.mk hPc (hDc.weaken (fun _ _ _ h => hAlo _ h)) hC hS hAlo⟩ rfl rfl hl.1 rfl (lv_room (Nat.le_of_ble_eq_true rfl)) dL_law_2787 ⟨(Nat.le_of_ble_eq_true rfl), (Nat.le_of_ble_eq_true rfl)⟩) hS (fun q _ h => hFc q h) hFc (fun r_1 u t H1 locs1 ht hvm e_2 hB hz1 hk1 hS1 => ?_)
  have hS := hS1
  refine W.widen (k := 124) (n := 42914) (by omega) (by omega) ?_
  obtain ⟨hP, hD⟩ := va_rest (wr := [(mm, .inr (10, [.ref w, .int 0])), (w, .inr (9, [.int 0, .int 0, .ref b2, .ref b3, .ref b4, .ref b5, .int 0, .ref b7, .ref b8, .ref b9, .ref b10, .ref b11, .ref b12, .int 0, .ref b14, .ref b15, .ref b16, .ref b17, .int 0, .ref b19, .ref b20, .ref b21, .ref b22, .ref b23, .ref b24, .ref b25, .ref b26, .ref b27, .int 0, .ref b29, .ref b30, .ref b31, .ref b32, .ref b33, .ref b34, .ref b35]))]) hP hD [0, 1, 2] [3, 4] rfl rfl (by decide) (by decide) hk1 hFc
  have e_2 : 1 = r_1 := Eq.symm e_2
  subst e_2
  clear hFc hPc hDc ht hvm hz1 hk1 hS1 hB
  generalize H1 = H at hP hS ⊢
  replace hP : va_P D vwCl [(mm, .inr (10, [.ref w, .int 0])), (w, .inr (9, [.int 0, .int 0, .ref b2, .ref b3, .ref b4, .ref b5, .int 0, .ref b7, .ref b8, .ref b9, .ref b10, .ref b11, .ref b12, .int 0, .ref b14, .ref b15, .ref b16, .ref b17, .int 0, .ref b19, .ref b20, .ref b21, .ref b22, .ref b23, .ref b24, .ref b25, .ref b26, .ref b27, .int 0, .ref b29, .ref b30, .ref b31, .ref b32, .ref b33, .ref b34, .ref b35]))] H := hP
  replace hD : va_D (LA s) [(mm, .inr (10, [.ref w, .int 0])), (w, .inr (9, [.int 0, .int 0, .ref b2, .ref b3, .ref b4, .ref b5, .int 0, .ref b7, .ref b8, .ref b9, .ref b10, .ref b11, .ref b12, .int 0, .ref b14, .ref b15, .ref b16, .ref b17, .int 0, .ref b19, .ref b20, .ref b21, .ref b22, .ref b23, .ref b24, .ref b25, .ref b26, .ref b27, .int 0, .ref b29, .ref b30, .ref b31, .ref b32, .ref b33, .ref b34, .ref b35]))] := hD
  refine lv_istore (lv' := [(5, .int 1), (0, .ref b), (1, .ref g), (2, .ref mm), (3, .ref ou), (4, .int 0)]) hx hb dL_law_2790 hl (by decide) rfl (fun ls hl => ?_)
  refine lv_aload_n hx hb dL_law_2792 rfl (lv_at hl 3 rfl) ?_
  refine lv_aload_n hx hb dL_law_2793 rfl (lv_at hl 1 rfl) ?_
  refine lv_iload hx hb dL_law_2794 (lv_at hl 5 rfl) ?_
  refine lv_iconst (v := 1) hx hb dL_law_2796 (by decide) ?_
  refine lv_iadd hx hb dL_law_2797 ?_
  refine lv_toi (y := 1) (by decide) ?_
  refine va_sld hx hb hX hbl hbA hS (by unfold vp_in; decide) dL_law_2798 ?_
  refine lv_toi (y := xs 1) (congrArg xs (by decide)) ?_
  refine lv_aload_n hx hb dL_law_2799 rfl (lv_at hl 1 rfl) ?_
  refine lv_iload hx hb dL_law_2800 (lv_at hl 5 rfl) ?_
  refine lv_iconst (v := 2) hx hb dL_law_2802 (by decide) ?_
  refine lv_iadd hx hb dL_law_2803 ?_
  refine lv_toi (y := 2) (by decide) ?_
  refine va_sld hx hb hX hbl hbA hS (by unfold vp_in; decide) dL_law_2804 ?_
  refine lv_toi (y := xs 2) (congrArg xs (by decide)) ?_
  have hPc := hP.sub (ws' := [(mm, .inr (10, [.ref w, .int 0])), (w, .inr (9, [.int 0, .int 0, .ref b2, .ref b3, .ref b4, .ref b5, .int 0, .ref b7, .ref b8, .ref b9, .ref b10, .ref b11, .ref b12, .int 0, .ref b14, .ref b15, .ref b16, .ref b17, .int 0, .ref b19, .ref b20, .ref b21, .ref b22, .ref b23, .ref b24, .ref b25, .ref b26, .ref b27, .int 0, .ref b29, .ref b30, .ref b31, .ref b32, .ref b33, .ref b34, .ref b35]))]) [0, 1] rfl
  have hDc := hD.sub (ws' := [(mm, .inr (10, [.ref w, .int 0])), (w, .inr (9, [.int 0, .int 0, .ref b2, .ref b3, .ref b4, .ref b5, .int 0, .ref b7, .ref b8, .ref b9, .ref b10, .ref b11, .ref b12, .int 0, .ref b14, .ref b15, .ref b16, .ref b17, .int 0, .ref b19, .ref b20, .ref b21, .ref b22, .ref b23, .ref b24, .ref b25, .ref b26, .ref b27, .int 0, .ref b29, .ref b30, .ref b31, .ref b32, .ref b33, .ref b34, .ref b35]))]) [0, 1] (by decide) rfl
  have hFc := va_free (wc := [(mm, .inr (10, [.ref w, .int 0])), (w, .inr (9, [.int 0, .int 0, .ref b2, .ref b3, .ref b4, .ref b5, .int 0, .ref b7, .ref b8, .ref b9, .ref b10, .ref b11, .ref b12, .int 0, .ref b14, .ref b15, .ref b16, .ref b17, .int 0, .ref b19, .ref b20, .ref b21, .ref b22, .ref b23, .ref b24, .ref b25, .ref b26, .ref b27, .int 0, .ref b29, .ref b30, .ref b31, .ref b32, .ref b33, .ref b34, .ref b35]))]) hD hS hA [0, 1] rfl
  refine va_calli (va_runV (As := [.int (xs 1), .int (xs 2)]) (rest := []) ⟨hx, hb, hml, hown, hts⟩ (m_shippedOn l D cI cZ cJ s.heap.size H.size mm 0 w 0 b2 b3 b4 b5 b7 b8 b9 b10 b11 b12 b14 b15 b16 b17 b19 b20 b21 b22 b23 b24 b25 b26 b27 b29 b30 b31 b32 b33 b34 b35 (xs 1) (xs 2)) (cwV 2 hts gL_law_X10_shippedOn rfl rfl rfl (by decide +kernel) ⟨(Nat.le_of_ble_eq_true rfl), (Nat.le_of_ble_eq_true rfl)⟩) ⟨Pre.blind, va_recv hK hP (ci := 10) (q0 := 0) rfl rfl, Pre.mk hPc (hDc.weaken (fun _ _ _ h => hAlo _ h)) hC hS hAlo⟩ rfl rfl hl.1 rfl (lv_room (Nat.le_of_ble_eq_true rfl)) dL_law_2805 ⟨(Nat.le_of_ble_eq_true rfl), (Nat.le_of_ble_eq_true rfl)⟩) hS (fun q _ h => hFc q h) hFc (fun r_3 u t H1 locs1 ht hvm e_4 hB hz1 hk1 hS1 => ?_)
  have hS := hS1
  refine W.widen (k := 124) (n := 42914) (by omega) (by omega) ?_
  obtain ⟨hP1, hD1⟩ := hB
  rw [ht] at hP1
  obtain ⟨hP, hD⟩ := va_join (wr := []) (w1 := [(mm, .inr (10, [.ref w, .int 1]))]) hP hD [0, 1] [] rfl rfl (by decide) (by decide) hk1 hFc hP1 hD1
  have e_4 : 0 = r_3 := Eq.symm e_4
  subst e_4
  clear hFc hPc hDc ht hvm hz1 hk1 hS1 hP1 hD1
  generalize H1 = H at hP hS ⊢
  replace hP : va_P D vwCl [(mm, .inr (10, [.ref w, .int 1]))] H := hP
  replace hD : va_D (LA s) [(mm, .inr (10, [.ref w, .int 1]))] := hD
  refine lv_istore (lv' := [(6, .int 0), (5, .int 1), (0, .ref b), (1, .ref g), (2, .ref mm), (3, .ref ou), (4, .int 0)]) hx hb dL_law_2808 hl (by decide) rfl (fun ls hl => ?_)
  refine lv_aload_n hx hb dL_law_2810 rfl (lv_at hl 4 rfl) ?_
  have hPc := hP.sub (ws' := [(mm, .inr (10, [.ref w, .int 1]))]) [0] rfl
  have hDc := hD.sub (ws' := [(mm, .inr (10, [.ref w, .int 1]))]) [0] (by decide) rfl
  refine vp_callSi (W.runV (As := []) (rest := []) ⟨hx, hb, hml, hown, hts⟩ (c_thrown l D cI cZ cJ s.heap.size H.size mm 1 w) (cwV 0 hts gL_law_X10_thrown rfl rfl rfl (by decide +kernel) ⟨(Nat.le_of_ble_eq_true rfl), (Nat.le_of_ble_eq_true rfl)⟩) ⟨Pre.blind, va_recv hK hP (ci := 10) (q0 := 0) rfl rfl, Pre.mk hPc (hDc.weaken (fun _ _ _ h => hAlo _ h)) hC hS hAlo⟩ rfl rfl hl.1 rfl (lv_room (Nat.le_of_ble_eq_true rfl)) dL_law_2811 ⟨(Nat.le_of_ble_eq_true rfl), (Nat.le_of_ble_eq_true rfl)⟩) (fun r_5 e_6 => ?_)
  clear hPc hDc
  have e_6 : 1 = r_5 := Eq.symm e_6
  subst e_6
  refine lv_iload hx hb dL_law_2814 (lv_at hl 1 rfl) ?_
  refine lv_icmp_eq (tgt := 2821) hx hb dL_law_2816 (by decide) (fun _ => ?_) (fun c9 => absurd (show (1 : Int32) = (1 : Int32) from (by decide)) c9)
  refine lv_iload hx hb dL_law_2821 (lv_at hl 1 rfl) ?_
  refine lv_if_ne (tgt := 2838) hx hb dL_law_2823 (by decide) (fun _ => ?_) (fun c9 => absurd c9 (show ¬ (1 : Int32) = (0 : Int32) from (by decide)))
  refine lv_goto (tgt := 2855) hx hb dL_law_2838 (by decide) ?_
  refine W.widen (k := 1000) (n := 200000) (Nat.le_of_ble_eq_true rfl) (Nat.le_of_ble_eq_true rfl) ?_
  exact T H _ ls hS (lv_sub hl [2, 6] rfl)

set_option maxHeartbeats 4000000 in
set_option maxRecDepth 100000 in
/-- the law at a call of digest -/
theorem law_digest {p : Program} {l : Launch} {e : Env} {s : State} {m : MethodId} {below : List Frame} {meth : Method} {c : Code} {Q : State → Prop} (hl9 : l.stackTraces = false) (D : va_G) (cI cZ cJ : ClassId) (b : Nat) (xs : Nat → Int32) (C0 : LC s p m c D cI cZ cJ b xs) (g : Nat) (nw : Nat) (la : Nat) (pn : Nat) (aI : Nat) (aS : Nat) (aP : Nat) (aL : Nat) (aO : Nat) (aT : Nat) (aA : Nat) (aQ : Nat) (aI1 : Nat) (aI2 : Nat) (aI3 : Nat) (aI4 : Nat) (aS1 : Nat) (aS2 : Nat) (aL1 : Nat) (aL2 : Nat) (aL3 : Nat) (aL4 : Nat) (aL5 : Nat) (aO1 : Nat) (aO2 : Nat) (aO3 : Nat) (aO4 : Nat) (aO5 : Nat) (aO6 : Nat) (aO7 : Nat) (aO8 : Nat) (aO9 : Nat) (aO10 : Nat) (aT1 : Nat) (aT2 : Nat) (aT3 : Nat) (aT4 : Nat) (aT5 : Nat) (aT6 : Nat) (mm : Nat) (w : Nat) (b2 : Nat) (b3 : Nat) (b4 : Nat) (b5 : Nat) (b7 : Nat) (b8 : Nat) (b9 : Nat) (b10 : Nat) (b11 : Nat) (b12 : Nat) (b14 : Nat) (b15 : Nat) (b16 : Nat) (b17 : Nat) (b19 : Nat) (b20 : Nat) (b21 : Nat) (b22 : Nat) (b23 : Nat) (b24 : Nat) (b25 : Nat) (b26 : Nat) (b27 : Nat) (b29 : Nat) (b30 : Nat) (b31 : Nat) (b32 : Nat) (b33 : Nat) (b34 : Nat) (b35 : Nat) (ou : Nat) (T : LT p l e s m below meth c b Q) {H : Heap} {locs : List Loc} {ls : Array Slot} (hP : va_P D vwCl [(g, .inr (8, [.ref nw, .ref la, .ref pn])), (nw, .inr (6, [.int 0, .ref aI, .ref aS, .ref aP, .ref aL, .ref aO, .ref aT, .ref aA, .ref aQ])), (aI, .inr (0, [.int 0, .ref aI1, .ref aI2, .ref aI3, .ref aI4])), (aS, .inr (5, [.int 0, .ref aS1, .ref aS2])), (aL, .inr (1, [.int 0, .ref aL1, .ref aL2, .ref aL3, .ref aL4, .ref aL5])), (aO, .inr (2, [.int 0, .ref aO1, .ref aO2, .ref aO3, .ref aO4, .ref aO5, .ref aO6, .ref aO7, .ref aO8, .ref aO9, .ref aO10])), (aT, .inr (7, [.int 0, .ref aT1, .ref aT2, .ref aT3, .ref aT4, .ref aT5, .ref aT6])), (aA, .inl (cI, 5, .inl (fun _ => 0))), (mm, .inr (10, [.ref w, .int 0])), (w, .inr (9, [.int 0, .int 0, .ref b2, .ref b3, .ref b4, .ref b5, .int 0, .ref b7, .ref b8, .ref b9, .ref b10, .ref b11, .ref b12, .int 0, .ref b14, .ref b15, .ref b16, .ref b17, .int 0, .ref b19, .ref b20, .ref b21, .ref b22, .ref b23, .ref b24, .ref b25, .ref b26, .ref b27, .int 0, .ref b29, .ref b30, .ref b31, .ref b32, .ref b33, .ref b34, .ref b35])), (b35, .inl (cI, 5, .inl (fun _ => 0)))] H) (hD : va_D (LA s) [(g, .inr (8, [.ref nw, .ref la, .ref pn])), (nw, .inr (6, [.int 0, .ref aI, .ref aS, .ref aP, .ref aL, .ref aO, .ref aT, .ref aA, .ref aQ])), (aI, .inr (0, [.int 0, .ref aI1, .ref aI2, .ref aI3, .ref aI4])), (aS, .inr (5, [.int 0, .ref aS1, .ref aS2])), (aL, .inr (1, [.int 0, .ref aL1, .ref aL2, .ref aL3, .ref aL4, .ref aL5])), (aO, .inr (2, [.int 0, .ref aO1, .ref aO2, .ref aO3, .ref aO4, .ref aO5, .ref aO6, .ref aO7, .ref aO8, .ref aO9, .ref aO10])), (aT, .inr (7, [.int 0, .ref aT1, .ref aT2, .ref aT3, .ref aT4, .ref aT5, .ref aT6])), (aA, .inl (cI, 5, .inl (fun _ => 0))), (mm, .inr (10, [.ref w, .int 0])), (w, .inr (9, [.int 0, .int 0, .ref b2, .ref b3, .ref b4, .ref b5, .int 0, .ref b7, .ref b8, .ref b9, .ref b10, .ref b11, .ref b12, .int 0, .ref b14, .ref b15, .ref b16, .ref b17, .int 0, .ref b19, .ref b20, .ref b21, .ref b22, .ref b23, .ref b24, .ref b25, .ref b26, .ref b27, .int 0, .ref b29, .ref b30, .ref b31, .ref b32, .ref b33, .ref b34, .ref b35])), (b35, .inl (cI, 5, .inl (fun _ => 0)))]) (hS : va_S (LA s) s.heap H locs) (hl : lv_has ls 9 [(0, .ref b), (1, .ref g), (2, .ref mm), (3, .ref ou), (4, .int 0)]) : W p l e room_1 s m #[Value.ref b] below meth c H locs 123 42908 Q (F0 m 2841 ls []) := by
  obtain ⟨hx, hb, hml, hown, hts, hX, hbl, hC⟩ := C0
  have hK := hC.K
  have hA : ∀ q : Nat, s.heap.size ≤ q → LA s q := fun _ h => h
  have hAlo : ∀ q, LA s q → s.heap.size ≤ q := fun _ h => h
  have hbA : ¬ LA s b := Nat.not_le.mpr hbl
  refine lv_aload_n hx hb dL_law_2841 rfl (lv_at hl 1 rfl) ?_
  have hPc := hP.sub (ws' := [(g, .inr (8, [.ref nw, .ref la, .ref pn])), (nw, .inr (6, [.int 0, .ref aI, .ref aS, .ref aP, .ref aL, .ref aO, .ref aT, .ref aA, .ref aQ])), (aI, .inr (0, [.int 0, .ref aI1, .ref aI2, .ref aI3, .ref aI4])), (aS, .inr (5, [.int 0, .ref aS1, .ref aS2])), (aL, .inr (1, [.int 0, .ref aL1, .ref aL2, .ref aL3, .ref aL4, .ref aL5])), (aO, .inr (2, [.int 0, .ref aO1, .ref aO2, .ref aO3, .ref aO4, .ref aO5, .ref aO6, .ref aO7, .ref aO8, .ref aO9, .ref aO10])), (aT, .inr (7, [.int 0, .ref aT1, .ref aT2, .ref aT3, .ref aT4, .ref aT5, .ref aT6])), (aA, .inl (cI, 5, .inl (fun _ => 0)))]) [0, 1, 2, 3, 4, 5, 6, 7] rfl
  have hDc := hD.sub (ws' := [(g, .inr (8, [.ref nw, .ref la, .ref pn])), (nw, .inr (6, [.int 0, .ref aI, .ref aS, .ref aP, .ref aL, .ref aO, .ref aT, .ref aA, .ref aQ])), (aI, .inr (0, [.int 0, .ref aI1, .ref aI2, .ref aI3, .ref aI4])), (aS, .inr (5, [.int 0, .ref aS1, .ref aS2])), (aL, .inr (1, [.int 0, .ref aL1, .ref aL2, .ref aL3, .ref aL4, .ref aL5])), (aO, .inr (2, [.int 0, .ref aO1, .ref aO2, .ref aO3, .ref aO4, .ref aO5, .ref aO6, .ref aO7, .ref aO8, .ref aO9, .ref aO10])), (aT, .inr (7, [.int 0, .ref aT1, .ref aT2, .ref aT3, .ref aT4, .ref aT5, .ref aT6])), (aA, .inl (cI, 5, .inl (fun _ => 0)))]) [0, 1, 2, 3, 4, 5, 6, 7] (by decide) rfl
  refine vp_callSl (W.runV (As := []) (rest := []) ⟨hx, hb, hml, hown, hts⟩ (c_digest l D cI cZ cJ s.heap.size H.size g nw la pn aI aS aP aL aO aT aA aQ aI1 aI2 aI3 aI4 aS1 aS2 aL1 aL2 aL3 aL4 aL5 aO1 aO2 aO3 aO4 aO5 aO6 aO7 aO8 aO9 aO10 aT1 aT2 aT3 aT4 aT5 aT6) (cwV 0 hts gL_law_X8_digest rfl rfl rfl (by decide +kernel) ⟨(Nat.le_of_ble_eq_true rfl), (Nat.le_of_ble_eq_true rfl)⟩) ⟨Pre.blind, va_recv hK hP (ci := 8) (q0 := 0) rfl rfl, Pre.mk hPc (hDc.weaken (fun _ _ _ h => hAlo _ h)) hC hS hAlo⟩ rfl rfl hl.1 rfl (lv_room (Nat.le_of_ble_eq_true rfl)) dL_law_2842 ⟨(Nat.le_of_ble_eq_true rfl), (Nat.le_of_ble_eq_true rfl)⟩) (fun r_1 e_2 => ?_)
  clear hPc hDc
  have e_2 : (-1158569213909762195) = r_1 := Eq.symm e_2
  subst e_2
  refine lv_aload_n hx hb dL_law_2845 rfl (lv_at hl 2 rfl) ?_
  have hPc := hP.sub (ws' := [(mm, .inr (10, [.ref w, .int 0])), (w, .inr (9, [.int 0, .int 0, .ref b2, .ref b3, .ref b4, .ref b5, .int 0, .ref b7, .ref b8, .ref b9, .ref b10, .ref b11, .ref b12, .int 0, .ref b14, .ref b15, .ref b16, .ref b17, .int 0, .ref b19, .ref b20, .ref b21, .ref b22, .ref b23, .ref b24, .ref b25, .ref b26, .ref b27, .int 0, .ref b29, .ref b30, .ref b31, .ref b32, .ref b33, .ref b34, .ref b35])), (b35, .inl (cI, 5, .inl (fun _ => 0)))]) [8, 9, 10] rfl
  have hDc := hD.sub (ws' := [(mm, .inr (10, [.ref w, .int 0])), (w, .inr (9, [.int 0, .int 0, .ref b2, .ref b3, .ref b4, .ref b5, .int 0, .ref b7, .ref b8, .ref b9, .ref b10, .ref b11, .ref b12, .int 0, .ref b14, .ref b15, .ref b16, .ref b17, .int 0, .ref b19, .ref b20, .ref b21, .ref b22, .ref b23, .ref b24, .ref b25, .ref b26, .ref b27, .int 0, .ref b29, .ref b30, .ref b31, .ref b32, .ref b33, .ref b34, .ref b35])), (b35, .inl (cI, 5, .inl (fun _ => 0)))]) [8, 9, 10] (by decide) rfl
  have hFc := va_free (wc := [(mm, .inr (10, [.ref w, .int 0])), (w, .inr (9, [.int 0, .int 0, .ref b2, .ref b3, .ref b4, .ref b5, .int 0, .ref b7, .ref b8, .ref b9, .ref b10, .ref b11, .ref b12, .int 0, .ref b14, .ref b15, .ref b16, .ref b17, .int 0, .ref b19, .ref b20, .ref b21, .ref b22, .ref b23, .ref b24, .ref b25, .ref b26, .ref b27, .int 0, .ref b29, .ref b30, .ref b31, .ref b32, .ref b33, .ref b34, .ref b35])), (b35, .inl (cI, 5, .inl (fun _ => 0)))]) hD hS hA [8, 9, 10] rfl
  refine va_calll (va_runV (As := []) (rest := [.long (-1158569213909762195)]) ⟨hx, hb, hml, hown, hts⟩ (m_digest l D cI cZ cJ s.heap.size H.size mm 0 w b2 b3 b4 b5 b7 b8 b9 b10 b11 b12 b14 b15 b16 b17 b19 b20 b21 b22 b23 b24 b25 b26 b27 b29 b30 b31 b32 b33 b34 b35) (cwV 0 hts gL_law_X10_digest rfl rfl rfl (by decide +kernel) ⟨(Nat.le_of_ble_eq_true rfl), (Nat.le_of_ble_eq_true rfl)⟩) ⟨Pre.blind, va_recv hK hP (ci := 10) (q0 := 8) rfl rfl, Pre.mk hPc (hDc.weaken (fun _ _ _ h => hAlo _ h)) hC hS hAlo⟩ rfl rfl hl.1 rfl (lv_room (Nat.le_of_ble_eq_true rfl)) dL_law_2846 ⟨(Nat.le_of_ble_eq_true rfl), (Nat.le_of_ble_eq_true rfl)⟩) hS (fun q _ h => hFc q h) hFc (fun r_3 u t H1 locs1 ht hvm e_4 hB hz1 hk1 hS1 => ?_)
  have hS := hS1
  refine W.widen (k := 123) (n := 42908) (by omega) (by omega) ?_
  obtain ⟨hP, hD⟩ := va_rest (wr := [(g, .inr (8, [.ref nw, .ref la, .ref pn])), (nw, .inr (6, [.int 0, .ref aI, .ref aS, .ref aP, .ref aL, .ref aO, .ref aT, .ref aA, .ref aQ])), (aI, .inr (0, [.int 0, .ref aI1, .ref aI2, .ref aI3, .ref aI4])), (aS, .inr (5, [.int 0, .ref aS1, .ref aS2])), (aL, .inr (1, [.int 0, .ref aL1, .ref aL2, .ref aL3, .ref aL4, .ref aL5])), (aO, .inr (2, [.int 0, .ref aO1, .ref aO2, .ref aO3, .ref aO4, .ref aO5, .ref aO6, .ref aO7, .ref aO8, .ref aO9, .ref aO10])), (aT, .inr (7, [.int 0, .ref aT1, .ref aT2, .ref aT3, .ref aT4, .ref aT5, .ref aT6])), (aA, .inl (cI, 5, .inl (fun _ => 0)))]) hP hD [8, 9, 10] [0, 1, 2, 3, 4, 5, 6, 7] rfl rfl (by decide) (by decide) hk1 hFc
  have e_4 : (-1158569213909762195) = r_3 := Eq.symm e_4
  subst e_4
  clear hFc hPc hDc ht hvm hz1 hk1 hS1 hB
  generalize H1 = H at hP hS ⊢
  replace hP : va_P D vwCl [(g, .inr (8, [.ref nw, .ref la, .ref pn])), (nw, .inr (6, [.int 0, .ref aI, .ref aS, .ref aP, .ref aL, .ref aO, .ref aT, .ref aA, .ref aQ])), (aI, .inr (0, [.int 0, .ref aI1, .ref aI2, .ref aI3, .ref aI4])), (aS, .inr (5, [.int 0, .ref aS1, .ref aS2])), (aL, .inr (1, [.int 0, .ref aL1, .ref aL2, .ref aL3, .ref aL4, .ref aL5])), (aO, .inr (2, [.int 0, .ref aO1, .ref aO2, .ref aO3, .ref aO4, .ref aO5, .ref aO6, .ref aO7, .ref aO8, .ref aO9, .ref aO10])), (aT, .inr (7, [.int 0, .ref aT1, .ref aT2, .ref aT3, .ref aT4, .ref aT5, .ref aT6])), (aA, .inl (cI, 5, .inl (fun _ => 0)))] H := hP
  replace hD : va_D (LA s) [(g, .inr (8, [.ref nw, .ref la, .ref pn])), (nw, .inr (6, [.int 0, .ref aI, .ref aS, .ref aP, .ref aL, .ref aO, .ref aT, .ref aA, .ref aQ])), (aI, .inr (0, [.int 0, .ref aI1, .ref aI2, .ref aI3, .ref aI4])), (aS, .inr (5, [.int 0, .ref aS1, .ref aS2])), (aL, .inr (1, [.int 0, .ref aL1, .ref aL2, .ref aL3, .ref aL4, .ref aL5])), (aO, .inr (2, [.int 0, .ref aO1, .ref aO2, .ref aO3, .ref aO4, .ref aO5, .ref aO6, .ref aO7, .ref aO8, .ref aO9, .ref aO10])), (aT, .inr (7, [.int 0, .ref aT1, .ref aT2, .ref aT3, .ref aT4, .ref aT5, .ref aT6])), (aA, .inl (cI, 5, .inl (fun _ => 0)))] := hD
  refine W.lcmp hx hb dL_law_2849 ?_
  refine lv_toi (y := 0) (lg_cmp_self _) ?_
  refine lv_if_eq (tgt := 2855) hx hb dL_law_2850 (by decide) (fun _ => ?_) (fun c9 => absurd (show (0 : Int32) = (0 : Int32) from (by decide)) c9)
  refine W.widen (k := 1000) (n := 200000) (Nat.le_of_ble_eq_true rfl) (Nat.le_of_ble_eq_true rfl) ?_
  exact T H _ ls hS (lv_sub hl [0, 4] rfl)

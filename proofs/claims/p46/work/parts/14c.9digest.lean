def sg_g_digest_46 (U : sg_Pic) (V : sg_PiL) (P : sg_Pic) : Nat → Int64
  | 0 => sg_g_mixPlans_r U V P (sg_g_mixStocks P (sg_g_mixRoutes P (sg_g_mixTransports P (sg_g_mixOrders P (sg_g_mixLots P (sg_g_mixCounts P 58035))))))
  | j46 + 1 => (((sg_g_digest_46 U V P j46) * 31) + ((sg_roomAt P (nI j46)).toInt64))

def sg_g_digest_r (U : sg_Pic) (V : sg_PiL) (P : sg_Pic) : Int64 := (sg_g_digest_46 U V P (sg_cn P 2))

def sg_g_digest_U (U : sg_Pic) (V : sg_PiL) (P : sg_Pic) : sg_Pic := (sg_g_mixPlans_U U V P (sg_g_mixStocks P (sg_g_mixRoutes P (sg_g_mixTransports P (sg_g_mixOrders P (sg_g_mixLots P (sg_g_mixCounts P 58035)))))))

def sg_g_digest_V (U : sg_Pic) (V : sg_PiL) (P : sg_Pic) : sg_PiL := (sg_g_mixPlans_V U V P (sg_g_mixStocks P (sg_g_mixRoutes P (sg_g_mixTransports P (sg_g_mixOrders P (sg_g_mixLots P (sg_g_mixCounts P 58035)))))))

set_option maxHeartbeats 4000000 in
set_option maxRecDepth 100000 in
/-- X8_digest -/
theorem c_g_digest (l : Launch) (D : va_G) (cI cZ cJ : ClassId) (lo sz : Nat) (g : Nat) (pa : Nat → Nat) (b : Nat → Nat) (U : sg_Pic) (V : sg_PiL) (a : Nat → Nat) (P : sg_Pic) (q : Nat → Int32) (hw : sg_W P) : Met l yX8_digest wsX8_digest ({ frames := 6, cells := 0, slots := 0, locals := 144 }) (Pre lo D cI cZ cJ [.ref g] sz ([(g, .inr (8, [.ref (a 0), .ref (b 0), .ref (pa 0)]))] ++ sg_St cI cZ a P q ++ sg_Pl cI cJ pa U V)) (va_Ql (fun (r : Int64) (_ : Unit) => r = sg_g_digest_r U V P) (fun _ t => va_P D vwCl ([(g, .inr (8, [.ref (a 0), .ref (b 0), .ref (pa 0)]))] ++ sg_St cI cZ a P q ++ sg_Pl cI cJ pa (sg_g_digest_U U V P) (sg_g_digest_V U V P)) t.heap ∧ va_D (va_A ([(g, .inr (8, [.ref (a 0), .ref (b 0), .ref (pa 0)]))] ++ sg_St cI cZ a P q ++ sg_Pl cI cJ pa U V) sz) ([(g, .inr (8, [.ref (a 0), .ref (b 0), .ref (pa 0)]))] ++ sg_St cI cZ a P q ++ sg_Pl cI cJ pa (sg_g_digest_U U V P) (sg_g_digest_V U V P))) (va_A ([(g, .inr (8, [.ref (a 0), .ref (b 0), .ref (pa 0)]))] ++ sg_St cI cZ a P q ++ sg_Pl cI cJ pa U V) sz)) 0 0 (va_A ([(g, .inr (8, [.ref (a 0), .ref (b 0), .ref (pa 0)]))] ++ sg_St cI cZ a P q ++ sg_Pl cI cJ pa U V) sz) := by
  refine Met.ofW (cc := cX8_digest) (maxL := 4) (ret := (some .long)) (by decide) rfl ?_
  intro p e s m args below meth c s₁ B hml hv
  obtain ⟨rfl, hsz, hP, hD0, hC⟩ := hv
  have hx := B.exec
  have hb := B.bytes
  have hr := B.returns
  have hts := atoms_spec (ws := wsX8_digest) B.pre
  have hown : s.vm.findClass RX8 = some m.cls := findClass_of_methodNamed B.named
  have hlocks := B.notSynchronized
  subst hsz
  have hn1 : sg_cn P 1 ≤ 6 := hw.n1
  have hn2 : sg_cn P 2 ≤ 5 := hw.n2
  have hn3 : sg_cn P 3 ≤ 200 := hw.n3
  have hn4 : sg_cn P 4 ≤ 60 := hw.n4
  have hn5 : sg_cn P 5 ≤ 90 := hw.n5
  have hK := hC.K
  have hD := hD0.self (sz := s.heap.size)
  have hAlo0 := va_A_lo hD0 hC.1
  generalize hAe : va_A ([(g, .inr (8, [.ref (a 0), .ref (b 0), .ref (pa 0)]))] ++ sg_St cI cZ a P q ++ sg_Pl cI cJ pa U V) s.heap.size = A at hD hAlo0 ⊢
  have hA : ∀ q : Nat, s.heap.size ≤ q → A q := fun q h => by rw [← hAe]; exact Or.inr h
  have hAlo : ∀ q, A q → lo ≤ q := hAlo0
  have hS : va_S A s.heap s.heap [] := va_S.rf
  have hP : va_P D vwCl ([(g, .inr (8, [.ref (a 0), .ref (b 0), .ref (pa 0)]))] ++ sg_St cI cZ a P q ++ sg_Pl cI cJ pa U V) s.heap := hP
  have hl := lv_entry ([.ref g]) (n := 4) (Nat.le_of_ble_eq_true rfl)
  rw [lg_entry_eq]
  generalize (lg_sl ([.ref g]) ++ List.replicate (4 - (lg_sl ([.ref g])).length) Slot.unset).toArray = ls at hl ⊢
  have hl : lv_has ls 4 [(0, .ref g)] := hl
  have in5 : ∀ w ∈ u_ws RX5 TX5 3, w ∈ wsX8_digest := by decide +kernel
  have in6 : ∀ w ∈ u_ws RX6 TX6 9, w ∈ wsX8_digest := by decide +kernel
  have in8 : ∀ w ∈ u_ws RX8 TX8 3, w ∈ wsX8_digest := by decide +kernel
  refine lv_aload_n hx hb dX8_digest_0 rfl (lv_at hl 0 rfl) ?_
  refine lv_ldc2 hx hb (v := 58035) hown (hts (.constantLong RX8 257 (58035)) (by decide +kernel)) dX8_digest_1 ?_
  have hPc := hP.sub (ws' := ([(g, .inr (8, [.ref (a 0), .ref (b 0), .ref (pa 0)]))] ++ sg_St cI cZ a P q)) [0, 1, 2, 3, 4, 5, 6, 7, 8, 9, 10, 11, 12, 13, 14, 15, 16, 17, 18, 19, 20, 21, 22, 23, 24, 25, 26, 27, 28, 29, 30, 31, 32, 33, 34, 35, 36, 37, 38, 39, 40, 41] rfl
  have hDc := hD.sub (ws' := ([(g, .inr (8, [.ref (a 0), .ref (b 0), .ref (pa 0)]))] ++ sg_St cI cZ a P q)) [0, 1, 2, 3, 4, 5, 6, 7, 8, 9, 10, 11, 12, 13, 14, 15, 16, 17, 18, 19, 20, 21, 22, 23, 24, 25, 26, 27, 28, 29, 30, 31, 32, 33, 34, 35, 36, 37, 38, 39, 40, 41] (by decide) rfl
  refine vp_callSl (W.runV (As := [.long 58035]) (rest := []) ⟨hx, hb, hml, hown, hts⟩ (c_g_mixCounts l D cI cZ cJ lo s.heap.size g pa b a P q 58035 hw) (cwV 1 hts gX8_digest_X8_mixCounts rfl rfl rfl (by decide +kernel) ⟨(Nat.le_of_ble_eq_true rfl), (Nat.le_of_ble_eq_true rfl)⟩) ⟨Pre.blind, va_recv hK hP (ci := 8) (q0 := 0) rfl rfl, Pre.mk hPc (hDc.weaken (fun _ _ _ h => hAlo _ h)) hC hS hAlo⟩ rfl rfl hl.1 rfl (lv_room (Nat.le_of_ble_eq_true rfl)) dX8_digest_4 ⟨(Nat.le_of_ble_eq_true rfl), (Nat.le_of_ble_eq_true rfl)⟩) (fun r_1 e_2 => ?_)
  clear hPc hDc
  have e_2 : sg_g_mixCounts P 58035 = r_1 := Eq.symm e_2
  subst e_2
  refine lv_lstore_n (lv' := [(1, .long (sg_g_mixCounts P 58035)), (0, .ref g)]) hx hb dX8_digest_7 rfl hl (by decide) rfl (fun ls hl => ?_)
  refine lv_aload_n hx hb dX8_digest_8 rfl (lv_at hl 1 rfl) ?_
  refine lv_lload_n hx hb dX8_digest_9 rfl (lv_at hl 0 rfl) ?_
  have hPc := hP.sub (ws' := ([(g, .inr (8, [.ref (a 0), .ref (b 0), .ref (pa 0)]))] ++ sg_St cI cZ a P q)) [0, 1, 2, 3, 4, 5, 6, 7, 8, 9, 10, 11, 12, 13, 14, 15, 16, 17, 18, 19, 20, 21, 22, 23, 24, 25, 26, 27, 28, 29, 30, 31, 32, 33, 34, 35, 36, 37, 38, 39, 40, 41] rfl
  have hDc := hD.sub (ws' := ([(g, .inr (8, [.ref (a 0), .ref (b 0), .ref (pa 0)]))] ++ sg_St cI cZ a P q)) [0, 1, 2, 3, 4, 5, 6, 7, 8, 9, 10, 11, 12, 13, 14, 15, 16, 17, 18, 19, 20, 21, 22, 23, 24, 25, 26, 27, 28, 29, 30, 31, 32, 33, 34, 35, 36, 37, 38, 39, 40, 41] (by decide) rfl
  refine vp_callSl (W.runV (As := [.long (sg_g_mixCounts P 58035)]) (rest := []) ⟨hx, hb, hml, hown, hts⟩ (c_g_mixLots l D cI cZ cJ lo s.heap.size g pa b a P q (sg_g_mixCounts P 58035) hw) (cwV 1 hts gX8_digest_X8_mixLots rfl rfl rfl (by decide +kernel) ⟨(Nat.le_of_ble_eq_true rfl), (Nat.le_of_ble_eq_true rfl)⟩) ⟨Pre.blind, va_recv hK hP (ci := 8) (q0 := 0) rfl rfl, Pre.mk hPc (hDc.weaken (fun _ _ _ h => hAlo _ h)) hC hS hAlo⟩ rfl rfl hl.1 rfl (lv_room (Nat.le_of_ble_eq_true rfl)) dX8_digest_10 ⟨(Nat.le_of_ble_eq_true rfl), (Nat.le_of_ble_eq_true rfl)⟩) (fun r_3 e_4 => ?_)
  clear hPc hDc
  have e_4 : sg_g_mixLots P (sg_g_mixCounts P 58035) = r_3 := Eq.symm e_4
  subst e_4
  refine lv_lstore_n (lv' := [(1, .long (sg_g_mixLots P (sg_g_mixCounts P 58035))), (0, .ref g)]) hx hb dX8_digest_13 rfl hl (by decide) rfl (fun ls hl => ?_)
  refine lv_aload_n hx hb dX8_digest_14 rfl (lv_at hl 1 rfl) ?_
  refine lv_lload_n hx hb dX8_digest_15 rfl (lv_at hl 0 rfl) ?_
  have hPc := hP.sub (ws' := ([(g, .inr (8, [.ref (a 0), .ref (b 0), .ref (pa 0)]))] ++ sg_St cI cZ a P q)) [0, 1, 2, 3, 4, 5, 6, 7, 8, 9, 10, 11, 12, 13, 14, 15, 16, 17, 18, 19, 20, 21, 22, 23, 24, 25, 26, 27, 28, 29, 30, 31, 32, 33, 34, 35, 36, 37, 38, 39, 40, 41] rfl
  have hDc := hD.sub (ws' := ([(g, .inr (8, [.ref (a 0), .ref (b 0), .ref (pa 0)]))] ++ sg_St cI cZ a P q)) [0, 1, 2, 3, 4, 5, 6, 7, 8, 9, 10, 11, 12, 13, 14, 15, 16, 17, 18, 19, 20, 21, 22, 23, 24, 25, 26, 27, 28, 29, 30, 31, 32, 33, 34, 35, 36, 37, 38, 39, 40, 41] (by decide) rfl
  refine vp_callSl (W.runV (As := [.long (sg_g_mixLots P (sg_g_mixCounts P 58035))]) (rest := []) ⟨hx, hb, hml, hown, hts⟩ (c_g_mixOrders l D cI cZ cJ lo s.heap.size g pa b a P q (sg_g_mixLots P (sg_g_mixCounts P 58035)) hw) (cwV 1 hts gX8_digest_X8_mixOrders rfl rfl rfl (by decide +kernel) ⟨(Nat.le_of_ble_eq_true rfl), (Nat.le_of_ble_eq_true rfl)⟩) ⟨Pre.blind, va_recv hK hP (ci := 8) (q0 := 0) rfl rfl, Pre.mk hPc (hDc.weaken (fun _ _ _ h => hAlo _ h)) hC hS hAlo⟩ rfl rfl hl.1 rfl (lv_room (Nat.le_of_ble_eq_true rfl)) dX8_digest_16 ⟨(Nat.le_of_ble_eq_true rfl), (Nat.le_of_ble_eq_true rfl)⟩) (fun r_5 e_6 => ?_)
  clear hPc hDc
  have e_6 : sg_g_mixOrders P (sg_g_mixLots P (sg_g_mixCounts P 58035)) = r_5 := Eq.symm e_6
  subst e_6
  refine lv_lstore_n (lv' := [(1, .long (sg_g_mixOrders P (sg_g_mixLots P (sg_g_mixCounts P 58035)))), (0, .ref g)]) hx hb dX8_digest_19 rfl hl (by decide) rfl (fun ls hl => ?_)
  refine lv_aload_n hx hb dX8_digest_20 rfl (lv_at hl 1 rfl) ?_
  refine lv_lload_n hx hb dX8_digest_21 rfl (lv_at hl 0 rfl) ?_
  have hPc := hP.sub (ws' := ([(g, .inr (8, [.ref (a 0), .ref (b 0), .ref (pa 0)]))] ++ sg_St cI cZ a P q)) [0, 1, 2, 3, 4, 5, 6, 7, 8, 9, 10, 11, 12, 13, 14, 15, 16, 17, 18, 19, 20, 21, 22, 23, 24, 25, 26, 27, 28, 29, 30, 31, 32, 33, 34, 35, 36, 37, 38, 39, 40, 41] rfl
  have hDc := hD.sub (ws' := ([(g, .inr (8, [.ref (a 0), .ref (b 0), .ref (pa 0)]))] ++ sg_St cI cZ a P q)) [0, 1, 2, 3, 4, 5, 6, 7, 8, 9, 10, 11, 12, 13, 14, 15, 16, 17, 18, 19, 20, 21, 22, 23, 24, 25, 26, 27, 28, 29, 30, 31, 32, 33, 34, 35, 36, 37, 38, 39, 40, 41] (by decide) rfl
  refine vp_callSl (W.runV (As := [.long (sg_g_mixOrders P (sg_g_mixLots P (sg_g_mixCounts P 58035)))]) (rest := []) ⟨hx, hb, hml, hown, hts⟩ (c_g_mixTransports l D cI cZ cJ lo s.heap.size g pa b a P q (sg_g_mixOrders P (sg_g_mixLots P (sg_g_mixCounts P 58035))) hw) (cwV 1 hts gX8_digest_X8_mixTransports rfl rfl rfl (by decide +kernel) ⟨(Nat.le_of_ble_eq_true rfl), (Nat.le_of_ble_eq_true rfl)⟩) ⟨Pre.blind, va_recv hK hP (ci := 8) (q0 := 0) rfl rfl, Pre.mk hPc (hDc.weaken (fun _ _ _ h => hAlo _ h)) hC hS hAlo⟩ rfl rfl hl.1 rfl (lv_room (Nat.le_of_ble_eq_true rfl)) dX8_digest_22 ⟨(Nat.le_of_ble_eq_true rfl), (Nat.le_of_ble_eq_true rfl)⟩) (fun r_7 e_8 => ?_)
  clear hPc hDc
  have e_8 : sg_g_mixTransports P (sg_g_mixOrders P (sg_g_mixLots P (sg_g_mixCounts P 58035))) = r_7 := Eq.symm e_8
  subst e_8
  refine lv_lstore_n (lv' := [(1, .long (sg_g_mixTransports P (sg_g_mixOrders P (sg_g_mixLots P (sg_g_mixCounts P 58035))))), (0, .ref g)]) hx hb dX8_digest_25 rfl hl (by decide) rfl (fun ls hl => ?_)
  refine lv_aload_n hx hb dX8_digest_26 rfl (lv_at hl 1 rfl) ?_
  refine lv_lload_n hx hb dX8_digest_27 rfl (lv_at hl 0 rfl) ?_
  have hPc := hP.sub (ws' := ([(g, .inr (8, [.ref (a 0), .ref (b 0), .ref (pa 0)]))] ++ sg_St cI cZ a P q)) [0, 1, 2, 3, 4, 5, 6, 7, 8, 9, 10, 11, 12, 13, 14, 15, 16, 17, 18, 19, 20, 21, 22, 23, 24, 25, 26, 27, 28, 29, 30, 31, 32, 33, 34, 35, 36, 37, 38, 39, 40, 41] rfl
  have hDc := hD.sub (ws' := ([(g, .inr (8, [.ref (a 0), .ref (b 0), .ref (pa 0)]))] ++ sg_St cI cZ a P q)) [0, 1, 2, 3, 4, 5, 6, 7, 8, 9, 10, 11, 12, 13, 14, 15, 16, 17, 18, 19, 20, 21, 22, 23, 24, 25, 26, 27, 28, 29, 30, 31, 32, 33, 34, 35, 36, 37, 38, 39, 40, 41] (by decide) rfl
  refine vp_callSl (W.runV (As := [.long (sg_g_mixTransports P (sg_g_mixOrders P (sg_g_mixLots P (sg_g_mixCounts P 58035))))]) (rest := []) ⟨hx, hb, hml, hown, hts⟩ (c_g_mixRoutes l D cI cZ cJ lo s.heap.size g pa b a P q (sg_g_mixTransports P (sg_g_mixOrders P (sg_g_mixLots P (sg_g_mixCounts P 58035)))) hw) (cwV 1 hts gX8_digest_X8_mixRoutes rfl rfl rfl (by decide +kernel) ⟨(Nat.le_of_ble_eq_true rfl), (Nat.le_of_ble_eq_true rfl)⟩) ⟨Pre.blind, va_recv hK hP (ci := 8) (q0 := 0) rfl rfl, Pre.mk hPc (hDc.weaken (fun _ _ _ h => hAlo _ h)) hC hS hAlo⟩ rfl rfl hl.1 rfl (lv_room (Nat.le_of_ble_eq_true rfl)) dX8_digest_28 ⟨(Nat.le_of_ble_eq_true rfl), (Nat.le_of_ble_eq_true rfl)⟩) (fun r_9 e_10 => ?_)
  clear hPc hDc
  have e_10 : sg_g_mixRoutes P (sg_g_mixTransports P (sg_g_mixOrders P (sg_g_mixLots P (sg_g_mixCounts P 58035)))) = r_9 := Eq.symm e_10
  subst e_10
  refine lv_lstore_n (lv' := [(1, .long (sg_g_mixRoutes P (sg_g_mixTransports P (sg_g_mixOrders P (sg_g_mixLots P (sg_g_mixCounts P 58035)))))), (0, .ref g)]) hx hb dX8_digest_31 rfl hl (by decide) rfl (fun ls hl => ?_)
  refine lv_aload_n hx hb dX8_digest_32 rfl (lv_at hl 1 rfl) ?_
  refine lv_lload_n hx hb dX8_digest_33 rfl (lv_at hl 0 rfl) ?_
  have hPc := hP.sub (ws' := ([(g, .inr (8, [.ref (a 0), .ref (b 0), .ref (pa 0)]))] ++ sg_St cI cZ a P q)) [0, 1, 2, 3, 4, 5, 6, 7, 8, 9, 10, 11, 12, 13, 14, 15, 16, 17, 18, 19, 20, 21, 22, 23, 24, 25, 26, 27, 28, 29, 30, 31, 32, 33, 34, 35, 36, 37, 38, 39, 40, 41] rfl
  have hDc := hD.sub (ws' := ([(g, .inr (8, [.ref (a 0), .ref (b 0), .ref (pa 0)]))] ++ sg_St cI cZ a P q)) [0, 1, 2, 3, 4, 5, 6, 7, 8, 9, 10, 11, 12, 13, 14, 15, 16, 17, 18, 19, 20, 21, 22, 23, 24, 25, 26, 27, 28, 29, 30, 31, 32, 33, 34, 35, 36, 37, 38, 39, 40, 41] (by decide) rfl
  refine vp_callSl (W.runV (As := [.long (sg_g_mixRoutes P (sg_g_mixTransports P (sg_g_mixOrders P (sg_g_mixLots P (sg_g_mixCounts P 58035)))))]) (rest := []) ⟨hx, hb, hml, hown, hts⟩ (c_g_mixStocks l D cI cZ cJ lo s.heap.size g pa b a P q (sg_g_mixRoutes P (sg_g_mixTransports P (sg_g_mixOrders P (sg_g_mixLots P (sg_g_mixCounts P 58035))))) hw) (cwV 1 hts gX8_digest_X8_mixStocks rfl rfl rfl (by decide +kernel) ⟨(Nat.le_of_ble_eq_true rfl), (Nat.le_of_ble_eq_true rfl)⟩) ⟨Pre.blind, va_recv hK hP (ci := 8) (q0 := 0) rfl rfl, Pre.mk hPc (hDc.weaken (fun _ _ _ h => hAlo _ h)) hC hS hAlo⟩ rfl rfl hl.1 rfl (lv_room (Nat.le_of_ble_eq_true rfl)) dX8_digest_34 ⟨(Nat.le_of_ble_eq_true rfl), (Nat.le_of_ble_eq_true rfl)⟩) (fun r_11 e_12 => ?_)
  clear hPc hDc
  have e_12 : sg_g_mixStocks P (sg_g_mixRoutes P (sg_g_mixTransports P (sg_g_mixOrders P (sg_g_mixLots P (sg_g_mixCounts P 58035))))) = r_11 := Eq.symm e_12
  subst e_12
  refine lv_lstore_n (lv' := [(1, .long (sg_g_mixStocks P (sg_g_mixRoutes P (sg_g_mixTransports P (sg_g_mixOrders P (sg_g_mixLots P (sg_g_mixCounts P 58035))))))), (0, .ref g)]) hx hb dX8_digest_37 rfl hl (by decide) rfl (fun ls hl => ?_)
  refine lv_aload_n hx hb dX8_digest_38 rfl (lv_at hl 1 rfl) ?_
  refine lv_lload_n hx hb dX8_digest_39 rfl (lv_at hl 0 rfl) ?_
  have hPc : va_P D vwCl ([(g, .inr (8, [.ref (a 0), .ref (b 0), .ref (pa 0)]))] ++ sg_St cI cZ a P q ++ sg_Pl cI cJ pa U V) s.heap := hP
  have hDc : va_D A ([(g, .inr (8, [.ref (a 0), .ref (b 0), .ref (pa 0)]))] ++ sg_St cI cZ a P q ++ sg_Pl cI cJ pa U V) := hD
  have hFc := va_free (wc := ([(g, .inr (8, [.ref (a 0), .ref (b 0), .ref (pa 0)]))] ++ sg_St cI cZ a P q ++ sg_Pl cI cJ pa U V)) hD hS hA [0, 1, 2, 3, 4, 5, 6, 7, 8, 9, 10, 11, 12, 13, 14, 15, 16, 17, 18, 19, 20, 21, 22, 23, 24, 25, 26, 27, 28, 29, 30, 31, 32, 33, 34, 35, 36, 37, 38, 39, 40, 41, 42, 43, 44, 45, 46, 47, 48] rfl
  refine va_calll (va_runV (As := [.long (sg_g_mixStocks P (sg_g_mixRoutes P (sg_g_mixTransports P (sg_g_mixOrders P (sg_g_mixLots P (sg_g_mixCounts P 58035))))))]) (rest := []) ⟨hx, hb, hml, hown, hts⟩ (c_g_mixPlans l D cI cZ cJ lo s.heap.size g pa b U V a P q (sg_g_mixStocks P (sg_g_mixRoutes P (sg_g_mixTransports P (sg_g_mixOrders P (sg_g_mixLots P (sg_g_mixCounts P 58035)))))) hw) (cwV 1 hts gX8_digest_X8_mixPlans rfl rfl rfl (by decide +kernel) ⟨(Nat.le_of_ble_eq_true rfl), (Nat.le_of_ble_eq_true rfl)⟩) ⟨Pre.blind, va_recv hK hP (ci := 8) (q0 := 0) rfl rfl, Pre.mk hPc (hDc.weaken (fun _ _ _ h => hAlo _ h)) hC hS hAlo⟩ rfl rfl hl.1 rfl (lv_room (Nat.le_of_ble_eq_true rfl)) dX8_digest_40 ⟨(Nat.le_of_ble_eq_true rfl), (Nat.le_of_ble_eq_true rfl)⟩) hS (fun q _ h => hFc q h) hFc (fun r_13 u t H1 locs1 ht hvm e_14 hB hz1 hk1 hS1 => ?_)
  have hS := hS1
  obtain ⟨hP1, hD1⟩ := hB
  rw [ht] at hP1
  obtain ⟨hP, hD⟩ := va_join (wr := []) (w1 := ([(g, .inr (8, [.ref (a 0), .ref (b 0), .ref (pa 0)]))] ++ sg_St cI cZ a P q ++ sg_Pl cI cJ pa (sg_g_mixPlans_U U V P (sg_g_mixStocks P (sg_g_mixRoutes P (sg_g_mixTransports P (sg_g_mixOrders P (sg_g_mixLots P (sg_g_mixCounts P 58035))))))) (sg_g_mixPlans_V U V P (sg_g_mixStocks P (sg_g_mixRoutes P (sg_g_mixTransports P (sg_g_mixOrders P (sg_g_mixLots P (sg_g_mixCounts P 58035))))))))) hP hD [0, 1, 2, 3, 4, 5, 6, 7, 8, 9, 10, 11, 12, 13, 14, 15, 16, 17, 18, 19, 20, 21, 22, 23, 24, 25, 26, 27, 28, 29, 30, 31, 32, 33, 34, 35, 36, 37, 38, 39, 40, 41, 42, 43, 44, 45, 46, 47, 48] [] rfl rfl (by decide) (by decide) hk1 hFc hP1 hD1
  have e_14 : sg_g_mixPlans_r U V P (sg_g_mixStocks P (sg_g_mixRoutes P (sg_g_mixTransports P (sg_g_mixOrders P (sg_g_mixLots P (sg_g_mixCounts P 58035)))))) = r_13 := Eq.symm e_14
  subst e_14
  clear hFc hPc hDc ht hvm hz1 hk1 hS1 hP1 hD1
  generalize H1 = H at hP hS ⊢
  replace hP : va_P D vwCl ([(g, .inr (8, [.ref (a 0), .ref (b 0), .ref (pa 0)]))] ++ sg_St cI cZ a P q ++ sg_Pl cI cJ pa (sg_g_mixPlans_U U V P (sg_g_mixStocks P (sg_g_mixRoutes P (sg_g_mixTransports P (sg_g_mixOrders P (sg_g_mixLots P (sg_g_mixCounts P 58035))))))) (sg_g_mixPlans_V U V P (sg_g_mixStocks P (sg_g_mixRoutes P (sg_g_mixTransports P (sg_g_mixOrders P (sg_g_mixLots P (sg_g_mixCounts P 58035)))))))) H := hP
  replace hD : va_D A ([(g, .inr (8, [.ref (a 0), .ref (b 0), .ref (pa 0)]))] ++ sg_St cI cZ a P q ++ sg_Pl cI cJ pa (sg_g_mixPlans_U U V P (sg_g_mixStocks P (sg_g_mixRoutes P (sg_g_mixTransports P (sg_g_mixOrders P (sg_g_mixLots P (sg_g_mixCounts P 58035))))))) (sg_g_mixPlans_V U V P (sg_g_mixStocks P (sg_g_mixRoutes P (sg_g_mixTransports P (sg_g_mixOrders P (sg_g_mixLots P (sg_g_mixCounts P 58035)))))))) := hD
  refine lv_lstore_n (lv' := [(1, .long (sg_g_mixPlans_r U V P (sg_g_mixStocks P (sg_g_mixRoutes P (sg_g_mixTransports P (sg_g_mixOrders P (sg_g_mixLots P (sg_g_mixCounts P 58035)))))))), (0, .ref g)]) hx hb dX8_digest_43 rfl hl (by decide) rfl (fun ls hl => ?_)
  refine lv_iconst (v := 0) hx hb dX8_digest_44 (by decide) ?_
  refine lv_istore_n (lv' := [(3, .int 0), (1, .long (sg_g_mixPlans_r U V P (sg_g_mixStocks P (sg_g_mixRoutes P (sg_g_mixTransports P (sg_g_mixOrders P (sg_g_mixLots P (sg_g_mixCounts P 58035)))))))), (0, .ref g)]) hx hb dX8_digest_45 rfl hl (by decide) rfl (fun ls hl => ?_)
  generalize locs1 = locs at hS ⊢
  obtain ⟨j46, h0j46⟩ : ∃ j : Nat, j = 0 := ⟨_, rfl⟩
  obtain ⟨x46_1, hx46_1⟩ : ∃ z9 : Int64, z9 = sg_g_digest_46 U V P j46 := ⟨_, rfl⟩
  replace hl : lv_has ls 4 [(3, .int (nI j46)), (1, .long x46_1), (0, .ref g)] := by rw [hx46_1, h0j46]; exact hl
  have hjj46 : j46 ≤ sg_cn P 2 := by omega
  clear h0j46
  obtain ⟨n46, hn46⟩ : ∃ n : Nat, sg_cn P 2 < j46 + n := ⟨sg_cn P 2 + 1, by omega⟩
  revert hP
  revert hD
  revert hS
  revert hl
  revert hn46
  revert hjj46
  revert hx46_1
  revert ls
  revert locs
  revert H
  revert x46_1
  revert j46
  induction n46 with
  | zero =>
    intro j46 x46_1 H locs ls hx46_1 hjj46 hn46 hl hS hD hP
    exact absurd hn46 (by omega)
  | succ n46 ih46 =>
    intro j46 x46_1 H locs ls hx46_1 hjj46 hn46 hl hS hD hP
    refine lv_iload_n hx hb dX8_digest_46 rfl (lv_at hl 0 rfl) ?_
    refine lv_aload_n hx hb dX8_digest_47 rfl (lv_at hl 2 rfl) ?_
    refine va_get (D := D) (ci := 8) (v := .ref (a 0)) (C := RX8) (T := TX8) (N := 3) hx hb hts in8 hown hK hP 0 rfl rfl 0 (by decide) (hts (.fieldLink RX8 10 "Granary" "now" "LGranary$Stock;") (by decide +kernel)) (fun _ h9 => h9) rfl dX8_digest_48 ?_
    refine va_get (D := D) (ci := 6) (v := .ref (a 2)) (C := RX6) (T := TX6) (N := 9) hx hb hts in6 hown hK hP 1 rfl rfl 2 (by decide) (hts (.fieldLink RX8 48 "Granary$Stock" "sites" "LGranary$Sites;") (by decide +kernel)) (fun _ h9 => h9) rfl dX8_digest_51 ?_
    refine va_get (D := D) (ci := 5) (v := .int (P 0 2)) (C := RX5) (T := TX5) (N := 3) hx hb hts in5 hown hK hP 3 rfl rfl 0 (by decide) (hts (.fieldLink RX8 52 "Granary$Sites" "count" "I") (by decide +kernel)) (fun _ h9 => h9) rfl dX8_digest_54 ?_
    have hB46 : ((P 0 2) : Int32) = nI (sg_cn P 2) := (hw.e2)
    refine lv_icmp_ge (tgt := 80) hx hb dX8_digest_57 (by decide) (fun c_15 => ?_) (fun c_15 => ?_)
    · have hE46 : sg_cn P 2 = j46 := (sg_eq hB46 c_15 hjj46 (by omega)).symm
      clear ih46 hn46
      subst hE46
      subst hx46_1
      refine lv_lload_n hx hb dX8_digest_80 rfl (lv_at hl 1 rfl) ?_
      refine W.widen (k := 0) (n := 0) (by omega) (by omega) ?_
      have hP9 : va_P D vwCl ([(g, .inr (8, [.ref (a 0), .ref (b 0), .ref (pa 0)]))] ++ sg_St cI cZ a P q ++ sg_Pl cI cJ pa (sg_g_digest_U U V P) (sg_g_digest_V U V P)) H := by exact hP
      have hD9 : va_D A ([(g, .inr (8, [.ref (a 0), .ref (b 0), .ref (pa 0)]))] ++ sg_St cI cZ a P q ++ sg_Pl cI cJ pa (sg_g_digest_U U V P) (sg_g_digest_V U V P)) := by exact hD
      exact W.lret (v := (sg_g_digest_46 U V P (sg_cn P 2))) hx hb hr (fun t ht hW => ⟨⟨(sg_g_digest_46 U V P (sg_cn P 2)), (), rfl, rfl, by rw [ht]; exact hP9, hD9⟩, hS.F ht⟩) hS.2.2 dX8_digest_81
    · have hL46 : j46 < sg_cn P 2 := sg_lt hB46 c_15 (by omega)
      refine lv_lload_n hx hb dX8_digest_60 rfl (lv_at hl 1 rfl) ?_
      refine lv_aload_n hx hb dX8_digest_61 rfl (lv_at hl 2 rfl) ?_
      refine va_get (D := D) (ci := 8) (v := .ref (a 0)) (C := RX8) (T := TX8) (N := 3) hx hb hts in8 hown hK hP 0 rfl rfl 0 (by decide) (hts (.fieldLink RX8 10 "Granary" "now" "LGranary$Stock;") (by decide +kernel)) (fun _ h9 => h9) rfl dX8_digest_62 ?_
      refine lv_iload_n hx hb dX8_digest_65 rfl (lv_at hl 0 rfl) ?_
      have hPc := hP.sub (ws' := [(a 0, .inr (6, [.int (P 0 0), .ref (a 1), .ref (a 2), .ref (a 3), .ref (a 4), .ref (a 5), .ref (a 6), .ref (a 70), .ref (a 71)])), (a 2, .inr (5, [.int (P 0 2), .ref (a 20), .ref (a 21)])), (a 4, .inr (1, [.int (P 0 3), .ref (a 40), .ref (a 41), .ref (a 42), .ref (a 43), .ref (a 44)])), (a 20, .inl (cI, 5, .inl (P 20))), (a 21, .inl (cI, 25, .inl (P 21))), (a 40, .inl (cI, 200, .inl (P 40))), (a 41, .inl (cI, 200, .inl (P 41))), (a 42, .inl (cI, 200, .inl (P 42))), (a 43, .inl (cI, 200, .inl (P 43))), (a 44, .inl (cI, 200, .inl (P 44)))]) [1, 3, 5, 12, 13, 19, 20, 21, 22, 23] rfl
      have hDc := hD.sub (ws' := [(a 0, .inr (6, [.int (P 0 0), .ref (a 1), .ref (a 2), .ref (a 3), .ref (a 4), .ref (a 5), .ref (a 6), .ref (a 70), .ref (a 71)])), (a 2, .inr (5, [.int (P 0 2), .ref (a 20), .ref (a 21)])), (a 4, .inr (1, [.int (P 0 3), .ref (a 40), .ref (a 41), .ref (a 42), .ref (a 43), .ref (a 44)])), (a 20, .inl (cI, 5, .inl (P 20))), (a 21, .inl (cI, 25, .inl (P 21))), (a 40, .inl (cI, 200, .inl (P 40))), (a 41, .inl (cI, 200, .inl (P 41))), (a 42, .inl (cI, 200, .inl (P 42))), (a 43, .inl (cI, 200, .inl (P 43))), (a 44, .inl (cI, 200, .inl (P 44)))]) [1, 3, 5, 12, 13, 19, 20, 21, 22, 23] (by decide) rfl
      refine vp_callSi (W.runV (As := [.int (nI j46)]) (rest := [.long x46_1]) ⟨hx, hb, hml, hown, hts⟩ (c_roomAt l D cI cZ cJ lo H.size a P (nI j46) hw) (cwV 1 hts gX8_digest_X6_roomAt rfl rfl rfl (by decide +kernel) ⟨(Nat.le_of_ble_eq_true rfl), (Nat.le_of_ble_eq_true rfl)⟩) ⟨Pre.blind, va_recv hK hP (ci := 6) (q0 := 1) rfl rfl, Pre.mk hPc (hDc.weaken (fun _ _ _ h => hAlo _ h)) hC hS hAlo⟩ rfl rfl hl.1 rfl (lv_room (Nat.le_of_ble_eq_true rfl)) dX8_digest_66 ⟨(Nat.le_of_ble_eq_true rfl), (Nat.le_of_ble_eq_true rfl)⟩) (fun r_16 e_17 => ?_)
      clear hPc hDc
      have e_17 : sg_roomAt P (nI j46) = r_16 := Eq.symm e_17
      subst e_17
      refine lv_i2l (v := (sg_roomAt P (nI j46)).toInt64) hx hb dX8_digest_69 rfl ?_
      have hPc := hP.sub (ws' := []) [] rfl
      have hDc := hD.sub (ws' := []) [] (by decide) rfl
      refine vp_callSl (W.runS (As := [.long x46_1, .long ((sg_roomAt P (nI j46)).toInt64)]) (rest := []) ⟨hx, hb, hml, hown, hts⟩ (c_mix l D cI cZ cJ lo H.size x46_1 ((sg_roomAt P (nI j46)).toInt64)) (va_cwS 2 hts gX8_digest_X8_mix rfl rfl rfl (by decide +kernel) ⟨(Nat.le_of_ble_eq_true rfl), (Nat.le_of_ble_eq_true rfl)⟩) ⟨Pre.blind, Pre.mk hPc (hDc.weaken (fun _ _ _ h => hAlo _ h)) hC hS hAlo⟩ rfl rfl hl.1 rfl (lv_room (Nat.le_of_ble_eq_true rfl)) dX8_digest_70 ⟨(Nat.le_of_ble_eq_true rfl), (Nat.le_of_ble_eq_true rfl)⟩) (fun r_18 e_19 => ?_)
      clear hPc hDc
      have e_19 : (x46_1 * 31) + ((sg_roomAt P (nI j46)).toInt64) = r_18 := Eq.symm e_19
      subst e_19
      refine lv_lstore_n (lv' := [(1, .long ((x46_1 * 31) + ((sg_roomAt P (nI j46)).toInt64))), (3, .int (nI j46)), (0, .ref g)]) hx hb dX8_digest_73 rfl hl (by decide) rfl (fun ls hl => ?_)
      refine lv_iinc (v := nI (j46 + 1)) (lv' := [(3, .int (nI (j46 + 1))), (1, .long ((x46_1 * 31) + ((sg_roomAt P (nI j46)).toInt64))), (0, .ref g)]) hx hb dX8_digest_74 hl (k := 1) rfl (nI_1 j46) (by decide) rfl (fun ls hl => ?_)
      refine lv_goto (tgt := 46) hx hb dX8_digest_77 (by decide) ?_
      have hl8 := hl; have hS8 := hS; have hD8 := hD; have hP8 := hP
      subst hx46_1
      exact ih46 (j46 + 1) (((sg_g_digest_46 U V P j46) * 31) + ((sg_roomAt P (nI j46)).toInt64)) _ _ _ (show (((sg_g_digest_46 U V P j46) * 31) + ((sg_roomAt P (nI j46)).toInt64) : Int64) = sg_g_digest_46 U V P (j46 + 1) from by rw [sg_g_digest_46]) (by omega) (by omega) (lv_sub hl8 [0, 1, 2] rfl) hS8 hD8 hP8

def sg_g_planned_r (U : sg_Pic) (V : sg_PiL) (P : sg_Pic) (xi : Nat) (xs : Nat) (xt : Nat) : Int32 := ((sg_make_U U V P xi) 6 ((xs * 5) + xt))

def sg_g_planned_U (U : sg_Pic) (V : sg_PiL) (P : sg_Pic) (xi : Nat) (xs : Nat) (xt : Nat) : sg_Pic := (sg_make_U U V P xi)

def sg_g_planned_V (U : sg_Pic) (V : sg_PiL) (P : sg_Pic) (xi : Nat) (xs : Nat) (xt : Nat) : sg_PiL := (sg_make_V U V P xi)

set_option maxHeartbeats 4000000 in
set_option maxRecDepth 100000 in
/-- X8_planned -/
theorem c_g_planned (l : Launch) (D : va_G) (cI cZ cJ : ClassId) (lo sz : Nat) (g : Nat) (pa : Nat → Nat) (b : Nat → Nat) (U : sg_Pic) (V : sg_PiL) (a : Nat → Nat) (P : sg_Pic) (q : Nat → Int32) (xi : Nat) (xs : Nat) (xt : Nat) (hw : sg_W P) (hi : xi < sg_cn P 1) (hs : xs < sg_cn P 2) (ht : xt < sg_cn P 2) : Met l yX8_planned wsX8_planned ({ frames := 5, cells := 0, slots := 0, locals := 117 }) (Pre lo D cI cZ cJ [.ref g, .int (nI xi), .int (nI xs), .int (nI xt)] sz ([(g, .inr (8, [.ref (a 0), .ref (b 0), .ref (pa 0)]))] ++ sg_St cI cZ a P q ++ sg_Pl cI cJ pa U V)) (va_Qi (fun (r : Int32) (_ : Unit) => r = sg_g_planned_r U V P xi xs xt) (fun _ t => va_P D vwCl ([(g, .inr (8, [.ref (a 0), .ref (b 0), .ref (pa 0)]))] ++ sg_St cI cZ a P q ++ sg_Pl cI cJ pa (sg_g_planned_U U V P xi xs xt) (sg_g_planned_V U V P xi xs xt)) t.heap ∧ va_D (va_A ([(g, .inr (8, [.ref (a 0), .ref (b 0), .ref (pa 0)]))] ++ sg_St cI cZ a P q ++ sg_Pl cI cJ pa U V) sz) ([(g, .inr (8, [.ref (a 0), .ref (b 0), .ref (pa 0)]))] ++ sg_St cI cZ a P q ++ sg_Pl cI cJ pa (sg_g_planned_U U V P xi xs xt) (sg_g_planned_V U V P xi xs xt))) (va_A ([(g, .inr (8, [.ref (a 0), .ref (b 0), .ref (pa 0)]))] ++ sg_St cI cZ a P q ++ sg_Pl cI cJ pa U V) sz)) 0 0 (va_A ([(g, .inr (8, [.ref (a 0), .ref (b 0), .ref (pa 0)]))] ++ sg_St cI cZ a P q ++ sg_Pl cI cJ pa U V) sz) := by
  refine Met.ofW (cc := cX8_planned) (maxL := 4) (ret := (some .int)) (by decide) rfl ?_
  intro p e s m args below meth c s₁ B hml hv
  obtain ⟨rfl, hsz, hP, hD0, hC⟩ := hv
  have hx := B.exec
  have hb := B.bytes
  have hr := B.returns
  have hts := atoms_spec (ws := wsX8_planned) B.pre
  have hown : s.vm.findClass RX8 = some m.cls := findClass_of_methodNamed B.named
  have hlocks := B.notSynchronized
  subst hsz
  have hn1 : sg_cn P 1 ≤ 6 := hw.n1
  have hn2 : sg_cn P 2 ≤ 5 := hw.n2
  have hn3 : sg_cn P 3 ≤ 200 := hw.n3
  have hn4 : sg_cn P 4 ≤ 60 := hw.n4
  have hn5 : sg_cn P 5 ≤ 90 := hw.n5
  have hK := hC.K
  have hD := hD0.self (sz := s.heap.size)
  have hAlo0 := va_A_lo hD0 hC.1
  generalize hAe : va_A ([(g, .inr (8, [.ref (a 0), .ref (b 0), .ref (pa 0)]))] ++ sg_St cI cZ a P q ++ sg_Pl cI cJ pa U V) s.heap.size = A at hD hAlo0 ⊢
  have hA : ∀ q : Nat, s.heap.size ≤ q → A q := fun q h => by rw [← hAe]; exact Or.inr h
  have hAlo : ∀ q, A q → lo ≤ q := hAlo0
  have hS : va_S A s.heap s.heap [] := va_S.rf
  have hP : va_P D vwCl ([(g, .inr (8, [.ref (a 0), .ref (b 0), .ref (pa 0)]))] ++ sg_St cI cZ a P q ++ sg_Pl cI cJ pa U V) s.heap := hP
  have hl := lv_entry ([.ref g, .int (nI xi), .int (nI xs), .int (nI xt)]) (n := 4) (Nat.le_of_ble_eq_true rfl)
  rw [lg_entry_eq]
  generalize (lg_sl ([.ref g, .int (nI xi), .int (nI xs), .int (nI xt)]) ++ List.replicate (4 - (lg_sl ([.ref g, .int (nI xi), .int (nI xs), .int (nI xt)])).length) Slot.unset).toArray = ls at hl ⊢
  have hl : lv_has ls 4 [(0, .ref g), (1, .int (nI xi)), (2, .int (nI xs)), (3, .int (nI xt))] := hl
  have in3 : ∀ w ∈ u_ws RX3 TX3 7, w ∈ wsX8_planned := by decide +kernel
  have in8 : ∀ w ∈ u_ws RX8 TX8 3, w ∈ wsX8_planned := by decide +kernel
  refine lv_aload_n hx hb dX8_planned_0 rfl (lv_at hl 0 rfl) ?_
  refine lv_iload_n hx hb dX8_planned_1 rfl (lv_at hl 1 rfl) ?_
  have hPc := hP.sub (ws' := [(g, .inr (8, [.ref (a 0), .ref (b 0), .ref (pa 0)])), (a 0, .inr (6, [.int (P 0 0), .ref (a 1), .ref (a 2), .ref (a 3), .ref (a 4), .ref (a 5), .ref (a 6), .ref (a 70), .ref (a 71)])), (a 1, .inr (0, [.int (P 0 1), .ref (a 10), .ref (a 11), .ref (a 12), .ref (a 13)]))]) [0, 1, 2] rfl
  have hDc := hD.sub (ws' := [(g, .inr (8, [.ref (a 0), .ref (b 0), .ref (pa 0)])), (a 0, .inr (6, [.int (P 0 0), .ref (a 1), .ref (a 2), .ref (a 3), .ref (a 4), .ref (a 5), .ref (a 6), .ref (a 70), .ref (a 71)])), (a 1, .inr (0, [.int (P 0 1), .ref (a 10), .ref (a 11), .ref (a 12), .ref (a 13)]))]) [0, 1, 2] (by decide) rfl
  refine va_csv (W.runV (As := [.int (nI xi)]) (rest := []) ⟨hx, hb, hml, hown, hts⟩ (c_needItem l D cI cZ cJ lo s.heap.size g pa b a P xi hw (by omega)) (cwV 1 hts gX8_planned_X8_needItem rfl rfl rfl (by decide +kernel) ⟨(Nat.le_of_ble_eq_true rfl), (Nat.le_of_ble_eq_true rfl)⟩) ⟨Pre.blind, va_recv hK hP (ci := 8) (q0 := 0) rfl rfl, Pre.mk hPc (hDc.weaken (fun _ _ _ h => hAlo _ h)) hC hS hAlo⟩ rfl rfl hl.1 rfl (lv_room (Nat.le_of_ble_eq_true rfl)) dX8_planned_2 ⟨(Nat.le_of_ble_eq_true rfl), (Nat.le_of_ble_eq_true rfl)⟩) (fun e_1 => ?_)
  clear hPc hDc
  refine lv_aload_n hx hb dX8_planned_5 rfl (lv_at hl 0 rfl) ?_
  refine lv_iload_n hx hb dX8_planned_6 rfl (lv_at hl 2 rfl) ?_
  have hPc := hP.sub (ws' := [(g, .inr (8, [.ref (a 0), .ref (b 0), .ref (pa 0)])), (a 0, .inr (6, [.int (P 0 0), .ref (a 1), .ref (a 2), .ref (a 3), .ref (a 4), .ref (a 5), .ref (a 6), .ref (a 70), .ref (a 71)])), (a 2, .inr (5, [.int (P 0 2), .ref (a 20), .ref (a 21)]))]) [0, 1, 3] rfl
  have hDc := hD.sub (ws' := [(g, .inr (8, [.ref (a 0), .ref (b 0), .ref (pa 0)])), (a 0, .inr (6, [.int (P 0 0), .ref (a 1), .ref (a 2), .ref (a 3), .ref (a 4), .ref (a 5), .ref (a 6), .ref (a 70), .ref (a 71)])), (a 2, .inr (5, [.int (P 0 2), .ref (a 20), .ref (a 21)]))]) [0, 1, 3] (by decide) rfl
  refine va_csv (W.runV (As := [.int (nI xs)]) (rest := []) ⟨hx, hb, hml, hown, hts⟩ (c_needSite l D cI cZ cJ lo s.heap.size g pa b a P xs hw (by omega)) (cwV 1 hts gX8_planned_X8_needSite rfl rfl rfl (by decide +kernel) ⟨(Nat.le_of_ble_eq_true rfl), (Nat.le_of_ble_eq_true rfl)⟩) ⟨Pre.blind, va_recv hK hP (ci := 8) (q0 := 0) rfl rfl, Pre.mk hPc (hDc.weaken (fun _ _ _ h => hAlo _ h)) hC hS hAlo⟩ rfl rfl hl.1 rfl (lv_room (Nat.le_of_ble_eq_true rfl)) dX8_planned_7 ⟨(Nat.le_of_ble_eq_true rfl), (Nat.le_of_ble_eq_true rfl)⟩) (fun e_2 => ?_)
  clear hPc hDc
  refine lv_aload_n hx hb dX8_planned_10 rfl (lv_at hl 0 rfl) ?_
  refine lv_iload_n hx hb dX8_planned_11 rfl (lv_at hl 3 rfl) ?_
  have hPc := hP.sub (ws' := [(g, .inr (8, [.ref (a 0), .ref (b 0), .ref (pa 0)])), (a 0, .inr (6, [.int (P 0 0), .ref (a 1), .ref (a 2), .ref (a 3), .ref (a 4), .ref (a 5), .ref (a 6), .ref (a 70), .ref (a 71)])), (a 2, .inr (5, [.int (P 0 2), .ref (a 20), .ref (a 21)]))]) [0, 1, 3] rfl
  have hDc := hD.sub (ws' := [(g, .inr (8, [.ref (a 0), .ref (b 0), .ref (pa 0)])), (a 0, .inr (6, [.int (P 0 0), .ref (a 1), .ref (a 2), .ref (a 3), .ref (a 4), .ref (a 5), .ref (a 6), .ref (a 70), .ref (a 71)])), (a 2, .inr (5, [.int (P 0 2), .ref (a 20), .ref (a 21)]))]) [0, 1, 3] (by decide) rfl
  refine va_csv (W.runV (As := [.int (nI xt)]) (rest := []) ⟨hx, hb, hml, hown, hts⟩ (c_needSite l D cI cZ cJ lo s.heap.size g pa b a P xt hw (by omega)) (cwV 1 hts gX8_planned_X8_needSite rfl rfl rfl (by decide +kernel) ⟨(Nat.le_of_ble_eq_true rfl), (Nat.le_of_ble_eq_true rfl)⟩) ⟨Pre.blind, va_recv hK hP (ci := 8) (q0 := 0) rfl rfl, Pre.mk hPc (hDc.weaken (fun _ _ _ h => hAlo _ h)) hC hS hAlo⟩ rfl rfl hl.1 rfl (lv_room (Nat.le_of_ble_eq_true rfl)) dX8_planned_12 ⟨(Nat.le_of_ble_eq_true rfl), (Nat.le_of_ble_eq_true rfl)⟩) (fun e_3 => ?_)
  clear hPc hDc
  refine lv_aload_n hx hb dX8_planned_15 rfl (lv_at hl 0 rfl) ?_
  refine va_get (D := D) (ci := 8) (v := .ref (pa 0)) (C := RX8) (T := TX8) (N := 3) hx hb hts in8 hown hK hP 0 rfl rfl 2 (by decide) (hts (.fieldLink RX8 22 "Granary" "plan" "LGranary$Plan;") (by decide +kernel)) (fun _ h9 => h9) rfl dX8_planned_16 ?_
  refine lv_aload_n hx hb dX8_planned_19 rfl (lv_at hl 0 rfl) ?_
  refine va_get (D := D) (ci := 8) (v := .ref (a 0)) (C := RX8) (T := TX8) (N := 3) hx hb hts in8 hown hK hP 0 rfl rfl 0 (by decide) (hts (.fieldLink RX8 10 "Granary" "now" "LGranary$Stock;") (by decide +kernel)) (fun _ h9 => h9) rfl dX8_planned_20 ?_
  refine lv_iload_n hx hb dX8_planned_23 rfl (lv_at hl 1 rfl) ?_
  have hPc := hP.sub (ws' := (sg_St cI cZ a P q ++ sg_Pl cI cJ pa U V)) [1, 2, 3, 4, 5, 6, 7, 8, 9, 10, 11, 12, 13, 14, 15, 16, 17, 18, 19, 20, 21, 22, 23, 24, 25, 26, 27, 28, 29, 30, 31, 32, 33, 34, 35, 36, 37, 38, 39, 40, 41, 42, 43, 44, 45, 46, 47, 48] rfl
  have hDc := hD.sub (ws' := (sg_St cI cZ a P q ++ sg_Pl cI cJ pa U V)) [1, 2, 3, 4, 5, 6, 7, 8, 9, 10, 11, 12, 13, 14, 15, 16, 17, 18, 19, 20, 21, 22, 23, 24, 25, 26, 27, 28, 29, 30, 31, 32, 33, 34, 35, 36, 37, 38, 39, 40, 41, 42, 43, 44, 45, 46, 47, 48] (by decide) rfl
  have hFc := va_free (wc := (sg_St cI cZ a P q ++ sg_Pl cI cJ pa U V)) hD hS hA [1, 2, 3, 4, 5, 6, 7, 8, 9, 10, 11, 12, 13, 14, 15, 16, 17, 18, 19, 20, 21, 22, 23, 24, 25, 26, 27, 28, 29, 30, 31, 32, 33, 34, 35, 36, 37, 38, 39, 40, 41, 42, 43, 44, 45, 46, 47, 48] rfl
  refine va_callv (va_runV (As := [.ref (a 0), .int (nI xi)]) (rest := []) ⟨hx, hb, hml, hown, hts⟩ (c_make l D cI cZ cJ lo s.heap.size pa U V a P q xi hw (by omega)) (cwV 2 hts gX8_planned_X3_make rfl rfl rfl (by decide +kernel) ⟨(Nat.le_of_ble_eq_true rfl), (Nat.le_of_ble_eq_true rfl)⟩) ⟨Pre.blind, va_recv hK hP (ci := 3) (q0 := 42) rfl rfl, Pre.mk hPc (hDc.weaken (fun _ _ _ h => hAlo _ h)) hC hS hAlo⟩ rfl rfl hl.1 rfl (lv_room (Nat.le_of_ble_eq_true rfl)) dX8_planned_24 ⟨(Nat.le_of_ble_eq_true rfl), (Nat.le_of_ble_eq_true rfl)⟩) hS (fun q _ h => hFc q h) hFc (fun u t H1 locs1 ht hvm e_4 hB hz1 hk1 hS1 => ?_)
  have hS := hS1
  obtain ⟨hP1, hD1⟩ := hB
  rw [ht] at hP1
  obtain ⟨hP, hD⟩ := va_join (wr := [(g, .inr (8, [.ref (a 0), .ref (b 0), .ref (pa 0)]))]) (w1 := (sg_St cI cZ a P q ++ sg_Pl cI cJ pa (sg_make_U U V P xi) (sg_make_V U V P xi))) hP hD [1, 2, 3, 4, 5, 6, 7, 8, 9, 10, 11, 12, 13, 14, 15, 16, 17, 18, 19, 20, 21, 22, 23, 24, 25, 26, 27, 28, 29, 30, 31, 32, 33, 34, 35, 36, 37, 38, 39, 40, 41, 42, 43, 44, 45, 46, 47, 48] [0] rfl rfl (by decide) (by decide) hk1 hFc hP1 hD1
  have e_4 : True := e_4
  clear hFc hPc hDc ht hvm hz1 hk1 hS1 hP1 hD1
  generalize H1 = H at hP hS ⊢
  replace hP : va_P D vwCl ([(g, .inr (8, [.ref (a 0), .ref (b 0), .ref (pa 0)]))] ++ sg_St cI cZ a P q ++ sg_Pl cI cJ pa (sg_make_U U V P xi) (sg_make_V U V P xi)) H := hP
  replace hD : va_D A ([(g, .inr (8, [.ref (a 0), .ref (b 0), .ref (pa 0)]))] ++ sg_St cI cZ a P q ++ sg_Pl cI cJ pa (sg_make_U U V P xi) (sg_make_V U V P xi)) := hD
  refine lv_aload_n hx hb dX8_planned_27 rfl (lv_at hl 0 rfl) ?_
  refine va_get (D := D) (ci := 8) (v := .ref (pa 0)) (C := RX8) (T := TX8) (N := 3) hx hb hts in8 hown hK hP 0 rfl rfl 2 (by decide) (hts (.fieldLink RX8 22 "Granary" "plan" "LGranary$Plan;") (by decide +kernel)) (fun _ h9 => h9) rfl dX8_planned_28 ?_
  refine va_get (D := D) (ci := 3) (v := .ref (pa 6)) (C := RX3) (T := TX3) (N := 7) hx hb hts in3 hown hK hP 42 rfl rfl 6 (by decide) (hts (.fieldLink RX8 182 "Granary$Plan" "units" "[I") (by decide +kernel)) (fun _ h9 => h9) rfl dX8_planned_31 ?_
  refine lv_iload_n hx hb dX8_planned_34 rfl (lv_at hl 2 rfl) ?_
  refine lv_iload_n hx hb dX8_planned_35 rfl (lv_at hl 3 rfl) ?_
  have hPc := hP.sub (ws' := []) [] rfl
  have hDc := hD.sub (ws' := []) [] (by decide) rfl
  refine vp_callSi (W.runS (As := [.int (nI xs), .int (nI xt)]) (rest := [.ref (pa 6)]) ⟨hx, hb, hml, hown, hts⟩ (c_pair l D cI cZ cJ lo H.size xs xt) (va_cwS 2 hts gX8_planned_X8_pair rfl rfl rfl (by decide +kernel) ⟨(Nat.le_of_ble_eq_true rfl), (Nat.le_of_ble_eq_true rfl)⟩) ⟨Pre.blind, Pre.mk hPc (hDc.weaken (fun _ _ _ h => hAlo _ h)) hC hS hAlo⟩ rfl rfl hl.1 rfl (lv_room (Nat.le_of_ble_eq_true rfl)) dX8_planned_36 ⟨(Nat.le_of_ble_eq_true rfl), (Nat.le_of_ble_eq_true rfl)⟩) (fun r_5 e_6 => ?_)
  clear hPc hDc
  have e_6 : nI ((xs * 5) + xt) = r_5 := Eq.symm e_6
  subst e_6
  refine sg_iald hx hb hK hP 48 0 rfl rfl (j := (xs * 5) + xt) rfl (by omega) (Nat.le_of_ble_eq_true rfl) dX8_planned_39 ?_
  refine lv_toi (y := (sg_make_U U V P xi) 6 ((xs * 5) + xt)) rfl ?_
  refine W.widen (k := 0) (n := 0) (by omega) (by omega) ?_
  have hP9 : va_P D vwCl ([(g, .inr (8, [.ref (a 0), .ref (b 0), .ref (pa 0)]))] ++ sg_St cI cZ a P q ++ sg_Pl cI cJ pa (sg_g_planned_U U V P xi xs xt) (sg_g_planned_V U V P xi xs xt)) H := by exact hP
  have hD9 : va_D A ([(g, .inr (8, [.ref (a 0), .ref (b 0), .ref (pa 0)]))] ++ sg_St cI cZ a P q ++ sg_Pl cI cJ pa (sg_g_planned_U U V P xi xs xt) (sg_g_planned_V U V P xi xs xt)) := by exact hD
  exact W.iret (v := ((sg_make_U U V P xi) 6 ((xs * 5) + xt))) hx hb hr (fun t ht hW => ⟨⟨((sg_make_U U V P xi) 6 ((xs * 5) + xt)), (), rfl, rfl, by rw [ht]; exact hP9, hD9⟩, hS.F ht⟩) hS.2.2 dX8_planned_40

set_option maxHeartbeats 4000000 in
set_option maxRecDepth 100000 in
theorem seg605 {p : Program} {l : Launch} {e : Env} {s : State} {m : MethodId} {below : List Frame} {meth : Method} {c : Code} {Q : State → Prop} (D : va_G) (cI cZ cJ : ClassId) (b0 L0 : Nat) (xs : Nat → Int32) (C0 : LC s p m c D cI cZ cJ b0 L0 xs) (st g1 pr : Nat) (a b pa : Nat → Nat) (fp : Nat → Int32) (f_life : Nat) (f_pack : Nat) (f_route : Nat) (f_policy : Nat) (f_transports : Int32) (f_transport : Nat) (f_room : Nat) (f_day : Int32) (f_lots : Int32) (f_lot : Nat) (f_orders : Int32) (f_order : Nat) (f_reserved : Nat) (f_earned : Int32) (f_spent : Int32) (f_waste : Int32) (f_lacking : Int32) (f_holding : Int32) (ni ns : Nat) (hni : 1 ≤ ni ∧ ni ≤ 3) (hns : 2 ≤ ns ∧ ns ≤ 4) (tt : Nat) (jj : Nat) (hjj : jj < 12) (ii : Nat) (fr : Nat) (tz : Nat) (sr : Nat) (hii : ii < ni) (hfr : fr < ns) (hto : tz < ns) (hft : ¬ (fr = tz)) (dy : Nat) (hdy : dy ≤ 3 * jj) (dn : Nat) (hdn : 1 ≤ dn ∧ dn ≤ 3) (P : sg_Pic) (dd : Nat) (q : Nat → Int32) (R0 : sg_Pic) (q2 : Nat → Int32) (hB : sg_B (2 * jj + 2) dy ni ns fp P) (cc ss : Nat) (hcc : cc ≤ 4900) (hss : ss ≤ 399000) (K : (∀ (U : sg_Pic) (V : sg_PiL) (H : Heap) (locs : List Loc) (ls : Array Slot), lv_has ls 21 [(0, .ref b0), (1, .int (nI tt)), (2, .ref st), (3, .ref g1), (4, .int (nI jj)), (5, .int (nI ii)), (6, .int (nI fr)), (7, .int (nI tz)), (8, .int (nI sr)), (9, .int (nI dn)), (10, .long (sg_dig P)), (12, .int (sg_g_onHandIn_r P ii fr dn)), (13, .int (sg_g_firstShort_r P dn)), (15, .int 0)] → va_S (LA s) s.heap H locs → va_D (LA s) ([(st, .inr (9, [.ref g1, .ref b0, .int (nI dd), .int (nI ni), .ref pr, .ref f_life, .ref f_pack, .ref f_route, .ref f_policy, .int f_transports, .ref f_transport, .int (nI ns), .ref f_room, .int f_day, .int f_lots, .ref f_lot, .int f_orders, .ref f_order, .ref f_reserved, .int f_earned, .int f_spent, .int f_waste, .int f_lacking, .int f_holding])), (pr, .inl (cI, 3, .inl (fp))), (g1, .inr (8, [.ref (a 0), .ref (b 0), .ref (pa 0)]))] ++ sg_St cI cZ a P q ++ sg_St cI cZ b R0 q2 ++ sg_Pl cI cJ pa U V) → va_P D vwCl ([(st, .inr (9, [.ref g1, .ref b0, .int (nI dd), .int (nI ni), .ref pr, .ref f_life, .ref f_pack, .ref f_route, .ref f_policy, .int f_transports, .ref f_transport, .int (nI ns), .ref f_room, .int f_day, .int f_lots, .ref f_lot, .int f_orders, .ref f_order, .ref f_reserved, .int f_earned, .int f_spent, .int f_waste, .int f_lacking, .int f_holding])), (pr, .inl (cI, 3, .inl (fp))), (g1, .inr (8, [.ref (a 0), .ref (b 0), .ref (pa 0)]))] ++ sg_St cI cZ a P q ++ sg_St cI cZ b R0 q2 ++ sg_Pl cI cJ pa U V) H → W p l e room_1 s m #[Value.ref b0] below meth c H locs cc ss Q (F0 m 634 ls []))) (U : sg_Pic) (V : sg_PiL) {H : Heap} {locs : List Loc} {ls : Array Slot} (hl : lv_has ls 21 [(0, .ref b0), (1, .int (nI tt)), (2, .ref st), (3, .ref g1), (4, .int (nI jj)), (5, .int (nI ii)), (6, .int (nI fr)), (7, .int (nI tz)), (8, .int (nI sr)), (9, .int (nI dn)), (10, .long (sg_dig P)), (12, .int (sg_g_onHandIn_r P ii fr dn)), (13, .int (sg_g_firstShort_r P dn)), (14, .int (sg_ls P fp ns ni))]) (hS : va_S (LA s) s.heap H locs) (hD : va_D (LA s) ([(st, .inr (9, [.ref g1, .ref b0, .int (nI dd), .int (nI ni), .ref pr, .ref f_life, .ref f_pack, .ref f_route, .ref f_policy, .int f_transports, .ref f_transport, .int (nI ns), .ref f_room, .int f_day, .int f_lots, .ref f_lot, .int f_orders, .ref f_order, .ref f_reserved, .int f_earned, .int f_spent, .int f_waste, .int f_lacking, .int f_holding])), (pr, .inl (cI, 3, .inl (fp))), (g1, .inr (8, [.ref (a 0), .ref (b 0), .ref (pa 0)]))] ++ sg_St cI cZ a P q ++ sg_St cI cZ b R0 q2 ++ sg_Pl cI cJ pa U V)) (hP : va_P D vwCl ([(st, .inr (9, [.ref g1, .ref b0, .int (nI dd), .int (nI ni), .ref pr, .ref f_life, .ref f_pack, .ref f_route, .ref f_policy, .int f_transports, .ref f_transport, .int (nI ns), .ref f_room, .int f_day, .int f_lots, .ref f_lot, .int f_orders, .ref f_order, .ref f_reserved, .int f_earned, .int f_spent, .int f_waste, .int f_lacking, .int f_holding])), (pr, .inl (cI, 3, .inl (fp))), (g1, .inr (8, [.ref (a 0), .ref (b 0), .ref (pa 0)]))] ++ sg_St cI cZ a P q ++ sg_St cI cZ b R0 q2 ++ sg_Pl cI cJ pa U V) H) : W p l e room_1 s m #[Value.ref b0] below meth c H locs cc ss Q (F0 m 605 ls []) := by
  obtain ⟨hx, hb, hml, hown, hts, hX0, hC, hAO⟩ := id C0
  have hK := hC.K
  have hA : ∀ q : Nat, s.heap.size ≤ q → LA s q := fun _ h => h
  have hAlo : ∀ q, LA s q → s.heap.size ≤ q := fun _ h => h
  refine lv_aload_n hx hb dL_law_605 rfl (lv_at hl 3 rfl) ?_
  refine lv_iconst (v := 3) hx hb dL_law_606 (by decide) ?_
  have hPc := hP.sub (ws' := ([(g1, .inr (8, [.ref (a 0), .ref (b 0), .ref (pa 0)]))] ++ sg_St cI cZ a P q)) [2, 3, 4, 5, 6, 7, 8, 9, 10, 11, 12, 13, 14, 15, 16, 17, 18, 19, 20, 21, 22, 23, 24, 25, 26, 27, 28, 29, 30, 31, 32, 33, 34, 35, 36, 37, 38, 39, 40, 41, 42, 43] rfl
  have hDc := hD.sub (ws' := ([(g1, .inr (8, [.ref (a 0), .ref (b 0), .ref (pa 0)]))] ++ sg_St cI cZ a P q)) [2, 3, 4, 5, 6, 7, 8, 9, 10, 11, 12, 13, 14, 15, 16, 17, 18, 19, 20, 21, 22, 23, 24, 25, 26, 27, 28, 29, 30, 31, 32, 33, 34, 35, 36, 37, 38, 39, 40, 41, 42, 43] (by decide) rfl
  refine vp_callSi (W.runV (As := [.int 3]) (rest := []) ⟨hx, hb, hml, hown, hts⟩ (c_g_account l D cI cZ cJ s.heap.size H.size g1 pa b a P q 3 hB.W (by omega)) (cwV 1 hts gL_law_X8_account rfl rfl rfl (by decide +kernel) ⟨(Nat.le_of_ble_eq_true rfl), (Nat.le_of_ble_eq_true rfl)⟩) ⟨Pre.blind, va_recv hK hP (ci := 8) (q0 := 2) rfl rfl, Pre.mk hPc (hDc.weaken (fun _ _ _ h => hAlo _ h)) hC hS hAlo⟩ rfl rfl hl.1 rfl (lv_room (Nat.le_of_ble_eq_true rfl)) dL_law_607 ⟨(Nat.le_trans (show cc + 0 ≤ 5000 by omega) (Nat.le_of_ble_eq_true rfl)), (Nat.le_trans (show ss + 0 ≤ 400000 by omega) (Nat.le_of_ble_eq_true rfl))⟩) (fun r_1 e_2 => ?_)
  clear hPc hDc
  have e_2 : P 70 3 = r_1 := Eq.symm e_2
  subst e_2
  refine lv_iload hx hb dL_law_610 (lv_at hl 13 rfl) ?_
  refine lv_aload_n hx hb dL_law_612 rfl (lv_at hl 3 rfl) ?_
  refine lv_iconst (v := 4) hx hb dL_law_613 (by decide) ?_
  have hPc := hP.sub (ws' := ([(g1, .inr (8, [.ref (a 0), .ref (b 0), .ref (pa 0)]))] ++ sg_St cI cZ a P q)) [2, 3, 4, 5, 6, 7, 8, 9, 10, 11, 12, 13, 14, 15, 16, 17, 18, 19, 20, 21, 22, 23, 24, 25, 26, 27, 28, 29, 30, 31, 32, 33, 34, 35, 36, 37, 38, 39, 40, 41, 42, 43] rfl
  have hDc := hD.sub (ws' := ([(g1, .inr (8, [.ref (a 0), .ref (b 0), .ref (pa 0)]))] ++ sg_St cI cZ a P q)) [2, 3, 4, 5, 6, 7, 8, 9, 10, 11, 12, 13, 14, 15, 16, 17, 18, 19, 20, 21, 22, 23, 24, 25, 26, 27, 28, 29, 30, 31, 32, 33, 34, 35, 36, 37, 38, 39, 40, 41, 42, 43] (by decide) rfl
  refine vp_callSi (W.runV (As := [.int 4]) (rest := [.int (sg_ls P fp ns ni), .int (P 70 3)]) ⟨hx, hb, hml, hown, hts⟩ (c_g_account l D cI cZ cJ s.heap.size H.size g1 pa b a P q 4 hB.W (by omega)) (cwV 1 hts gL_law_X8_account rfl rfl rfl (by decide +kernel) ⟨(Nat.le_of_ble_eq_true rfl), (Nat.le_of_ble_eq_true rfl)⟩) ⟨Pre.blind, va_recv hK hP (ci := 8) (q0 := 2) rfl rfl, Pre.mk hPc (hDc.weaken (fun _ _ _ h => hAlo _ h)) hC hS hAlo⟩ rfl rfl hl.1 rfl (lv_room (Nat.le_of_ble_eq_true rfl)) dL_law_614 ⟨(Nat.le_trans (show cc + 0 ≤ 5000 by omega) (Nat.le_of_ble_eq_true rfl)), (Nat.le_trans (show ss + 0 ≤ 400000 by omega) (Nat.le_of_ble_eq_true rfl))⟩) (fun r_3 e_4 => ?_)
  clear hPc hDc
  have e_4 : P 70 4 = r_3 := Eq.symm e_4
  subst e_4
  refine lv_iconst (v := 2) hx hb dL_law_617 (by decide) ?_
  refine lv_idiv hx hb dL_law_618 (by decide) ?_
  refine lv_iadd hx hb dL_law_619 ?_
  refine lv_aload_n hx hb dL_law_620 rfl (lv_at hl 3 rfl) ?_
  refine lv_iconst (v := 1) hx hb dL_law_621 (by decide) ?_
  have hPc := hP.sub (ws' := ([(g1, .inr (8, [.ref (a 0), .ref (b 0), .ref (pa 0)]))] ++ sg_St cI cZ a P q)) [2, 3, 4, 5, 6, 7, 8, 9, 10, 11, 12, 13, 14, 15, 16, 17, 18, 19, 20, 21, 22, 23, 24, 25, 26, 27, 28, 29, 30, 31, 32, 33, 34, 35, 36, 37, 38, 39, 40, 41, 42, 43] rfl
  have hDc := hD.sub (ws' := ([(g1, .inr (8, [.ref (a 0), .ref (b 0), .ref (pa 0)]))] ++ sg_St cI cZ a P q)) [2, 3, 4, 5, 6, 7, 8, 9, 10, 11, 12, 13, 14, 15, 16, 17, 18, 19, 20, 21, 22, 23, 24, 25, 26, 27, 28, 29, 30, 31, 32, 33, 34, 35, 36, 37, 38, 39, 40, 41, 42, 43] (by decide) rfl
  refine vp_callSi (W.runV (As := [.int 1]) (rest := [.int ((sg_ls P fp ns ni) + ((P 70 4) / 2)), .int (P 70 3)]) ⟨hx, hb, hml, hown, hts⟩ (c_g_account l D cI cZ cJ s.heap.size H.size g1 pa b a P q 1 hB.W (by omega)) (cwV 1 hts gL_law_X8_account rfl rfl rfl (by decide +kernel) ⟨(Nat.le_of_ble_eq_true rfl), (Nat.le_of_ble_eq_true rfl)⟩) ⟨Pre.blind, va_recv hK hP (ci := 8) (q0 := 2) rfl rfl, Pre.mk hPc (hDc.weaken (fun _ _ _ h => hAlo _ h)) hC hS hAlo⟩ rfl rfl hl.1 rfl (lv_room (Nat.le_of_ble_eq_true rfl)) dL_law_622 ⟨(Nat.le_trans (show cc + 0 ≤ 5000 by omega) (Nat.le_of_ble_eq_true rfl)), (Nat.le_trans (show ss + 0 ≤ 400000 by omega) (Nat.le_of_ble_eq_true rfl))⟩) (fun r_5 e_6 => ?_)
  clear hPc hDc
  have e_6 : P 70 1 = r_5 := Eq.symm e_6
  subst e_6
  refine lv_iadd hx hb dL_law_625 ?_
  refine lv_icmp_eq (tgt := 631) hx hb dL_law_626 (by decide) (fun _ => ?_) (fun c9 => absurd (show (P 70 3) = (((sg_ls P fp ns ni) + ((P 70 4) / 2)) + (P 70 1)) from (sg_money hB hni hns)) c9)
  refine lv_iconst (v := 0) hx hb dL_law_631 (by decide) ?_
  refine lv_istore (lv' := [(15, .int 0), (0, .ref b0), (1, .int (nI tt)), (2, .ref st), (3, .ref g1), (4, .int (nI jj)), (5, .int (nI ii)), (6, .int (nI fr)), (7, .int (nI tz)), (8, .int (nI sr)), (9, .int (nI dn)), (10, .long (sg_dig P)), (12, .int (sg_g_onHandIn_r P ii fr dn)), (13, .int (sg_g_firstShort_r P dn)), (14, .int (sg_ls P fp ns ni))]) hx hb dL_law_632 hl (by decide) rfl (fun ls hl => ?_)
  exact K U V H _ _  (lv_sub hl [1, 2, 3, 4, 5, 6, 7, 8, 9, 10, 11, 12, 13, 0] rfl) hS hD hP

set_option maxHeartbeats 40000000 in
set_option maxRecDepth 100000 in
theorem seg634 {p : Program} {l : Launch} {e : Env} {s : State} {m : MethodId} {below : List Frame} {meth : Method} {c : Code} {Q : State → Prop} (D : va_G) (cI cZ cJ : ClassId) (b0 L0 : Nat) (xs : Nat → Int32) (C0 : LC s p m c D cI cZ cJ b0 L0 xs) (st g1 pr : Nat) (a b pa : Nat → Nat) (fp : Nat → Int32) (f_life : Nat) (f_pack : Nat) (f_route : Nat) (f_policy : Nat) (f_transports : Int32) (f_transport : Nat) (f_room : Nat) (f_day : Int32) (f_lots : Int32) (f_lot : Nat) (f_orders : Int32) (f_order : Nat) (f_reserved : Nat) (f_earned : Int32) (f_spent : Int32) (f_waste : Int32) (f_lacking : Int32) (f_holding : Int32) (ni ns : Nat) (hni : 1 ≤ ni ∧ ni ≤ 3) (hns : 2 ≤ ns ∧ ns ≤ 4) (tt : Nat) (jj : Nat) (hjj : jj < 12) (ii : Nat) (fr : Nat) (tz : Nat) (sr : Nat) (hii : ii < ni) (hfr : fr < ns) (hto : tz < ns) (hft : ¬ (fr = tz)) (dy : Nat) (hdy : dy ≤ 3 * jj) (dn : Nat) (hdn : 1 ≤ dn ∧ dn ≤ 3) (P : sg_Pic) (dd : Nat) (q : Nat → Int32) (R0 : sg_Pic) (q2 : Nat → Int32) (hB : sg_B (2 * jj + 2) dy ni ns fp P) (cc ss : Nat) (hcc : cc ≤ 4900) (hss : ss ≤ 399000) (K : (∀ (U : sg_Pic) (V : sg_PiL) (H : Heap) (locs : List Loc) (ls : Array Slot), lv_has ls 21 [(0, .ref b0), (1, .int (nI tt)), (2, .ref st), (3, .ref g1), (4, .int (nI jj)), (5, .int (nI ii)), (6, .int (nI fr)), (7, .int (nI tz)), (8, .int (nI sr)), (9, .int (nI dn)), (10, .long (sg_dig P)), (12, .int (sg_g_onHandIn_r P ii fr dn)), (13, .int (sg_g_firstShort_r P dn)), (15, .int 0)] → va_S (LA s) s.heap H locs → va_D (LA s) ([(st, .inr (9, [.ref g1, .ref b0, .int (nI dd), .int (nI ni), .ref pr, .ref f_life, .ref f_pack, .ref f_route, .ref f_policy, .int f_transports, .ref f_transport, .int (nI ns), .ref f_room, .int f_day, .int f_lots, .ref f_lot, .int f_orders, .ref f_order, .ref f_reserved, .int f_earned, .int f_spent, .int f_waste, .int f_lacking, .int f_holding])), (pr, .inl (cI, 3, .inl (fp))), (g1, .inr (8, [.ref (a 0), .ref (b 0), .ref (pa 0)]))] ++ sg_St cI cZ a P q ++ sg_St cI cZ b R0 q2 ++ sg_Pl cI cJ pa U V) → va_P D vwCl ([(st, .inr (9, [.ref g1, .ref b0, .int (nI dd), .int (nI ni), .ref pr, .ref f_life, .ref f_pack, .ref f_route, .ref f_policy, .int f_transports, .ref f_transport, .int (nI ns), .ref f_room, .int f_day, .int f_lots, .ref f_lot, .int f_orders, .ref f_order, .ref f_reserved, .int f_earned, .int f_spent, .int f_waste, .int f_lacking, .int f_holding])), (pr, .inl (cI, 3, .inl (fp))), (g1, .inr (8, [.ref (a 0), .ref (b 0), .ref (pa 0)]))] ++ sg_St cI cZ a P q ++ sg_St cI cZ b R0 q2 ++ sg_Pl cI cJ pa U V) H → W p l e room_1 s m #[Value.ref b0] below meth c H locs cc ss Q (F0 m 705 ls []))) (U : sg_Pic) (V : sg_PiL) (H : Heap) (locs : List Loc) (ls : Array Slot) (hl : lv_has ls 21 [(0, .ref b0), (1, .int (nI tt)), (2, .ref st), (3, .ref g1), (4, .int (nI jj)), (5, .int (nI ii)), (6, .int (nI fr)), (7, .int (nI tz)), (8, .int (nI sr)), (9, .int (nI dn)), (10, .long (sg_dig P)), (12, .int (sg_g_onHandIn_r P ii fr dn)), (13, .int (sg_g_firstShort_r P dn)), (15, .int 0)]) (hS : va_S (LA s) s.heap H locs) (hD : va_D (LA s) ([(st, .inr (9, [.ref g1, .ref b0, .int (nI dd), .int (nI ni), .ref pr, .ref f_life, .ref f_pack, .ref f_route, .ref f_policy, .int f_transports, .ref f_transport, .int (nI ns), .ref f_room, .int f_day, .int f_lots, .ref f_lot, .int f_orders, .ref f_order, .ref f_reserved, .int f_earned, .int f_spent, .int f_waste, .int f_lacking, .int f_holding])), (pr, .inl (cI, 3, .inl (fp))), (g1, .inr (8, [.ref (a 0), .ref (b 0), .ref (pa 0)]))] ++ sg_St cI cZ a P q ++ sg_St cI cZ b R0 q2 ++ sg_Pl cI cJ pa U V)) (hP : va_P D vwCl ([(st, .inr (9, [.ref g1, .ref b0, .int (nI dd), .int (nI ni), .ref pr, .ref f_life, .ref f_pack, .ref f_route, .ref f_policy, .int f_transports, .ref f_transport, .int (nI ns), .ref f_room, .int f_day, .int f_lots, .ref f_lot, .int f_orders, .ref f_order, .ref f_reserved, .int f_earned, .int f_spent, .int f_waste, .int f_lacking, .int f_holding])), (pr, .inl (cI, 3, .inl (fp))), (g1, .inr (8, [.ref (a 0), .ref (b 0), .ref (pa 0)]))] ++ sg_St cI cZ a P q ++ sg_St cI cZ b R0 q2 ++ sg_Pl cI cJ pa U V) H) : W p l e room_1 s m #[Value.ref b0] below meth c H locs cc ss Q (F0 m 634 ls []) := by
  obtain ⟨hx, hb, hml, hown, hts, hX0, hC, hAO⟩ := id C0
  have hK := hC.K
  have hA : ∀ q : Nat, s.heap.size ≤ q → LA s q := fun _ h => h
  have hAlo : ∀ q, LA s q → s.heap.size ≤ q := fun _ h => h
  have hn3 : sg_cn P 3 ≤ 200 := hB.W.n3
  obtain ⟨j634, h0j634⟩ : ∃ j : Nat, j = 0 := ⟨_, rfl⟩
  replace hl : lv_has ls 21 [(0, .ref b0), (1, .int (nI tt)), (2, .ref st), (3, .ref g1), (4, .int (nI jj)), (5, .int (nI ii)), (6, .int (nI fr)), (7, .int (nI tz)), (8, .int (nI sr)), (9, .int (nI dn)), (10, .long (sg_dig P)), (12, .int (sg_g_onHandIn_r P ii fr dn)), (13, .int (sg_g_firstShort_r P dn)), (15, .int (nI j634))] := by (try simp only [h0j634]); exact hl
  replace hP : va_P D vwCl ([(st, .inr (9, [.ref g1, .ref b0, .int (nI dd), .int (nI ni), .ref pr, .ref f_life, .ref f_pack, .ref f_route, .ref f_policy, .int f_transports, .ref f_transport, .int (nI ns), .ref f_room, .int f_day, .int f_lots, .ref f_lot, .int f_orders, .ref f_order, .ref f_reserved, .int f_earned, .int f_spent, .int f_waste, .int f_lacking, .int f_holding])), (pr, .inl (cI, 3, .inl (fp))), (g1, .inr (8, [.ref (a 0), .ref (b 0), .ref (pa 0)]))] ++ sg_St cI cZ a P q ++ sg_St cI cZ b R0 q2 ++ sg_Pl cI cJ pa U V) H := by (try simp only [h0j634]); exact hP
  replace hD : va_D (LA s) ([(st, .inr (9, [.ref g1, .ref b0, .int (nI dd), .int (nI ni), .ref pr, .ref f_life, .ref f_pack, .ref f_route, .ref f_policy, .int f_transports, .ref f_transport, .int (nI ns), .ref f_room, .int f_day, .int f_lots, .ref f_lot, .int f_orders, .ref f_order, .ref f_reserved, .int f_earned, .int f_spent, .int f_waste, .int f_lacking, .int f_holding])), (pr, .inl (cI, 3, .inl (fp))), (g1, .inr (8, [.ref (a 0), .ref (b 0), .ref (pa 0)]))] ++ sg_St cI cZ a P q ++ sg_St cI cZ b R0 q2 ++ sg_Pl cI cJ pa U V) := by (try simp only [h0j634]); exact hD
  have hjj634 : j634 ≤ sg_cn P 3 := by omega
  clear h0j634 
  obtain ⟨n634, hn634⟩ : ∃ n : Nat, sg_cn P 3 < j634 + n := ⟨sg_cn P 3 + 1, by omega⟩
  have hS9 := hS
  repeat clear hS
  have hS := hS9
  clear hS9
  revert hP
  revert hD
  revert hS
  revert hl
  revert hn634
  revert hjj634
  revert ls
  revert locs
  revert H
  revert j634
  induction n634 with
  | zero =>
    intro j634 H locs ls hjj634 hn634 hl hS hD hP
    exact absurd hn634 (by omega)
  | succ n634 ih634 =>
    intro j634 H locs ls hjj634 hn634 hl hS hD hP
    refine lv_iload hx hb dL_law_634 (lv_at hl 13 rfl) ?_
    refine lv_aload_n hx hb dL_law_636 rfl (lv_at hl 3 rfl) ?_
    have hPc := hP.sub (ws' := ([(g1, .inr (8, [.ref (a 0), .ref (b 0), .ref (pa 0)]))] ++ sg_St cI cZ a P q)) [2, 3, 4, 5, 6, 7, 8, 9, 10, 11, 12, 13, 14, 15, 16, 17, 18, 19, 20, 21, 22, 23, 24, 25, 26, 27, 28, 29, 30, 31, 32, 33, 34, 35, 36, 37, 38, 39, 40, 41, 42, 43] rfl
    have hDc := hD.sub (ws' := ([(g1, .inr (8, [.ref (a 0), .ref (b 0), .ref (pa 0)]))] ++ sg_St cI cZ a P q)) [2, 3, 4, 5, 6, 7, 8, 9, 10, 11, 12, 13, 14, 15, 16, 17, 18, 19, 20, 21, 22, 23, 24, 25, 26, 27, 28, 29, 30, 31, 32, 33, 34, 35, 36, 37, 38, 39, 40, 41, 42, 43] (by decide) rfl
    refine vp_callSi (W.runV (As := []) (rest := [.int (nI j634)]) ⟨hx, hb, hml, hown, hts⟩ (c_g_lots l D cI cZ cJ s.heap.size H.size g1 pa b a P q hB.W) (cwV 0 hts gL_law_X8_lots rfl rfl rfl (by decide +kernel) ⟨(Nat.le_of_ble_eq_true rfl), (Nat.le_of_ble_eq_true rfl)⟩) ⟨Pre.blind, va_recv hK hP (ci := 8) (q0 := 2) rfl rfl, Pre.mk hPc (hDc.weaken (fun _ _ _ h => hAlo _ h)) hC hS hAlo⟩ rfl rfl hl.1 rfl (lv_room (Nat.le_of_ble_eq_true rfl)) dL_law_637 ⟨(Nat.le_trans (show cc + 0 ≤ 5000 by omega) (Nat.le_of_ble_eq_true rfl)), (Nat.le_trans (show ss + 0 ≤ 400000 by omega) (Nat.le_of_ble_eq_true rfl))⟩) (fun r_1 e_2 => ?_)
    clear hPc hDc
    have e_2 : P 0 3 = r_1 := Eq.symm e_2
    subst e_2
    have hB634 : ((P 0 3) : Int32) = nI (sg_cn P 3) := hB.W.e3
    refine lv_icmp_ge (tgt := 702) hx hb dL_law_640 (by decide) (fun c_3 => ?_) (fun c_3 => ?_)
    · have hE634 : sg_cn P 3 = j634 := (sg_eq hB634 c_3 hjj634 (by omega)).symm
      clear ih634 hn634
      subst hE634
      refine lv_iconst (v := 0) hx hb dL_law_702 (by decide) ?_
      refine lv_istore (lv' := [(15, .int 0), (0, .ref b0), (1, .int (nI tt)), (2, .ref st), (3, .ref g1), (4, .int (nI jj)), (5, .int (nI ii)), (6, .int (nI fr)), (7, .int (nI tz)), (8, .int (nI sr)), (9, .int (nI dn)), (10, .long (sg_dig P)), (12, .int (sg_g_onHandIn_r P ii fr dn)), (13, .int (sg_g_firstShort_r P dn))]) hx hb dL_law_703 hl (by decide) rfl (fun ls hl => ?_)
      exact K U V H _ _  (lv_sub hl [1, 2, 3, 4, 5, 6, 7, 8, 9, 10, 11, 12, 13, 0] rfl) hS hD hP
    · have hL634 : j634 < sg_cn P 3 := sg_lt hB634 c_3 (by omega)
      refine lv_aload_n hx hb dL_law_643 rfl (lv_at hl 3 rfl) ?_
      refine lv_iload hx hb dL_law_644 (lv_at hl 13 rfl) ?_
      refine lv_iconst (v := 3) hx hb dL_law_646 (by decide) ?_
      have hPc := hP.sub (ws' := ([(g1, .inr (8, [.ref (a 0), .ref (b 0), .ref (pa 0)]))] ++ sg_St cI cZ a P q)) [2, 3, 4, 5, 6, 7, 8, 9, 10, 11, 12, 13, 14, 15, 16, 17, 18, 19, 20, 21, 22, 23, 24, 25, 26, 27, 28, 29, 30, 31, 32, 33, 34, 35, 36, 37, 38, 39, 40, 41, 42, 43] rfl
      have hDc := hD.sub (ws' := ([(g1, .inr (8, [.ref (a 0), .ref (b 0), .ref (pa 0)]))] ++ sg_St cI cZ a P q)) [2, 3, 4, 5, 6, 7, 8, 9, 10, 11, 12, 13, 14, 15, 16, 17, 18, 19, 20, 21, 22, 23, 24, 25, 26, 27, 28, 29, 30, 31, 32, 33, 34, 35, 36, 37, 38, 39, 40, 41, 42, 43] (by decide) rfl
      refine vp_callSi (W.runV (As := [.int (nI j634), .int 3]) (rest := []) ⟨hx, hb, hml, hown, hts⟩ (c_g_ofLot l D cI cZ cJ s.heap.size H.size g1 pa b a P q j634 3 hB.W hL634 (by omega)) (cwV 2 hts gL_law_X8_ofLot rfl rfl rfl (by decide +kernel) ⟨(Nat.le_of_ble_eq_true rfl), (Nat.le_of_ble_eq_true rfl)⟩) ⟨Pre.blind, va_recv hK hP (ci := 8) (q0 := 2) rfl rfl, Pre.mk hPc (hDc.weaken (fun _ _ _ h => hAlo _ h)) hC hS hAlo⟩ rfl rfl hl.1 rfl (lv_room (Nat.le_of_ble_eq_true rfl)) dL_law_647 ⟨(Nat.le_trans (show cc + 0 ≤ 5000 by omega) (Nat.le_of_ble_eq_true rfl)), (Nat.le_trans (show ss + 0 ≤ 400000 by omega) (Nat.le_of_ble_eq_true rfl))⟩) (fun r_4 e_5 => ?_)
      clear hPc hDc
      have e_5 : sg_ltell P j634 3 = r_4 := Eq.symm e_5
      subst e_5
      refine lv_if_lt (tgt := 694) hx hb dL_law_650 (by decide) (fun c9 => absurd c9 (show ¬ ((sg_ltell P j634 3) < (0 : Int32)) from (sg_lot_0 hB hL634))) (fun _ => ?_)
      refine lv_aload_n hx hb dL_law_653 rfl (lv_at hl 3 rfl) ?_
      refine lv_iload hx hb dL_law_654 (lv_at hl 13 rfl) ?_
      refine lv_iconst (v := 3) hx hb dL_law_656 (by decide) ?_
      have hPc := hP.sub (ws' := ([(g1, .inr (8, [.ref (a 0), .ref (b 0), .ref (pa 0)]))] ++ sg_St cI cZ a P q)) [2, 3, 4, 5, 6, 7, 8, 9, 10, 11, 12, 13, 14, 15, 16, 17, 18, 19, 20, 21, 22, 23, 24, 25, 26, 27, 28, 29, 30, 31, 32, 33, 34, 35, 36, 37, 38, 39, 40, 41, 42, 43] rfl
      have hDc := hD.sub (ws' := ([(g1, .inr (8, [.ref (a 0), .ref (b 0), .ref (pa 0)]))] ++ sg_St cI cZ a P q)) [2, 3, 4, 5, 6, 7, 8, 9, 10, 11, 12, 13, 14, 15, 16, 17, 18, 19, 20, 21, 22, 23, 24, 25, 26, 27, 28, 29, 30, 31, 32, 33, 34, 35, 36, 37, 38, 39, 40, 41, 42, 43] (by decide) rfl
      refine vp_callSi (W.runV (As := [.int (nI j634), .int 3]) (rest := []) ⟨hx, hb, hml, hown, hts⟩ (c_g_ofLot l D cI cZ cJ s.heap.size H.size g1 pa b a P q j634 3 hB.W hL634 (by omega)) (cwV 2 hts gL_law_X8_ofLot rfl rfl rfl (by decide +kernel) ⟨(Nat.le_of_ble_eq_true rfl), (Nat.le_of_ble_eq_true rfl)⟩) ⟨Pre.blind, va_recv hK hP (ci := 8) (q0 := 2) rfl rfl, Pre.mk hPc (hDc.weaken (fun _ _ _ h => hAlo _ h)) hC hS hAlo⟩ rfl rfl hl.1 rfl (lv_room (Nat.le_of_ble_eq_true rfl)) dL_law_657 ⟨(Nat.le_trans (show cc + 0 ≤ 5000 by omega) (Nat.le_of_ble_eq_true rfl)), (Nat.le_trans (show ss + 0 ≤ 400000 by omega) (Nat.le_of_ble_eq_true rfl))⟩) (fun r_6 e_7 => ?_)
      clear hPc hDc
      have e_7 : sg_ltell P j634 3 = r_6 := Eq.symm e_7
      subst e_7
      refine lv_aload_n hx hb dL_law_660 rfl (lv_at hl 3 rfl) ?_
      refine lv_iload hx hb dL_law_661 (lv_at hl 13 rfl) ?_
      refine lv_iconst (v := 2) hx hb dL_law_663 (by decide) ?_
      have hPc := hP.sub (ws' := ([(g1, .inr (8, [.ref (a 0), .ref (b 0), .ref (pa 0)]))] ++ sg_St cI cZ a P q)) [2, 3, 4, 5, 6, 7, 8, 9, 10, 11, 12, 13, 14, 15, 16, 17, 18, 19, 20, 21, 22, 23, 24, 25, 26, 27, 28, 29, 30, 31, 32, 33, 34, 35, 36, 37, 38, 39, 40, 41, 42, 43] rfl
      have hDc := hD.sub (ws' := ([(g1, .inr (8, [.ref (a 0), .ref (b 0), .ref (pa 0)]))] ++ sg_St cI cZ a P q)) [2, 3, 4, 5, 6, 7, 8, 9, 10, 11, 12, 13, 14, 15, 16, 17, 18, 19, 20, 21, 22, 23, 24, 25, 26, 27, 28, 29, 30, 31, 32, 33, 34, 35, 36, 37, 38, 39, 40, 41, 42, 43] (by decide) rfl
      refine vp_callSi (W.runV (As := [.int (nI j634), .int 2]) (rest := [.int (sg_ltell P j634 3)]) ⟨hx, hb, hml, hown, hts⟩ (c_g_ofLot l D cI cZ cJ s.heap.size H.size g1 pa b a P q j634 2 hB.W hL634 (by omega)) (cwV 2 hts gL_law_X8_ofLot rfl rfl rfl (by decide +kernel) ⟨(Nat.le_of_ble_eq_true rfl), (Nat.le_of_ble_eq_true rfl)⟩) ⟨Pre.blind, va_recv hK hP (ci := 8) (q0 := 2) rfl rfl, Pre.mk hPc (hDc.weaken (fun _ _ _ h => hAlo _ h)) hC hS hAlo⟩ rfl rfl hl.1 rfl (lv_room (Nat.le_of_ble_eq_true rfl)) dL_law_664 ⟨(Nat.le_trans (show cc + 0 ≤ 5000 by omega) (Nat.le_of_ble_eq_true rfl)), (Nat.le_trans (show ss + 0 ≤ 400000 by omega) (Nat.le_of_ble_eq_true rfl))⟩) (fun r_8 e_9 => ?_)
      clear hPc hDc
      have e_9 : sg_ltell P j634 2 = r_8 := Eq.symm e_9
      subst e_9
      refine lv_icmp_gt (tgt := 694) hx hb dL_law_667 (by decide) (fun c9 => absurd c9 (show ¬ ((sg_ltell P j634 2) < (sg_ltell P j634 3)) from (sg_lot_1 hB hL634))) (fun _ => ?_)
      refine lv_aload_n hx hb dL_law_670 rfl (lv_at hl 3 rfl) ?_
      refine lv_iload hx hb dL_law_671 (lv_at hl 13 rfl) ?_
      refine lv_iconst (v := 2) hx hb dL_law_673 (by decide) ?_
      have hPc := hP.sub (ws' := ([(g1, .inr (8, [.ref (a 0), .ref (b 0), .ref (pa 0)]))] ++ sg_St cI cZ a P q)) [2, 3, 4, 5, 6, 7, 8, 9, 10, 11, 12, 13, 14, 15, 16, 17, 18, 19, 20, 21, 22, 23, 24, 25, 26, 27, 28, 29, 30, 31, 32, 33, 34, 35, 36, 37, 38, 39, 40, 41, 42, 43] rfl
      have hDc := hD.sub (ws' := ([(g1, .inr (8, [.ref (a 0), .ref (b 0), .ref (pa 0)]))] ++ sg_St cI cZ a P q)) [2, 3, 4, 5, 6, 7, 8, 9, 10, 11, 12, 13, 14, 15, 16, 17, 18, 19, 20, 21, 22, 23, 24, 25, 26, 27, 28, 29, 30, 31, 32, 33, 34, 35, 36, 37, 38, 39, 40, 41, 42, 43] (by decide) rfl
      refine vp_callSi (W.runV (As := [.int (nI j634), .int 2]) (rest := []) ⟨hx, hb, hml, hown, hts⟩ (c_g_ofLot l D cI cZ cJ s.heap.size H.size g1 pa b a P q j634 2 hB.W hL634 (by omega)) (cwV 2 hts gL_law_X8_ofLot rfl rfl rfl (by decide +kernel) ⟨(Nat.le_of_ble_eq_true rfl), (Nat.le_of_ble_eq_true rfl)⟩) ⟨Pre.blind, va_recv hK hP (ci := 8) (q0 := 2) rfl rfl, Pre.mk hPc (hDc.weaken (fun _ _ _ h => hAlo _ h)) hC hS hAlo⟩ rfl rfl hl.1 rfl (lv_room (Nat.le_of_ble_eq_true rfl)) dL_law_674 ⟨(Nat.le_trans (show cc + 0 ≤ 5000 by omega) (Nat.le_of_ble_eq_true rfl)), (Nat.le_trans (show ss + 0 ≤ 400000 by omega) (Nat.le_of_ble_eq_true rfl))⟩) (fun r_10 e_11 => ?_)
      clear hPc hDc
      have e_11 : sg_ltell P j634 2 = r_10 := Eq.symm e_11
      subst e_11
      refine lv_if_le (tgt := 696) hx hb dL_law_677 (by decide) (fun c_12 => ?_) (fun c_12 => ?_)
      · refine lv_iinc (v := nI (j634 + 1)) (lv' := [(15, .int (nI (j634 + 1))), (0, .ref b0), (1, .int (nI tt)), (2, .ref st), (3, .ref g1), (4, .int (nI jj)), (5, .int (nI ii)), (6, .int (nI fr)), (7, .int (nI tz)), (8, .int (nI sr)), (9, .int (nI dn)), (10, .long (sg_dig P)), (12, .int (sg_g_onHandIn_r P ii fr dn)), (13, .int (sg_g_firstShort_r P dn))]) hx hb dL_law_696 hl (k := 13) rfl (nI_1 j634) (by decide) rfl (fun ls hl => ?_)
        refine lv_goto (tgt := 634) hx hb dL_law_699 (by decide) ?_
        exact ih634 (j634 + 1) _ _ _  (by omega) (by omega) (lv_sub hl [1, 2, 3, 4, 5, 6, 7, 8, 9, 10, 11, 12, 13, 0] rfl) hS hD hP
      · refine lv_aload_n hx hb dL_law_680 rfl (lv_at hl 3 rfl) ?_
        refine lv_iload hx hb dL_law_681 (lv_at hl 13 rfl) ?_
        refine lv_iconst (v := 4) hx hb dL_law_683 (by decide) ?_
        have hPc := hP.sub (ws' := ([(g1, .inr (8, [.ref (a 0), .ref (b 0), .ref (pa 0)]))] ++ sg_St cI cZ a P q)) [2, 3, 4, 5, 6, 7, 8, 9, 10, 11, 12, 13, 14, 15, 16, 17, 18, 19, 20, 21, 22, 23, 24, 25, 26, 27, 28, 29, 30, 31, 32, 33, 34, 35, 36, 37, 38, 39, 40, 41, 42, 43] rfl
        have hDc := hD.sub (ws' := ([(g1, .inr (8, [.ref (a 0), .ref (b 0), .ref (pa 0)]))] ++ sg_St cI cZ a P q)) [2, 3, 4, 5, 6, 7, 8, 9, 10, 11, 12, 13, 14, 15, 16, 17, 18, 19, 20, 21, 22, 23, 24, 25, 26, 27, 28, 29, 30, 31, 32, 33, 34, 35, 36, 37, 38, 39, 40, 41, 42, 43] (by decide) rfl
        refine vp_callSi (W.runV (As := [.int (nI j634), .int 4]) (rest := []) ⟨hx, hb, hml, hown, hts⟩ (c_g_ofLot l D cI cZ cJ s.heap.size H.size g1 pa b a P q j634 4 hB.W hL634 (by omega)) (cwV 2 hts gL_law_X8_ofLot rfl rfl rfl (by decide +kernel) ⟨(Nat.le_of_ble_eq_true rfl), (Nat.le_of_ble_eq_true rfl)⟩) ⟨Pre.blind, va_recv hK hP (ci := 8) (q0 := 2) rfl rfl, Pre.mk hPc (hDc.weaken (fun _ _ _ h => hAlo _ h)) hC hS hAlo⟩ rfl rfl hl.1 rfl (lv_room (Nat.le_of_ble_eq_true rfl)) dL_law_684 ⟨(Nat.le_trans (show cc + 0 ≤ 5000 by omega) (Nat.le_of_ble_eq_true rfl)), (Nat.le_trans (show ss + 0 ≤ 400000 by omega) (Nat.le_of_ble_eq_true rfl))⟩) (fun r_13 e_14 => ?_)
        clear hPc hDc
        have e_14 : sg_ltell P j634 4 = r_13 := Eq.symm e_14
        subst e_14
        refine lv_aload_n hx hb dL_law_687 rfl (lv_at hl 3 rfl) ?_
        have hPc := hP.sub (ws' := ([(g1, .inr (8, [.ref (a 0), .ref (b 0), .ref (pa 0)]))] ++ sg_St cI cZ a P q)) [2, 3, 4, 5, 6, 7, 8, 9, 10, 11, 12, 13, 14, 15, 16, 17, 18, 19, 20, 21, 22, 23, 24, 25, 26, 27, 28, 29, 30, 31, 32, 33, 34, 35, 36, 37, 38, 39, 40, 41, 42, 43] rfl
        have hDc := hD.sub (ws' := ([(g1, .inr (8, [.ref (a 0), .ref (b 0), .ref (pa 0)]))] ++ sg_St cI cZ a P q)) [2, 3, 4, 5, 6, 7, 8, 9, 10, 11, 12, 13, 14, 15, 16, 17, 18, 19, 20, 21, 22, 23, 24, 25, 26, 27, 28, 29, 30, 31, 32, 33, 34, 35, 36, 37, 38, 39, 40, 41, 42, 43] (by decide) rfl
        refine vp_callSi (W.runV (As := []) (rest := [.int (sg_ltell P j634 4)]) ⟨hx, hb, hml, hown, hts⟩ (c_g_day l D cI cZ cJ s.heap.size H.size g1 pa b a P q hB.W) (cwV 0 hts gL_law_X8_day rfl rfl rfl (by decide +kernel) ⟨(Nat.le_of_ble_eq_true rfl), (Nat.le_of_ble_eq_true rfl)⟩) ⟨Pre.blind, va_recv hK hP (ci := 8) (q0 := 2) rfl rfl, Pre.mk hPc (hDc.weaken (fun _ _ _ h => hAlo _ h)) hC hS hAlo⟩ rfl rfl hl.1 rfl (lv_room (Nat.le_of_ble_eq_true rfl)) dL_law_688 ⟨(Nat.le_trans (show cc + 0 ≤ 5000 by omega) (Nat.le_of_ble_eq_true rfl)), (Nat.le_trans (show ss + 0 ≤ 400000 by omega) (Nat.le_of_ble_eq_true rfl))⟩) (fun r_15 e_16 => ?_)
        clear hPc hDc
        have e_16 : P 0 0 = r_15 := Eq.symm e_16
        subst e_16
        refine lv_icmp_ge (tgt := 696) hx hb dL_law_691 (by decide) (fun _ => ?_) (fun c9 => absurd (show (P 0 0) ≤ (sg_ltell P j634 4) from (sg_lot_2 hB hL634 c_12)) c9)
        refine lv_iinc (v := nI (j634 + 1)) (lv' := [(15, .int (nI (j634 + 1))), (0, .ref b0), (1, .int (nI tt)), (2, .ref st), (3, .ref g1), (4, .int (nI jj)), (5, .int (nI ii)), (6, .int (nI fr)), (7, .int (nI tz)), (8, .int (nI sr)), (9, .int (nI dn)), (10, .long (sg_dig P)), (12, .int (sg_g_onHandIn_r P ii fr dn)), (13, .int (sg_g_firstShort_r P dn))]) hx hb dL_law_696 hl (k := 13) rfl (nI_1 j634) (by decide) rfl (fun ls hl => ?_)
        refine lv_goto (tgt := 634) hx hb dL_law_699 (by decide) ?_
        exact ih634 (j634 + 1) _ _ _  (by omega) (by omega) (lv_sub hl [1, 2, 3, 4, 5, 6, 7, 8, 9, 10, 11, 12, 13, 0] rfl) hS hD hP

set_option maxHeartbeats 40000000 in
set_option maxRecDepth 100000 in
theorem seg705 {p : Program} {l : Launch} {e : Env} {s : State} {m : MethodId} {below : List Frame} {meth : Method} {c : Code} {Q : State → Prop} (D : va_G) (cI cZ cJ : ClassId) (b0 L0 : Nat) (xs : Nat → Int32) (C0 : LC s p m c D cI cZ cJ b0 L0 xs) (st g1 pr : Nat) (a b pa : Nat → Nat) (fp : Nat → Int32) (f_life : Nat) (f_pack : Nat) (f_route : Nat) (f_policy : Nat) (f_transports : Int32) (f_transport : Nat) (f_room : Nat) (f_day : Int32) (f_lots : Int32) (f_lot : Nat) (f_orders : Int32) (f_order : Nat) (f_reserved : Nat) (f_earned : Int32) (f_spent : Int32) (f_waste : Int32) (f_lacking : Int32) (f_holding : Int32) (ni ns : Nat) (hni : 1 ≤ ni ∧ ni ≤ 3) (hns : 2 ≤ ns ∧ ns ≤ 4) (tt : Nat) (jj : Nat) (hjj : jj < 12) (ii : Nat) (fr : Nat) (tz : Nat) (sr : Nat) (hii : ii < ni) (hfr : fr < ns) (hto : tz < ns) (hft : ¬ (fr = tz)) (dy : Nat) (hdy : dy ≤ 3 * jj) (dn : Nat) (hdn : 1 ≤ dn ∧ dn ≤ 3) (P : sg_Pic) (dd : Nat) (q : Nat → Int32) (R0 : sg_Pic) (q2 : Nat → Int32) (hB : sg_B (2 * jj + 2) dy ni ns fp P) (cc ss : Nat) (hcc : cc ≤ 4900) (hss : ss ≤ 399000) (K : (∀ (U : sg_Pic) (V : sg_PiL) (H : Heap) (locs : List Loc) (ls : Array Slot), lv_has ls 21 [(0, .ref b0), (1, .int (nI tt)), (2, .ref st), (3, .ref g1), (4, .int (nI jj)), (5, .int (nI ii)), (6, .int (nI fr)), (7, .int (nI tz)), (8, .int (nI sr)), (9, .int (nI dn)), (10, .long (sg_dig P)), (12, .int (sg_g_onHandIn_r P ii fr dn)), (13, .int (sg_g_firstShort_r P dn))] → va_S (LA s) s.heap H locs → va_D (LA s) ([(st, .inr (9, [.ref g1, .ref b0, .int (nI dd), .int (nI ni), .ref pr, .ref f_life, .ref f_pack, .ref f_route, .ref f_policy, .int f_transports, .ref f_transport, .int (nI ns), .ref f_room, .int f_day, .int f_lots, .ref f_lot, .int f_orders, .ref f_order, .ref f_reserved, .int f_earned, .int f_spent, .int f_waste, .int f_lacking, .int f_holding])), (pr, .inl (cI, 3, .inl (fp))), (g1, .inr (8, [.ref (a 0), .ref (b 0), .ref (pa 0)]))] ++ sg_St cI cZ a P q ++ sg_St cI cZ b R0 q2 ++ sg_Pl cI cJ pa U V) → va_P D vwCl ([(st, .inr (9, [.ref g1, .ref b0, .int (nI dd), .int (nI ni), .ref pr, .ref f_life, .ref f_pack, .ref f_route, .ref f_policy, .int f_transports, .ref f_transport, .int (nI ns), .ref f_room, .int f_day, .int f_lots, .ref f_lot, .int f_orders, .ref f_order, .ref f_reserved, .int f_earned, .int f_spent, .int f_waste, .int f_lacking, .int f_holding])), (pr, .inl (cI, 3, .inl (fp))), (g1, .inr (8, [.ref (a 0), .ref (b 0), .ref (pa 0)]))] ++ sg_St cI cZ a P q ++ sg_St cI cZ b R0 q2 ++ sg_Pl cI cJ pa U V) H → W p l e room_1 s m #[Value.ref b0] below meth c H locs cc ss Q (F0 m 787 ls []))) (U : sg_Pic) (V : sg_PiL) (H : Heap) (locs : List Loc) (ls : Array Slot) (hl : lv_has ls 21 [(0, .ref b0), (1, .int (nI tt)), (2, .ref st), (3, .ref g1), (4, .int (nI jj)), (5, .int (nI ii)), (6, .int (nI fr)), (7, .int (nI tz)), (8, .int (nI sr)), (9, .int (nI dn)), (10, .long (sg_dig P)), (12, .int (sg_g_onHandIn_r P ii fr dn)), (13, .int (sg_g_firstShort_r P dn)), (15, .int 0)]) (hS : va_S (LA s) s.heap H locs) (hD : va_D (LA s) ([(st, .inr (9, [.ref g1, .ref b0, .int (nI dd), .int (nI ni), .ref pr, .ref f_life, .ref f_pack, .ref f_route, .ref f_policy, .int f_transports, .ref f_transport, .int (nI ns), .ref f_room, .int f_day, .int f_lots, .ref f_lot, .int f_orders, .ref f_order, .ref f_reserved, .int f_earned, .int f_spent, .int f_waste, .int f_lacking, .int f_holding])), (pr, .inl (cI, 3, .inl (fp))), (g1, .inr (8, [.ref (a 0), .ref (b 0), .ref (pa 0)]))] ++ sg_St cI cZ a P q ++ sg_St cI cZ b R0 q2 ++ sg_Pl cI cJ pa U V)) (hP : va_P D vwCl ([(st, .inr (9, [.ref g1, .ref b0, .int (nI dd), .int (nI ni), .ref pr, .ref f_life, .ref f_pack, .ref f_route, .ref f_policy, .int f_transports, .ref f_transport, .int (nI ns), .ref f_room, .int f_day, .int f_lots, .ref f_lot, .int f_orders, .ref f_order, .ref f_reserved, .int f_earned, .int f_spent, .int f_waste, .int f_lacking, .int f_holding])), (pr, .inl (cI, 3, .inl (fp))), (g1, .inr (8, [.ref (a 0), .ref (b 0), .ref (pa 0)]))] ++ sg_St cI cZ a P q ++ sg_St cI cZ b R0 q2 ++ sg_Pl cI cJ pa U V) H) : W p l e room_1 s m #[Value.ref b0] below meth c H locs cc ss Q (F0 m 705 ls []) := by
  obtain ⟨hx, hb, hml, hown, hts, hX0, hC, hAO⟩ := id C0
  have hK := hC.K
  have hA : ∀ q : Nat, s.heap.size ≤ q → LA s q := fun _ h => h
  have hAlo : ∀ q, LA s q → s.heap.size ≤ q := fun _ h => h
  have hn4 : sg_cn P 4 ≤ 60 := hB.W.n4
  obtain ⟨j705, h0j705⟩ : ∃ j : Nat, j = 0 := ⟨_, rfl⟩
  replace hl : lv_has ls 21 [(0, .ref b0), (1, .int (nI tt)), (2, .ref st), (3, .ref g1), (4, .int (nI jj)), (5, .int (nI ii)), (6, .int (nI fr)), (7, .int (nI tz)), (8, .int (nI sr)), (9, .int (nI dn)), (10, .long (sg_dig P)), (12, .int (sg_g_onHandIn_r P ii fr dn)), (13, .int (sg_g_firstShort_r P dn)), (15, .int (nI j705))] := by (try simp only [h0j705]); exact hl
  replace hP : va_P D vwCl ([(st, .inr (9, [.ref g1, .ref b0, .int (nI dd), .int (nI ni), .ref pr, .ref f_life, .ref f_pack, .ref f_route, .ref f_policy, .int f_transports, .ref f_transport, .int (nI ns), .ref f_room, .int f_day, .int f_lots, .ref f_lot, .int f_orders, .ref f_order, .ref f_reserved, .int f_earned, .int f_spent, .int f_waste, .int f_lacking, .int f_holding])), (pr, .inl (cI, 3, .inl (fp))), (g1, .inr (8, [.ref (a 0), .ref (b 0), .ref (pa 0)]))] ++ sg_St cI cZ a P q ++ sg_St cI cZ b R0 q2 ++ sg_Pl cI cJ pa U V) H := by (try simp only [h0j705]); exact hP
  replace hD : va_D (LA s) ([(st, .inr (9, [.ref g1, .ref b0, .int (nI dd), .int (nI ni), .ref pr, .ref f_life, .ref f_pack, .ref f_route, .ref f_policy, .int f_transports, .ref f_transport, .int (nI ns), .ref f_room, .int f_day, .int f_lots, .ref f_lot, .int f_orders, .ref f_order, .ref f_reserved, .int f_earned, .int f_spent, .int f_waste, .int f_lacking, .int f_holding])), (pr, .inl (cI, 3, .inl (fp))), (g1, .inr (8, [.ref (a 0), .ref (b 0), .ref (pa 0)]))] ++ sg_St cI cZ a P q ++ sg_St cI cZ b R0 q2 ++ sg_Pl cI cJ pa U V) := by (try simp only [h0j705]); exact hD
  have hjj705 : j705 ≤ sg_cn P 4 := by omega
  clear h0j705 
  obtain ⟨n705, hn705⟩ : ∃ n : Nat, sg_cn P 4 < j705 + n := ⟨sg_cn P 4 + 1, by omega⟩
  have hS9 := hS
  repeat clear hS
  have hS := hS9
  clear hS9
  revert hP
  revert hD
  revert hS
  revert hl
  revert hn705
  revert hjj705
  revert ls
  revert locs
  revert H
  revert j705
  induction n705 with
  | zero =>
    intro j705 H locs ls hjj705 hn705 hl hS hD hP
    exact absurd hn705 (by omega)
  | succ n705 ih705 =>
    intro j705 H locs ls hjj705 hn705 hl hS hD hP
    refine lv_iload hx hb dL_law_705 (lv_at hl 13 rfl) ?_
    refine lv_aload_n hx hb dL_law_707 rfl (lv_at hl 3 rfl) ?_
    have hPc := hP.sub (ws' := ([(g1, .inr (8, [.ref (a 0), .ref (b 0), .ref (pa 0)]))] ++ sg_St cI cZ a P q)) [2, 3, 4, 5, 6, 7, 8, 9, 10, 11, 12, 13, 14, 15, 16, 17, 18, 19, 20, 21, 22, 23, 24, 25, 26, 27, 28, 29, 30, 31, 32, 33, 34, 35, 36, 37, 38, 39, 40, 41, 42, 43] rfl
    have hDc := hD.sub (ws' := ([(g1, .inr (8, [.ref (a 0), .ref (b 0), .ref (pa 0)]))] ++ sg_St cI cZ a P q)) [2, 3, 4, 5, 6, 7, 8, 9, 10, 11, 12, 13, 14, 15, 16, 17, 18, 19, 20, 21, 22, 23, 24, 25, 26, 27, 28, 29, 30, 31, 32, 33, 34, 35, 36, 37, 38, 39, 40, 41, 42, 43] (by decide) rfl
    refine vp_callSi (W.runV (As := []) (rest := [.int (nI j705)]) ⟨hx, hb, hml, hown, hts⟩ (c_g_orders l D cI cZ cJ s.heap.size H.size g1 pa b a P q hB.W) (cwV 0 hts gL_law_X8_orders rfl rfl rfl (by decide +kernel) ⟨(Nat.le_of_ble_eq_true rfl), (Nat.le_of_ble_eq_true rfl)⟩) ⟨Pre.blind, va_recv hK hP (ci := 8) (q0 := 2) rfl rfl, Pre.mk hPc (hDc.weaken (fun _ _ _ h => hAlo _ h)) hC hS hAlo⟩ rfl rfl hl.1 rfl (lv_room (Nat.le_of_ble_eq_true rfl)) dL_law_708 ⟨(Nat.le_trans (show cc + 0 ≤ 5000 by omega) (Nat.le_of_ble_eq_true rfl)), (Nat.le_trans (show ss + 0 ≤ 400000 by omega) (Nat.le_of_ble_eq_true rfl))⟩) (fun r_1 e_2 => ?_)
    clear hPc hDc
    have e_2 : P 0 4 = r_1 := Eq.symm e_2
    subst e_2
    have hB705 : ((P 0 4) : Int32) = nI (sg_cn P 4) := hB.W.e4
    refine lv_icmp_ge (tgt := 787) hx hb dL_law_711 (by decide) (fun c_3 => ?_) (fun c_3 => ?_)
    · have hE705 : sg_cn P 4 = j705 := (sg_eq hB705 c_3 hjj705 (by omega)).symm
      clear ih705 hn705
      subst hE705
      exact K U V H _ _  (lv_sub hl [0, 1, 2, 3, 4, 5, 6, 7, 8, 9, 10, 11, 12] rfl) hS hD hP
    · have hL705 : j705 < sg_cn P 4 := sg_lt hB705 c_3 (by omega)
      refine lv_aload_n hx hb dL_law_714 rfl (lv_at hl 3 rfl) ?_
      refine lv_iload hx hb dL_law_715 (lv_at hl 13 rfl) ?_
      refine lv_iconst (v := 2) hx hb dL_law_717 (by decide) ?_
      have hPc := hP.sub (ws' := ([(g1, .inr (8, [.ref (a 0), .ref (b 0), .ref (pa 0)]))] ++ sg_St cI cZ a P q)) [2, 3, 4, 5, 6, 7, 8, 9, 10, 11, 12, 13, 14, 15, 16, 17, 18, 19, 20, 21, 22, 23, 24, 25, 26, 27, 28, 29, 30, 31, 32, 33, 34, 35, 36, 37, 38, 39, 40, 41, 42, 43] rfl
      have hDc := hD.sub (ws' := ([(g1, .inr (8, [.ref (a 0), .ref (b 0), .ref (pa 0)]))] ++ sg_St cI cZ a P q)) [2, 3, 4, 5, 6, 7, 8, 9, 10, 11, 12, 13, 14, 15, 16, 17, 18, 19, 20, 21, 22, 23, 24, 25, 26, 27, 28, 29, 30, 31, 32, 33, 34, 35, 36, 37, 38, 39, 40, 41, 42, 43] (by decide) rfl
      refine vp_callSi (W.runV (As := [.int (nI j705), .int 2]) (rest := []) ⟨hx, hb, hml, hown, hts⟩ (c_g_ofOrder l D cI cZ cJ s.heap.size H.size g1 pa b a P q j705 2 hB.W hL705 (by omega)) (cwV 2 hts gL_law_X8_ofOrder rfl rfl rfl (by decide +kernel) ⟨(Nat.le_of_ble_eq_true rfl), (Nat.le_of_ble_eq_true rfl)⟩) ⟨Pre.blind, va_recv hK hP (ci := 8) (q0 := 2) rfl rfl, Pre.mk hPc (hDc.weaken (fun _ _ _ h => hAlo _ h)) hC hS hAlo⟩ rfl rfl hl.1 rfl (lv_room (Nat.le_of_ble_eq_true rfl)) dL_law_718 ⟨(Nat.le_trans (show cc + 0 ≤ 5000 by omega) (Nat.le_of_ble_eq_true rfl)), (Nat.le_trans (show ss + 0 ≤ 400000 by omega) (Nat.le_of_ble_eq_true rfl))⟩) (fun r_4 e_5 => ?_)
      clear hPc hDc
      have e_5 : sg_otell P j705 2 = r_4 := Eq.symm e_5
      subst e_5
      refine lv_aload_n hx hb dL_law_721 rfl (lv_at hl 3 rfl) ?_
      refine lv_iload hx hb dL_law_722 (lv_at hl 13 rfl) ?_
      refine lv_iconst (v := 0) hx hb dL_law_724 (by decide) ?_
      have hPc := hP.sub (ws' := ([(g1, .inr (8, [.ref (a 0), .ref (b 0), .ref (pa 0)]))] ++ sg_St cI cZ a P q)) [2, 3, 4, 5, 6, 7, 8, 9, 10, 11, 12, 13, 14, 15, 16, 17, 18, 19, 20, 21, 22, 23, 24, 25, 26, 27, 28, 29, 30, 31, 32, 33, 34, 35, 36, 37, 38, 39, 40, 41, 42, 43] rfl
      have hDc := hD.sub (ws' := ([(g1, .inr (8, [.ref (a 0), .ref (b 0), .ref (pa 0)]))] ++ sg_St cI cZ a P q)) [2, 3, 4, 5, 6, 7, 8, 9, 10, 11, 12, 13, 14, 15, 16, 17, 18, 19, 20, 21, 22, 23, 24, 25, 26, 27, 28, 29, 30, 31, 32, 33, 34, 35, 36, 37, 38, 39, 40, 41, 42, 43] (by decide) rfl
      refine vp_callSi (W.runV (As := [.int (nI j705), .int 0]) (rest := [.int (sg_otell P j705 2)]) ⟨hx, hb, hml, hown, hts⟩ (c_g_ofOrder l D cI cZ cJ s.heap.size H.size g1 pa b a P q j705 0 hB.W hL705 (by omega)) (cwV 2 hts gL_law_X8_ofOrder rfl rfl rfl (by decide +kernel) ⟨(Nat.le_of_ble_eq_true rfl), (Nat.le_of_ble_eq_true rfl)⟩) ⟨Pre.blind, va_recv hK hP (ci := 8) (q0 := 2) rfl rfl, Pre.mk hPc (hDc.weaken (fun _ _ _ h => hAlo _ h)) hC hS hAlo⟩ rfl rfl hl.1 rfl (lv_room (Nat.le_of_ble_eq_true rfl)) dL_law_725 ⟨(Nat.le_trans (show cc + 0 ≤ 5000 by omega) (Nat.le_of_ble_eq_true rfl)), (Nat.le_trans (show ss + 0 ≤ 400000 by omega) (Nat.le_of_ble_eq_true rfl))⟩) (fun r_6 e_7 => ?_)
      clear hPc hDc
      have e_7 : sg_otell P j705 0 = r_6 := Eq.symm e_7
      subst e_7
      refine lv_if_ne (tgt := 741) hx hb dL_law_728 (by decide) (fun c_8 => ?_) (fun c_8 => ?_)
      · refine lv_iconst (v := 0) hx hb dL_law_741 (by decide) ?_
        refine lv_icmp_gt (tgt := 779) hx hb dL_law_742 (by decide) (fun c9 => absurd c9 (show ¬ ((0 : Int32) < (sg_otell P j705 2)) from (sg_ord_1 hB hL705 c_8))) (fun _ => ?_)
        refine lv_aload_n hx hb dL_law_745 rfl (lv_at hl 3 rfl) ?_
        refine lv_iload hx hb dL_law_746 (lv_at hl 13 rfl) ?_
        refine lv_iconst (v := 0) hx hb dL_law_748 (by decide) ?_
        have hPc := hP.sub (ws' := ([(g1, .inr (8, [.ref (a 0), .ref (b 0), .ref (pa 0)]))] ++ sg_St cI cZ a P q)) [2, 3, 4, 5, 6, 7, 8, 9, 10, 11, 12, 13, 14, 15, 16, 17, 18, 19, 20, 21, 22, 23, 24, 25, 26, 27, 28, 29, 30, 31, 32, 33, 34, 35, 36, 37, 38, 39, 40, 41, 42, 43] rfl
        have hDc := hD.sub (ws' := ([(g1, .inr (8, [.ref (a 0), .ref (b 0), .ref (pa 0)]))] ++ sg_St cI cZ a P q)) [2, 3, 4, 5, 6, 7, 8, 9, 10, 11, 12, 13, 14, 15, 16, 17, 18, 19, 20, 21, 22, 23, 24, 25, 26, 27, 28, 29, 30, 31, 32, 33, 34, 35, 36, 37, 38, 39, 40, 41, 42, 43] (by decide) rfl
        refine vp_callSi (W.runV (As := [.int (nI j705), .int 0]) (rest := []) ⟨hx, hb, hml, hown, hts⟩ (c_g_ofOrder l D cI cZ cJ s.heap.size H.size g1 pa b a P q j705 0 hB.W hL705 (by omega)) (cwV 2 hts gL_law_X8_ofOrder rfl rfl rfl (by decide +kernel) ⟨(Nat.le_of_ble_eq_true rfl), (Nat.le_of_ble_eq_true rfl)⟩) ⟨Pre.blind, va_recv hK hP (ci := 8) (q0 := 2) rfl rfl, Pre.mk hPc (hDc.weaken (fun _ _ _ h => hAlo _ h)) hC hS hAlo⟩ rfl rfl hl.1 rfl (lv_room (Nat.le_of_ble_eq_true rfl)) dL_law_749 ⟨(Nat.le_trans (show cc + 0 ≤ 5000 by omega) (Nat.le_of_ble_eq_true rfl)), (Nat.le_trans (show ss + 0 ≤ 400000 by omega) (Nat.le_of_ble_eq_true rfl))⟩) (fun r_9 e_10 => ?_)
        clear hPc hDc
        have e_10 : sg_otell P j705 0 = r_9 := Eq.symm e_10
        subst e_10
        refine lv_iconst (v := 1) hx hb dL_law_752 (by decide) ?_
        refine lv_icmp_ne (tgt := 760) hx hb dL_law_753 (by decide) (fun c_11 => ?_) (fun c_11 => ?_)
        · refine lv_iconst (v := 0) hx hb dL_law_760 (by decide) ?_
          refine lv_aload_n hx hb dL_law_761 rfl (lv_at hl 3 rfl) ?_
          refine lv_iload hx hb dL_law_762 (lv_at hl 13 rfl) ?_
          refine lv_iconst (v := 4) hx hb dL_law_764 (by decide) ?_
          have hPc := hP.sub (ws' := ([(g1, .inr (8, [.ref (a 0), .ref (b 0), .ref (pa 0)]))] ++ sg_St cI cZ a P q)) [2, 3, 4, 5, 6, 7, 8, 9, 10, 11, 12, 13, 14, 15, 16, 17, 18, 19, 20, 21, 22, 23, 24, 25, 26, 27, 28, 29, 30, 31, 32, 33, 34, 35, 36, 37, 38, 39, 40, 41, 42, 43] rfl
          have hDc := hD.sub (ws' := ([(g1, .inr (8, [.ref (a 0), .ref (b 0), .ref (pa 0)]))] ++ sg_St cI cZ a P q)) [2, 3, 4, 5, 6, 7, 8, 9, 10, 11, 12, 13, 14, 15, 16, 17, 18, 19, 20, 21, 22, 23, 24, 25, 26, 27, 28, 29, 30, 31, 32, 33, 34, 35, 36, 37, 38, 39, 40, 41, 42, 43] (by decide) rfl
          refine vp_callSi (W.runV (As := [.int (nI j705), .int 4]) (rest := [.int 0]) ⟨hx, hb, hml, hown, hts⟩ (c_g_ofOrder l D cI cZ cJ s.heap.size H.size g1 pa b a P q j705 4 hB.W hL705 (by omega)) (cwV 2 hts gL_law_X8_ofOrder rfl rfl rfl (by decide +kernel) ⟨(Nat.le_of_ble_eq_true rfl), (Nat.le_of_ble_eq_true rfl)⟩) ⟨Pre.blind, va_recv hK hP (ci := 8) (q0 := 2) rfl rfl, Pre.mk hPc (hDc.weaken (fun _ _ _ h => hAlo _ h)) hC hS hAlo⟩ rfl rfl hl.1 rfl (lv_room (Nat.le_of_ble_eq_true rfl)) dL_law_765 ⟨(Nat.le_trans (show cc + 0 ≤ 5000 by omega) (Nat.le_of_ble_eq_true rfl)), (Nat.le_trans (show ss + 0 ≤ 400000 by omega) (Nat.le_of_ble_eq_true rfl))⟩) (fun r_12 e_13 => ?_)
          clear hPc hDc
          have e_13 : sg_otell P j705 4 = r_12 := Eq.symm e_13
          subst e_13
          refine lv_if_lt (tgt := 775) hx hb dL_law_768 (by decide) (fun c_14 => ?_) (fun c_14 => ?_)
          · refine lv_iconst (v := 0) hx hb dL_law_775 (by decide) ?_
            refine lv_icmp_eq (tgt := 781) hx hb dL_law_776 (by decide) (fun _ => ?_) (fun c9 => absurd (show (0 : Int32) = (0 : Int32) from (by decide)) c9)
            refine lv_iinc (v := nI (j705 + 1)) (lv' := [(15, .int (nI (j705 + 1))), (0, .ref b0), (1, .int (nI tt)), (2, .ref st), (3, .ref g1), (4, .int (nI jj)), (5, .int (nI ii)), (6, .int (nI fr)), (7, .int (nI tz)), (8, .int (nI sr)), (9, .int (nI dn)), (10, .long (sg_dig P)), (12, .int (sg_g_onHandIn_r P ii fr dn)), (13, .int (sg_g_firstShort_r P dn))]) hx hb dL_law_781 hl (k := 13) rfl (nI_1 j705) (by decide) rfl (fun ls hl => ?_)
            refine lv_goto (tgt := 705) hx hb dL_law_784 (by decide) ?_
            exact ih705 (j705 + 1) _ _ _  (by omega) (by omega) (lv_sub hl [1, 2, 3, 4, 5, 6, 7, 8, 9, 10, 11, 12, 13, 0] rfl) hS hD hP
          · refine lv_iconst (v := 1) hx hb dL_law_771 (by decide) ?_
            refine lv_goto (tgt := 776) hx hb dL_law_772 (by decide) ?_
            refine lv_icmp_eq (tgt := 781) hx hb dL_law_776 (by decide) (fun c9 => absurd c9 (show ¬ ((0 : Int32) = (1 : Int32)) from (by decide))) (fun _ => ?_)
            exact absurd c_14 (sg_ord_3 hB hL705 c_11)
        · refine lv_iconst (v := 1) hx hb dL_law_756 (by decide) ?_
          refine lv_goto (tgt := 761) hx hb dL_law_757 (by decide) ?_
          refine lv_aload_n hx hb dL_law_761 rfl (lv_at hl 3 rfl) ?_
          refine lv_iload hx hb dL_law_762 (lv_at hl 13 rfl) ?_
          refine lv_iconst (v := 4) hx hb dL_law_764 (by decide) ?_
          have hPc := hP.sub (ws' := ([(g1, .inr (8, [.ref (a 0), .ref (b 0), .ref (pa 0)]))] ++ sg_St cI cZ a P q)) [2, 3, 4, 5, 6, 7, 8, 9, 10, 11, 12, 13, 14, 15, 16, 17, 18, 19, 20, 21, 22, 23, 24, 25, 26, 27, 28, 29, 30, 31, 32, 33, 34, 35, 36, 37, 38, 39, 40, 41, 42, 43] rfl
          have hDc := hD.sub (ws' := ([(g1, .inr (8, [.ref (a 0), .ref (b 0), .ref (pa 0)]))] ++ sg_St cI cZ a P q)) [2, 3, 4, 5, 6, 7, 8, 9, 10, 11, 12, 13, 14, 15, 16, 17, 18, 19, 20, 21, 22, 23, 24, 25, 26, 27, 28, 29, 30, 31, 32, 33, 34, 35, 36, 37, 38, 39, 40, 41, 42, 43] (by decide) rfl
          refine vp_callSi (W.runV (As := [.int (nI j705), .int 4]) (rest := [.int 1]) ⟨hx, hb, hml, hown, hts⟩ (c_g_ofOrder l D cI cZ cJ s.heap.size H.size g1 pa b a P q j705 4 hB.W hL705 (by omega)) (cwV 2 hts gL_law_X8_ofOrder rfl rfl rfl (by decide +kernel) ⟨(Nat.le_of_ble_eq_true rfl), (Nat.le_of_ble_eq_true rfl)⟩) ⟨Pre.blind, va_recv hK hP (ci := 8) (q0 := 2) rfl rfl, Pre.mk hPc (hDc.weaken (fun _ _ _ h => hAlo _ h)) hC hS hAlo⟩ rfl rfl hl.1 rfl (lv_room (Nat.le_of_ble_eq_true rfl)) dL_law_765 ⟨(Nat.le_trans (show cc + 0 ≤ 5000 by omega) (Nat.le_of_ble_eq_true rfl)), (Nat.le_trans (show ss + 0 ≤ 400000 by omega) (Nat.le_of_ble_eq_true rfl))⟩) (fun r_15 e_16 => ?_)
          clear hPc hDc
          have e_16 : sg_otell P j705 4 = r_15 := Eq.symm e_16
          subst e_16
          refine lv_if_lt (tgt := 775) hx hb dL_law_768 (by decide) (fun c_17 => ?_) (fun c_17 => ?_)
          · refine lv_iconst (v := 0) hx hb dL_law_775 (by decide) ?_
            refine lv_icmp_eq (tgt := 781) hx hb dL_law_776 (by decide) (fun c9 => absurd c9 (show ¬ ((1 : Int32) = (0 : Int32)) from (by decide))) (fun _ => ?_)
            exact absurd c_17 (sg_ord_2 hB hL705 c_11)
          · refine lv_iconst (v := 1) hx hb dL_law_771 (by decide) ?_
            refine lv_goto (tgt := 776) hx hb dL_law_772 (by decide) ?_
            refine lv_icmp_eq (tgt := 781) hx hb dL_law_776 (by decide) (fun _ => ?_) (fun c9 => absurd (show (1 : Int32) = (1 : Int32) from (by decide)) c9)
            refine lv_iinc (v := nI (j705 + 1)) (lv' := [(15, .int (nI (j705 + 1))), (0, .ref b0), (1, .int (nI tt)), (2, .ref st), (3, .ref g1), (4, .int (nI jj)), (5, .int (nI ii)), (6, .int (nI fr)), (7, .int (nI tz)), (8, .int (nI sr)), (9, .int (nI dn)), (10, .long (sg_dig P)), (12, .int (sg_g_onHandIn_r P ii fr dn)), (13, .int (sg_g_firstShort_r P dn))]) hx hb dL_law_781 hl (k := 13) rfl (nI_1 j705) (by decide) rfl (fun ls hl => ?_)
            refine lv_goto (tgt := 705) hx hb dL_law_784 (by decide) ?_
            exact ih705 (j705 + 1) _ _ _  (by omega) (by omega) (lv_sub hl [1, 2, 3, 4, 5, 6, 7, 8, 9, 10, 11, 12, 13, 0] rfl) hS hD hP
      · refine lv_aload_n hx hb dL_law_731 rfl (lv_at hl 3 rfl) ?_
        refine lv_iload hx hb dL_law_732 (lv_at hl 13 rfl) ?_
        refine lv_iconst (v := 1) hx hb dL_law_734 (by decide) ?_
        have hPc := hP.sub (ws' := ([(g1, .inr (8, [.ref (a 0), .ref (b 0), .ref (pa 0)]))] ++ sg_St cI cZ a P q)) [2, 3, 4, 5, 6, 7, 8, 9, 10, 11, 12, 13, 14, 15, 16, 17, 18, 19, 20, 21, 22, 23, 24, 25, 26, 27, 28, 29, 30, 31, 32, 33, 34, 35, 36, 37, 38, 39, 40, 41, 42, 43] rfl
        have hDc := hD.sub (ws' := ([(g1, .inr (8, [.ref (a 0), .ref (b 0), .ref (pa 0)]))] ++ sg_St cI cZ a P q)) [2, 3, 4, 5, 6, 7, 8, 9, 10, 11, 12, 13, 14, 15, 16, 17, 18, 19, 20, 21, 22, 23, 24, 25, 26, 27, 28, 29, 30, 31, 32, 33, 34, 35, 36, 37, 38, 39, 40, 41, 42, 43] (by decide) rfl
        refine vp_callSi (W.runV (As := [.int (nI j705), .int 1]) (rest := [.int (sg_otell P j705 2)]) ⟨hx, hb, hml, hown, hts⟩ (c_g_ofOrder l D cI cZ cJ s.heap.size H.size g1 pa b a P q j705 1 hB.W hL705 (by omega)) (cwV 2 hts gL_law_X8_ofOrder rfl rfl rfl (by decide +kernel) ⟨(Nat.le_of_ble_eq_true rfl), (Nat.le_of_ble_eq_true rfl)⟩) ⟨Pre.blind, va_recv hK hP (ci := 8) (q0 := 2) rfl rfl, Pre.mk hPc (hDc.weaken (fun _ _ _ h => hAlo _ h)) hC hS hAlo⟩ rfl rfl hl.1 rfl (lv_room (Nat.le_of_ble_eq_true rfl)) dL_law_735 ⟨(Nat.le_trans (show cc + 0 ≤ 5000 by omega) (Nat.le_of_ble_eq_true rfl)), (Nat.le_trans (show ss + 0 ≤ 400000 by omega) (Nat.le_of_ble_eq_true rfl))⟩) (fun r_18 e_19 => ?_)
        clear hPc hDc
        have e_19 : sg_otell P j705 1 = r_18 := Eq.symm e_19
        subst e_19
        refine lv_goto (tgt := 742) hx hb dL_law_738 (by decide) ?_
        refine lv_icmp_gt (tgt := 779) hx hb dL_law_742 (by decide) (fun c9 => absurd c9 (show ¬ ((sg_otell P j705 1) < (sg_otell P j705 2)) from (sg_ord_0 hB hL705 c_8))) (fun _ => ?_)
        refine lv_aload_n hx hb dL_law_745 rfl (lv_at hl 3 rfl) ?_
        refine lv_iload hx hb dL_law_746 (lv_at hl 13 rfl) ?_
        refine lv_iconst (v := 0) hx hb dL_law_748 (by decide) ?_
        have hPc := hP.sub (ws' := ([(g1, .inr (8, [.ref (a 0), .ref (b 0), .ref (pa 0)]))] ++ sg_St cI cZ a P q)) [2, 3, 4, 5, 6, 7, 8, 9, 10, 11, 12, 13, 14, 15, 16, 17, 18, 19, 20, 21, 22, 23, 24, 25, 26, 27, 28, 29, 30, 31, 32, 33, 34, 35, 36, 37, 38, 39, 40, 41, 42, 43] rfl
        have hDc := hD.sub (ws' := ([(g1, .inr (8, [.ref (a 0), .ref (b 0), .ref (pa 0)]))] ++ sg_St cI cZ a P q)) [2, 3, 4, 5, 6, 7, 8, 9, 10, 11, 12, 13, 14, 15, 16, 17, 18, 19, 20, 21, 22, 23, 24, 25, 26, 27, 28, 29, 30, 31, 32, 33, 34, 35, 36, 37, 38, 39, 40, 41, 42, 43] (by decide) rfl
        refine vp_callSi (W.runV (As := [.int (nI j705), .int 0]) (rest := []) ⟨hx, hb, hml, hown, hts⟩ (c_g_ofOrder l D cI cZ cJ s.heap.size H.size g1 pa b a P q j705 0 hB.W hL705 (by omega)) (cwV 2 hts gL_law_X8_ofOrder rfl rfl rfl (by decide +kernel) ⟨(Nat.le_of_ble_eq_true rfl), (Nat.le_of_ble_eq_true rfl)⟩) ⟨Pre.blind, va_recv hK hP (ci := 8) (q0 := 2) rfl rfl, Pre.mk hPc (hDc.weaken (fun _ _ _ h => hAlo _ h)) hC hS hAlo⟩ rfl rfl hl.1 rfl (lv_room (Nat.le_of_ble_eq_true rfl)) dL_law_749 ⟨(Nat.le_trans (show cc + 0 ≤ 5000 by omega) (Nat.le_of_ble_eq_true rfl)), (Nat.le_trans (show ss + 0 ≤ 400000 by omega) (Nat.le_of_ble_eq_true rfl))⟩) (fun r_20 e_21 => ?_)
        clear hPc hDc
        have e_21 : sg_otell P j705 0 = r_20 := Eq.symm e_21
        subst e_21
        refine lv_iconst (v := 1) hx hb dL_law_752 (by decide) ?_
        refine lv_icmp_ne (tgt := 760) hx hb dL_law_753 (by decide) (fun c_22 => ?_) (fun c_22 => ?_)
        · refine lv_iconst (v := 0) hx hb dL_law_760 (by decide) ?_
          refine lv_aload_n hx hb dL_law_761 rfl (lv_at hl 3 rfl) ?_
          refine lv_iload hx hb dL_law_762 (lv_at hl 13 rfl) ?_
          refine lv_iconst (v := 4) hx hb dL_law_764 (by decide) ?_
          have hPc := hP.sub (ws' := ([(g1, .inr (8, [.ref (a 0), .ref (b 0), .ref (pa 0)]))] ++ sg_St cI cZ a P q)) [2, 3, 4, 5, 6, 7, 8, 9, 10, 11, 12, 13, 14, 15, 16, 17, 18, 19, 20, 21, 22, 23, 24, 25, 26, 27, 28, 29, 30, 31, 32, 33, 34, 35, 36, 37, 38, 39, 40, 41, 42, 43] rfl
          have hDc := hD.sub (ws' := ([(g1, .inr (8, [.ref (a 0), .ref (b 0), .ref (pa 0)]))] ++ sg_St cI cZ a P q)) [2, 3, 4, 5, 6, 7, 8, 9, 10, 11, 12, 13, 14, 15, 16, 17, 18, 19, 20, 21, 22, 23, 24, 25, 26, 27, 28, 29, 30, 31, 32, 33, 34, 35, 36, 37, 38, 39, 40, 41, 42, 43] (by decide) rfl
          refine vp_callSi (W.runV (As := [.int (nI j705), .int 4]) (rest := [.int 0]) ⟨hx, hb, hml, hown, hts⟩ (c_g_ofOrder l D cI cZ cJ s.heap.size H.size g1 pa b a P q j705 4 hB.W hL705 (by omega)) (cwV 2 hts gL_law_X8_ofOrder rfl rfl rfl (by decide +kernel) ⟨(Nat.le_of_ble_eq_true rfl), (Nat.le_of_ble_eq_true rfl)⟩) ⟨Pre.blind, va_recv hK hP (ci := 8) (q0 := 2) rfl rfl, Pre.mk hPc (hDc.weaken (fun _ _ _ h => hAlo _ h)) hC hS hAlo⟩ rfl rfl hl.1 rfl (lv_room (Nat.le_of_ble_eq_true rfl)) dL_law_765 ⟨(Nat.le_trans (show cc + 0 ≤ 5000 by omega) (Nat.le_of_ble_eq_true rfl)), (Nat.le_trans (show ss + 0 ≤ 400000 by omega) (Nat.le_of_ble_eq_true rfl))⟩) (fun r_23 e_24 => ?_)
          clear hPc hDc
          have e_24 : sg_otell P j705 4 = r_23 := Eq.symm e_24
          subst e_24
          refine lv_if_lt (tgt := 775) hx hb dL_law_768 (by decide) (fun c_25 => ?_) (fun c_25 => ?_)
          · refine lv_iconst (v := 0) hx hb dL_law_775 (by decide) ?_
            refine lv_icmp_eq (tgt := 781) hx hb dL_law_776 (by decide) (fun _ => ?_) (fun c9 => absurd (show (0 : Int32) = (0 : Int32) from (by decide)) c9)
            refine lv_iinc (v := nI (j705 + 1)) (lv' := [(15, .int (nI (j705 + 1))), (0, .ref b0), (1, .int (nI tt)), (2, .ref st), (3, .ref g1), (4, .int (nI jj)), (5, .int (nI ii)), (6, .int (nI fr)), (7, .int (nI tz)), (8, .int (nI sr)), (9, .int (nI dn)), (10, .long (sg_dig P)), (12, .int (sg_g_onHandIn_r P ii fr dn)), (13, .int (sg_g_firstShort_r P dn))]) hx hb dL_law_781 hl (k := 13) rfl (nI_1 j705) (by decide) rfl (fun ls hl => ?_)
            refine lv_goto (tgt := 705) hx hb dL_law_784 (by decide) ?_
            exact ih705 (j705 + 1) _ _ _  (by omega) (by omega) (lv_sub hl [1, 2, 3, 4, 5, 6, 7, 8, 9, 10, 11, 12, 13, 0] rfl) hS hD hP
          · refine lv_iconst (v := 1) hx hb dL_law_771 (by decide) ?_
            refine lv_goto (tgt := 776) hx hb dL_law_772 (by decide) ?_
            refine lv_icmp_eq (tgt := 781) hx hb dL_law_776 (by decide) (fun c9 => absurd c9 (show ¬ ((0 : Int32) = (1 : Int32)) from (by decide))) (fun _ => ?_)
            exact absurd c_25 (sg_ord_3 hB hL705 c_22)
        · refine lv_iconst (v := 1) hx hb dL_law_756 (by decide) ?_
          refine lv_goto (tgt := 761) hx hb dL_law_757 (by decide) ?_
          refine lv_aload_n hx hb dL_law_761 rfl (lv_at hl 3 rfl) ?_
          refine lv_iload hx hb dL_law_762 (lv_at hl 13 rfl) ?_
          refine lv_iconst (v := 4) hx hb dL_law_764 (by decide) ?_
          have hPc := hP.sub (ws' := ([(g1, .inr (8, [.ref (a 0), .ref (b 0), .ref (pa 0)]))] ++ sg_St cI cZ a P q)) [2, 3, 4, 5, 6, 7, 8, 9, 10, 11, 12, 13, 14, 15, 16, 17, 18, 19, 20, 21, 22, 23, 24, 25, 26, 27, 28, 29, 30, 31, 32, 33, 34, 35, 36, 37, 38, 39, 40, 41, 42, 43] rfl
          have hDc := hD.sub (ws' := ([(g1, .inr (8, [.ref (a 0), .ref (b 0), .ref (pa 0)]))] ++ sg_St cI cZ a P q)) [2, 3, 4, 5, 6, 7, 8, 9, 10, 11, 12, 13, 14, 15, 16, 17, 18, 19, 20, 21, 22, 23, 24, 25, 26, 27, 28, 29, 30, 31, 32, 33, 34, 35, 36, 37, 38, 39, 40, 41, 42, 43] (by decide) rfl
          refine vp_callSi (W.runV (As := [.int (nI j705), .int 4]) (rest := [.int 1]) ⟨hx, hb, hml, hown, hts⟩ (c_g_ofOrder l D cI cZ cJ s.heap.size H.size g1 pa b a P q j705 4 hB.W hL705 (by omega)) (cwV 2 hts gL_law_X8_ofOrder rfl rfl rfl (by decide +kernel) ⟨(Nat.le_of_ble_eq_true rfl), (Nat.le_of_ble_eq_true rfl)⟩) ⟨Pre.blind, va_recv hK hP (ci := 8) (q0 := 2) rfl rfl, Pre.mk hPc (hDc.weaken (fun _ _ _ h => hAlo _ h)) hC hS hAlo⟩ rfl rfl hl.1 rfl (lv_room (Nat.le_of_ble_eq_true rfl)) dL_law_765 ⟨(Nat.le_trans (show cc + 0 ≤ 5000 by omega) (Nat.le_of_ble_eq_true rfl)), (Nat.le_trans (show ss + 0 ≤ 400000 by omega) (Nat.le_of_ble_eq_true rfl))⟩) (fun r_26 e_27 => ?_)
          clear hPc hDc
          have e_27 : sg_otell P j705 4 = r_26 := Eq.symm e_27
          subst e_27
          refine lv_if_lt (tgt := 775) hx hb dL_law_768 (by decide) (fun c_28 => ?_) (fun c_28 => ?_)
          · refine lv_iconst (v := 0) hx hb dL_law_775 (by decide) ?_
            refine lv_icmp_eq (tgt := 781) hx hb dL_law_776 (by decide) (fun c9 => absurd c9 (show ¬ ((1 : Int32) = (0 : Int32)) from (by decide))) (fun _ => ?_)
            exact absurd c_28 (sg_ord_2 hB hL705 c_22)
          · refine lv_iconst (v := 1) hx hb dL_law_771 (by decide) ?_
            refine lv_goto (tgt := 776) hx hb dL_law_772 (by decide) ?_
            refine lv_icmp_eq (tgt := 781) hx hb dL_law_776 (by decide) (fun _ => ?_) (fun c9 => absurd (show (1 : Int32) = (1 : Int32) from (by decide)) c9)
            refine lv_iinc (v := nI (j705 + 1)) (lv' := [(15, .int (nI (j705 + 1))), (0, .ref b0), (1, .int (nI tt)), (2, .ref st), (3, .ref g1), (4, .int (nI jj)), (5, .int (nI ii)), (6, .int (nI fr)), (7, .int (nI tz)), (8, .int (nI sr)), (9, .int (nI dn)), (10, .long (sg_dig P)), (12, .int (sg_g_onHandIn_r P ii fr dn)), (13, .int (sg_g_firstShort_r P dn))]) hx hb dL_law_781 hl (k := 13) rfl (nI_1 j705) (by decide) rfl (fun ls hl => ?_)
            refine lv_goto (tgt := 705) hx hb dL_law_784 (by decide) ?_
            exact ih705 (j705 + 1) _ _ _  (by omega) (by omega) (lv_sub hl [1, 2, 3, 4, 5, 6, 7, 8, 9, 10, 11, 12, 13, 0] rfl) hS hD hP

set_option maxHeartbeats 4000000 in
set_option maxRecDepth 100000 in
theorem seg787 {p : Program} {l : Launch} {e : Env} {s : State} {m : MethodId} {below : List Frame} {meth : Method} {c : Code} {Q : State → Prop} (D : va_G) (cI cZ cJ : ClassId) (b0 L0 : Nat) (xs : Nat → Int32) (C0 : LC s p m c D cI cZ cJ b0 L0 xs) (st g1 pr : Nat) (a b pa : Nat → Nat) (fp : Nat → Int32) (f_life : Nat) (f_pack : Nat) (f_route : Nat) (f_policy : Nat) (f_transports : Int32) (f_transport : Nat) (f_room : Nat) (f_day : Int32) (f_lots : Int32) (f_lot : Nat) (f_orders : Int32) (f_order : Nat) (f_reserved : Nat) (f_earned : Int32) (f_spent : Int32) (f_waste : Int32) (f_lacking : Int32) (f_holding : Int32) (ni ns : Nat) (hni : 1 ≤ ni ∧ ni ≤ 3) (hns : 2 ≤ ns ∧ ns ≤ 4) (tt : Nat) (jj : Nat) (hjj : jj < 12) (ii : Nat) (fr : Nat) (tz : Nat) (sr : Nat) (hii : ii < ni) (hfr : fr < ns) (hto : tz < ns) (hft : ¬ (fr = tz)) (dy : Nat) (hdy : dy ≤ 3 * jj) (dn : Nat) (hdn : 1 ≤ dn ∧ dn ≤ 3) (P : sg_Pic) (dd : Nat) (q : Nat → Int32) (R0 : sg_Pic) (q2 : Nat → Int32) (hB : sg_B (2 * jj + 2) dy ni ns fp P) (cc ss : Nat) (hcc : cc ≤ 4900) (hss : ss ≤ 399000) (K : (∀ (U : sg_Pic) (V : sg_PiL) (H : Heap) (locs : List Loc) (ls : Array Slot), lv_has ls 21 [(0, .ref b0), (1, .int (nI tt)), (2, .ref st), (3, .ref g1), (4, .int (nI jj)), (5, .int (nI ii)), (6, .int (nI fr)), (7, .int (nI tz)), (8, .int (nI sr)), (9, .int (nI dn)), (10, .long (sg_dig P)), (12, .int (sg_g_onHandIn_r P ii fr dn)), (13, .int (sg_g_firstShort_r P dn))] → va_S (LA s) s.heap H locs → va_D (LA s) ([(st, .inr (9, [.ref g1, .ref b0, .int (nI dd), .int (nI ni), .ref pr, .ref f_life, .ref f_pack, .ref f_route, .ref f_policy, .int f_transports, .ref f_transport, .int (nI ns), .ref f_room, .int f_day, .int f_lots, .ref f_lot, .int f_orders, .ref f_order, .ref f_reserved, .int f_earned, .int f_spent, .int f_waste, .int f_lacking, .int f_holding])), (pr, .inl (cI, 3, .inl (fp))), (g1, .inr (8, [.ref (a 0), .ref (b 0), .ref (pa 0)]))] ++ sg_St cI cZ a P q ++ sg_St cI cZ b R0 q2 ++ sg_Pl cI cJ pa U V) → va_P D vwCl ([(st, .inr (9, [.ref g1, .ref b0, .int (nI dd), .int (nI ni), .ref pr, .ref f_life, .ref f_pack, .ref f_route, .ref f_policy, .int f_transports, .ref f_transport, .int (nI ns), .ref f_room, .int f_day, .int f_lots, .ref f_lot, .int f_orders, .ref f_order, .ref f_reserved, .int f_earned, .int f_spent, .int f_waste, .int f_lacking, .int f_holding])), (pr, .inl (cI, 3, .inl (fp))), (g1, .inr (8, [.ref (a 0), .ref (b 0), .ref (pa 0)]))] ++ sg_St cI cZ a P q ++ sg_St cI cZ b R0 q2 ++ sg_Pl cI cJ pa U V) H → W p l e room_1 s m #[Value.ref b0] below meth c H locs cc ss Q (F0 m 799 ls []))) (U : sg_Pic) (V : sg_PiL) {H : Heap} {locs : List Loc} {ls : Array Slot} (hl : lv_has ls 21 [(0, .ref b0), (1, .int (nI tt)), (2, .ref st), (3, .ref g1), (4, .int (nI jj)), (5, .int (nI ii)), (6, .int (nI fr)), (7, .int (nI tz)), (8, .int (nI sr)), (9, .int (nI dn)), (10, .long (sg_dig P)), (12, .int (sg_g_onHandIn_r P ii fr dn)), (13, .int (sg_g_firstShort_r P dn))]) (hS : va_S (LA s) s.heap H locs) (hD : va_D (LA s) ([(st, .inr (9, [.ref g1, .ref b0, .int (nI dd), .int (nI ni), .ref pr, .ref f_life, .ref f_pack, .ref f_route, .ref f_policy, .int f_transports, .ref f_transport, .int (nI ns), .ref f_room, .int f_day, .int f_lots, .ref f_lot, .int f_orders, .ref f_order, .ref f_reserved, .int f_earned, .int f_spent, .int f_waste, .int f_lacking, .int f_holding])), (pr, .inl (cI, 3, .inl (fp))), (g1, .inr (8, [.ref (a 0), .ref (b 0), .ref (pa 0)]))] ++ sg_St cI cZ a P q ++ sg_St cI cZ b R0 q2 ++ sg_Pl cI cJ pa U V)) (hP : va_P D vwCl ([(st, .inr (9, [.ref g1, .ref b0, .int (nI dd), .int (nI ni), .ref pr, .ref f_life, .ref f_pack, .ref f_route, .ref f_policy, .int f_transports, .ref f_transport, .int (nI ns), .ref f_room, .int f_day, .int f_lots, .ref f_lot, .int f_orders, .ref f_order, .ref f_reserved, .int f_earned, .int f_spent, .int f_waste, .int f_lacking, .int f_holding])), (pr, .inl (cI, 3, .inl (fp))), (g1, .inr (8, [.ref (a 0), .ref (b 0), .ref (pa 0)]))] ++ sg_St cI cZ a P q ++ sg_St cI cZ b R0 q2 ++ sg_Pl cI cJ pa U V) H) : W p l e room_1 s m #[Value.ref b0] below meth c H locs cc ss Q (F0 m 787 ls []) := by
  obtain ⟨hx, hb, hml, hown, hts, hX0, hC, hAO⟩ := id C0
  have hK := hC.K
  have hA : ∀ q : Nat, s.heap.size ≤ q → LA s q := fun _ h => h
  have hAlo : ∀ q, LA s q → s.heap.size ≤ q := fun _ h => h
  refine lv_aload_n hx hb dL_law_787 rfl (lv_at hl 3 rfl) ?_
  have hPc := hP.sub (ws' := ([(g1, .inr (8, [.ref (a 0), .ref (b 0), .ref (pa 0)]))] ++ sg_St cI cZ a P q ++ sg_Pl cI cJ pa U V)) [2, 3, 4, 5, 6, 7, 8, 9, 10, 11, 12, 13, 14, 15, 16, 17, 18, 19, 20, 21, 22, 23, 24, 25, 26, 27, 28, 29, 30, 31, 32, 33, 34, 35, 36, 37, 38, 39, 40, 41, 42, 43, 85, 86, 87, 88, 89, 90, 91] rfl
  have hDc := hD.sub (ws' := ([(g1, .inr (8, [.ref (a 0), .ref (b 0), .ref (pa 0)]))] ++ sg_St cI cZ a P q ++ sg_Pl cI cJ pa U V)) [2, 3, 4, 5, 6, 7, 8, 9, 10, 11, 12, 13, 14, 15, 16, 17, 18, 19, 20, 21, 22, 23, 24, 25, 26, 27, 28, 29, 30, 31, 32, 33, 34, 35, 36, 37, 38, 39, 40, 41, 42, 43, 85, 86, 87, 88, 89, 90, 91] (by decide) rfl
  have hFc := va_free (wc := ([(g1, .inr (8, [.ref (a 0), .ref (b 0), .ref (pa 0)]))] ++ sg_St cI cZ a P q ++ sg_Pl cI cJ pa U V)) hD hS hA [2, 3, 4, 5, 6, 7, 8, 9, 10, 11, 12, 13, 14, 15, 16, 17, 18, 19, 20, 21, 22, 23, 24, 25, 26, 27, 28, 29, 30, 31, 32, 33, 34, 35, 36, 37, 38, 39, 40, 41, 42, 43, 85, 86, 87, 88, 89, 90, 91] rfl
  refine va_calll (va_runV (As := []) (rest := []) ⟨hx, hb, hml, hown, hts⟩ (c_g_digest l D cI cZ cJ s.heap.size H.size g1 pa b U V a P q hB.W) (cwV 0 hts gL_law_X8_digest rfl rfl rfl (by decide +kernel) ⟨(Nat.le_of_ble_eq_true rfl), (Nat.le_of_ble_eq_true rfl)⟩) ⟨Pre.blind, va_recv hK hP (ci := 8) (q0 := 2) rfl rfl, Pre.mk hPc (hDc.weaken (fun _ _ _ h => hAlo _ h)) hC hS hAlo⟩ rfl rfl hl.1 rfl (lv_room (Nat.le_of_ble_eq_true rfl)) dL_law_788 ⟨(Nat.le_trans (show cc + 0 ≤ 5000 by omega) (Nat.le_of_ble_eq_true rfl)), (Nat.le_trans (show ss + 0 ≤ 400000 by omega) (Nat.le_of_ble_eq_true rfl))⟩) hS (fun q _ h => hFc q h) hFc (fun r_1 u t H1 locs1 ht hvm e_2 hB hz1 hk1 hS1 => ?_)
  have hS := hS1
  refine W.widen (k := cc) (n := ss) (by omega) (by omega) ?_
  obtain ⟨hP1, hD1⟩ := hB
  rw [ht] at hP1
  obtain ⟨hP, hD⟩ := va_join (wr := ([(st, .inr (9, [.ref g1, .ref b0, .int (nI dd), .int (nI ni), .ref pr, .ref f_life, .ref f_pack, .ref f_route, .ref f_policy, .int f_transports, .ref f_transport, .int (nI ns), .ref f_room, .int f_day, .int f_lots, .ref f_lot, .int f_orders, .ref f_order, .ref f_reserved, .int f_earned, .int f_spent, .int f_waste, .int f_lacking, .int f_holding])), (pr, .inl (cI, 3, .inl (fp)))] ++ sg_St cI cZ b R0 q2)) (w1 := ([(g1, .inr (8, [.ref (a 0), .ref (b 0), .ref (pa 0)]))] ++ sg_St cI cZ a P q ++ sg_Pl cI cJ pa (sg_g_digest_U U V P) (sg_g_digest_V U V P))) hP hD [2, 3, 4, 5, 6, 7, 8, 9, 10, 11, 12, 13, 14, 15, 16, 17, 18, 19, 20, 21, 22, 23, 24, 25, 26, 27, 28, 29, 30, 31, 32, 33, 34, 35, 36, 37, 38, 39, 40, 41, 42, 43, 85, 86, 87, 88, 89, 90, 91] [0, 1, 44, 45, 46, 47, 48, 49, 50, 51, 52, 53, 54, 55, 56, 57, 58, 59, 60, 61, 62, 63, 64, 65, 66, 67, 68, 69, 70, 71, 72, 73, 74, 75, 76, 77, 78, 79, 80, 81, 82, 83, 84] rfl rfl (by decide) (by decide) hk1 hFc hP1 hD1
  have e_2 : sg_g_digest_r U V P = r_1 := Eq.symm e_2
  subst e_2
  clear hFc hPc hDc ht hvm hz1 hk1 hS1 hP1 hD1
  generalize H1 = H at hP hS ⊢
  replace hP : va_P D vwCl ([(st, .inr (9, [.ref g1, .ref b0, .int (nI dd), .int (nI ni), .ref pr, .ref f_life, .ref f_pack, .ref f_route, .ref f_policy, .int f_transports, .ref f_transport, .int (nI ns), .ref f_room, .int f_day, .int f_lots, .ref f_lot, .int f_orders, .ref f_order, .ref f_reserved, .int f_earned, .int f_spent, .int f_waste, .int f_lacking, .int f_holding])), (pr, .inl (cI, 3, .inl (fp)))] ++ sg_St cI cZ b R0 q2 ++ [(g1, .inr (8, [.ref (a 0), .ref (b 0), .ref (pa 0)]))] ++ sg_St cI cZ a P q ++ sg_Pl cI cJ pa (sg_g_digest_U U V P) (sg_g_digest_V U V P)) H := hP
  replace hD : va_D (LA s) ([(st, .inr (9, [.ref g1, .ref b0, .int (nI dd), .int (nI ni), .ref pr, .ref f_life, .ref f_pack, .ref f_route, .ref f_policy, .int f_transports, .ref f_transport, .int (nI ns), .ref f_room, .int f_day, .int f_lots, .ref f_lot, .int f_orders, .ref f_order, .ref f_reserved, .int f_earned, .int f_spent, .int f_waste, .int f_lacking, .int f_holding])), (pr, .inl (cI, 3, .inl (fp)))] ++ sg_St cI cZ b R0 q2 ++ [(g1, .inr (8, [.ref (a 0), .ref (b 0), .ref (pa 0)]))] ++ sg_St cI cZ a P q ++ sg_Pl cI cJ pa (sg_g_digest_U U V P) (sg_g_digest_V U V P)) := hD
  refine lv_tol (y := sg_dig P) (sg_dig_eq hB.W U V) ?_
  refine lv_lload hx hb dL_law_791 (lv_at hl 10 rfl) ?_
  refine W.lcmp hx hb dL_law_793 ?_
  refine lv_toi (y := lg_cmp (sg_dig P) (sg_dig P)) rfl ?_
  refine lv_toi (y := 0) (lg_cmp_self _) ?_
  refine lv_if_eq (tgt := 799) hx hb dL_law_794 (by decide) (fun _ => ?_) (fun c9 => absurd (show (0 : Int32) = (0 : Int32) from (by decide)) c9)
  exact K (sg_g_digest_U U V P) (sg_g_digest_V U V P) H _ _  (lv_sub hl [0, 1, 2, 3, 4, 5, 6, 7, 8, 9, 10, 11, 12] rfl) hS (hD.sub (ws' := ([(st, .inr (9, [.ref g1, .ref b0, .int (nI dd), .int (nI ni), .ref pr, .ref f_life, .ref f_pack, .ref f_route, .ref f_policy, .int f_transports, .ref f_transport, .int (nI ns), .ref f_room, .int f_day, .int f_lots, .ref f_lot, .int f_orders, .ref f_order, .ref f_reserved, .int f_earned, .int f_spent, .int f_waste, .int f_lacking, .int f_holding])), (pr, .inl (cI, 3, .inl (fp))), (g1, .inr (8, [.ref (a 0), .ref (b 0), .ref (pa 0)]))] ++ sg_St cI cZ a P q ++ sg_St cI cZ b R0 q2 ++ sg_Pl cI cJ pa (sg_g_digest_U U V P) (sg_g_digest_V U V P))) [0, 1, 43, 44, 45, 46, 47, 48, 49, 50, 51, 52, 53, 54, 55, 56, 57, 58, 59, 60, 61, 62, 63, 64, 65, 66, 67, 68, 69, 70, 71, 72, 73, 74, 75, 76, 77, 78, 79, 80, 81, 82, 83, 84, 2, 3, 4, 5, 6, 7, 8, 9, 10, 11, 12, 13, 14, 15, 16, 17, 18, 19, 20, 21, 22, 23, 24, 25, 26, 27, 28, 29, 30, 31, 32, 33, 34, 35, 36, 37, 38, 39, 40, 41, 42, 85, 86, 87, 88, 89, 90, 91] (by decide) rfl) (hP.sub (ws' := ([(st, .inr (9, [.ref g1, .ref b0, .int (nI dd), .int (nI ni), .ref pr, .ref f_life, .ref f_pack, .ref f_route, .ref f_policy, .int f_transports, .ref f_transport, .int (nI ns), .ref f_room, .int f_day, .int f_lots, .ref f_lot, .int f_orders, .ref f_order, .ref f_reserved, .int f_earned, .int f_spent, .int f_waste, .int f_lacking, .int f_holding])), (pr, .inl (cI, 3, .inl (fp))), (g1, .inr (8, [.ref (a 0), .ref (b 0), .ref (pa 0)]))] ++ sg_St cI cZ a P q ++ sg_St cI cZ b R0 q2 ++ sg_Pl cI cJ pa (sg_g_digest_U U V P) (sg_g_digest_V U V P))) [0, 1, 43, 44, 45, 46, 47, 48, 49, 50, 51, 52, 53, 54, 55, 56, 57, 58, 59, 60, 61, 62, 63, 64, 65, 66, 67, 68, 69, 70, 71, 72, 73, 74, 75, 76, 77, 78, 79, 80, 81, 82, 83, 84, 2, 3, 4, 5, 6, 7, 8, 9, 10, 11, 12, 13, 14, 15, 16, 17, 18, 19, 20, 21, 22, 23, 24, 25, 26, 27, 28, 29, 30, 31, 32, 33, 34, 35, 36, 37, 38, 39, 40, 41, 42, 85, 86, 87, 88, 89, 90, 91] rfl)

set_option maxHeartbeats 40000000 in
set_option maxRecDepth 100000 in
theorem seg366 {p : Program} {l : Launch} {e : Env} {s : State} {m : MethodId} {below : List Frame} {meth : Method} {c : Code} {Q : State → Prop} (D : va_G) (cI cZ cJ : ClassId) (b0 L0 : Nat) (xs : Nat → Int32) (C0 : LC s p m c D cI cZ cJ b0 L0 xs) (st g1 pr : Nat) (a b pa : Nat → Nat) (fp : Nat → Int32) (f_life : Nat) (f_pack : Nat) (f_route : Nat) (f_policy : Nat) (f_transports : Int32) (f_transport : Nat) (f_room : Nat) (f_day : Int32) (f_lots : Int32) (f_lot : Nat) (f_orders : Int32) (f_order : Nat) (f_reserved : Nat) (f_earned : Int32) (f_spent : Int32) (f_waste : Int32) (f_lacking : Int32) (f_holding : Int32) (ni ns : Nat) (hni : 1 ≤ ni ∧ ni ≤ 3) (hns : 2 ≤ ns ∧ ns ≤ 4) (tt : Nat) (jj : Nat) (hjj : jj < 12) (ii : Nat) (fr : Nat) (tz : Nat) (sr : Nat) (hii : ii < ni) (hfr : fr < ns) (hto : tz < ns) (hft : ¬ (fr = tz)) (dy : Nat) (hdy : dy ≤ 3 * jj) (dn : Nat) (hdn : 1 ≤ dn ∧ dn ≤ 3) (P : sg_Pic) (dd : Nat) (q : Nat → Int32) (R0 : sg_Pic) (q2 : Nat → Int32) (hB : sg_B (2 * jj + 2) dy ni ns fp P) (cc ss : Nat) (hcc : cc ≤ 4900) (hss : ss ≤ 399000) (K : (∀ (U : sg_Pic) (V : sg_PiL) (H : Heap) (locs : List Loc) (ls : Array Slot), lv_has ls 21 [(0, .ref b0), (1, .int (nI tt)), (2, .ref st), (3, .ref g1), (4, .int (nI jj)), (5, .int (nI ii)), (6, .int (nI fr)), (7, .int (nI tz)), (8, .int (nI sr)), (9, .int (nI dn)), (10, .long (sg_dig P)), (12, .int (sg_g_onHandIn_r P ii fr dn)), (13, .int (sg_g_firstShort_r P dn)), (14, .int (sg_ls P fp ns ni))] → va_S (LA s) s.heap H locs → va_D (LA s) ([(st, .inr (9, [.ref g1, .ref b0, .int (nI dd), .int (nI ni), .ref pr, .ref f_life, .ref f_pack, .ref f_route, .ref f_policy, .int f_transports, .ref f_transport, .int (nI ns), .ref f_room, .int f_day, .int f_lots, .ref f_lot, .int f_orders, .ref f_order, .ref f_reserved, .int f_earned, .int f_spent, .int f_waste, .int f_lacking, .int f_holding])), (pr, .inl (cI, 3, .inl (fp))), (g1, .inr (8, [.ref (a 0), .ref (b 0), .ref (pa 0)]))] ++ sg_St cI cZ a P q ++ sg_St cI cZ b R0 q2 ++ sg_Pl cI cJ pa U V) → va_P D vwCl ([(st, .inr (9, [.ref g1, .ref b0, .int (nI dd), .int (nI ni), .ref pr, .ref f_life, .ref f_pack, .ref f_route, .ref f_policy, .int f_transports, .ref f_transport, .int (nI ns), .ref f_room, .int f_day, .int f_lots, .ref f_lot, .int f_orders, .ref f_order, .ref f_reserved, .int f_earned, .int f_spent, .int f_waste, .int f_lacking, .int f_holding])), (pr, .inl (cI, 3, .inl (fp))), (g1, .inr (8, [.ref (a 0), .ref (b 0), .ref (pa 0)]))] ++ sg_St cI cZ a P q ++ sg_St cI cZ b R0 q2 ++ sg_Pl cI cJ pa U V) H → W p l e room_1 s m #[Value.ref b0] below meth c H locs (cc + 2 * ni) (ss + 8 * ni) Q (F0 m 605 ls []))) (U : sg_Pic) (V : sg_PiL) (H : Heap) (locs : List Loc) (ls : Array Slot) (hl : lv_has ls 21 [(0, .ref b0), (1, .int (nI tt)), (2, .ref st), (3, .ref g1), (4, .int (nI jj)), (5, .int (nI ii)), (6, .int (nI fr)), (7, .int (nI tz)), (8, .int (nI sr)), (9, .int (nI dn)), (10, .long (sg_dig P)), (12, .int (sg_g_onHandIn_r P ii fr dn)), (13, .int (sg_g_firstShort_r P dn)), (14, .int 0), (15, .int 0)]) (hS : va_S (LA s) s.heap H locs) (hD : va_D (LA s) ([(st, .inr (9, [.ref g1, .ref b0, .int (nI dd), .int (nI ni), .ref pr, .ref f_life, .ref f_pack, .ref f_route, .ref f_policy, .int f_transports, .ref f_transport, .int (nI ns), .ref f_room, .int f_day, .int f_lots, .ref f_lot, .int f_orders, .ref f_order, .ref f_reserved, .int f_earned, .int f_spent, .int f_waste, .int f_lacking, .int f_holding])), (pr, .inl (cI, 3, .inl (fp))), (g1, .inr (8, [.ref (a 0), .ref (b 0), .ref (pa 0)]))] ++ sg_St cI cZ a P q ++ sg_St cI cZ b R0 q2 ++ sg_Pl cI cJ pa U V)) (hP : va_P D vwCl ([(st, .inr (9, [.ref g1, .ref b0, .int (nI dd), .int (nI ni), .ref pr, .ref f_life, .ref f_pack, .ref f_route, .ref f_policy, .int f_transports, .ref f_transport, .int (nI ns), .ref f_room, .int f_day, .int f_lots, .ref f_lot, .int f_orders, .ref f_order, .ref f_reserved, .int f_earned, .int f_spent, .int f_waste, .int f_lacking, .int f_holding])), (pr, .inl (cI, 3, .inl (fp))), (g1, .inr (8, [.ref (a 0), .ref (b 0), .ref (pa 0)]))] ++ sg_St cI cZ a P q ++ sg_St cI cZ b R0 q2 ++ sg_Pl cI cJ pa U V) H) : W p l e room_1 s m #[Value.ref b0] below meth c H locs cc ss Q (F0 m 366 ls []) := by
  obtain ⟨hx, hb, hml, hown, hts, hX0, hC, hAO⟩ := id C0
  have hK := hC.K
  have hA : ∀ q : Nat, s.heap.size ≤ q → LA s q := fun _ h => h
  have hAlo : ∀ q, LA s q → s.heap.size ≤ q := fun _ h => h
  have in9 : ∀ w ∈ u_ws RX9 TX9 24, w ∈ wsL_law := inlX9
  obtain ⟨j366, h0j366⟩ : ∃ j : Nat, j = 0 := ⟨_, rfl⟩
  obtain ⟨U366, h0U366⟩ : ∃ z9 : sg_Pic, z9 = (U) := ⟨_, rfl⟩
  obtain ⟨V366, h0V366⟩ : ∃ z9 : sg_PiL, z9 = (V) := ⟨_, rfl⟩
  obtain ⟨x366, h0x366⟩ : ∃ z9 : Int32, z9 = (0) := ⟨_, rfl⟩
  have hx366 : x366 = sg_ls P fp ns j366 := by first | (simp only [h0U366, h0V366, h0x366, h0j366]; rfl) | (rfl)
  replace hl : lv_has ls 21 [(0, .ref b0), (1, .int (nI tt)), (2, .ref st), (3, .ref g1), (4, .int (nI jj)), (5, .int (nI ii)), (6, .int (nI fr)), (7, .int (nI tz)), (8, .int (nI sr)), (9, .int (nI dn)), (10, .long (sg_dig P)), (12, .int (sg_g_onHandIn_r P ii fr dn)), (13, .int (sg_g_firstShort_r P dn)), (14, .int x366), (15, .int (nI j366))] := by (try simp only [h0U366, h0V366, h0x366, h0j366]); exact hl
  replace hP : va_P D vwCl ([(st, .inr (9, [.ref g1, .ref b0, .int (nI dd), .int (nI ni), .ref pr, .ref f_life, .ref f_pack, .ref f_route, .ref f_policy, .int f_transports, .ref f_transport, .int (nI ns), .ref f_room, .int f_day, .int f_lots, .ref f_lot, .int f_orders, .ref f_order, .ref f_reserved, .int f_earned, .int f_spent, .int f_waste, .int f_lacking, .int f_holding])), (pr, .inl (cI, 3, .inl (fp))), (g1, .inr (8, [.ref (a 0), .ref (b 0), .ref (pa 0)]))] ++ sg_St cI cZ a P q ++ sg_St cI cZ b R0 q2 ++ sg_Pl cI cJ pa U366 V366) H := by (try simp only [h0U366, h0V366, h0x366, h0j366]); exact hP
  replace hD : va_D (LA s) ([(st, .inr (9, [.ref g1, .ref b0, .int (nI dd), .int (nI ni), .ref pr, .ref f_life, .ref f_pack, .ref f_route, .ref f_policy, .int f_transports, .ref f_transport, .int (nI ns), .ref f_room, .int f_day, .int f_lots, .ref f_lot, .int f_orders, .ref f_order, .ref f_reserved, .int f_earned, .int f_spent, .int f_waste, .int f_lacking, .int f_holding])), (pr, .inl (cI, 3, .inl (fp))), (g1, .inr (8, [.ref (a 0), .ref (b 0), .ref (pa 0)]))] ++ sg_St cI cZ a P q ++ sg_St cI cZ b R0 q2 ++ sg_Pl cI cJ pa U366 V366) := by (try simp only [h0U366, h0V366, h0x366, h0j366]); exact hD
  refine W.cs (cells' := (cc + 2 * j366)) (slots' := (ss + 8 * j366)) (by omega) (by omega) ?_
  have hjj366 : j366 ≤ ni := by omega
  clear h0j366 h0U366 h0V366 h0x366
  obtain ⟨n366, hn366⟩ : ∃ n : Nat, ni < j366 + n := ⟨ni + 1, by omega⟩
  have hS9 := hS
  repeat clear hS
  have hS := hS9
  clear hS9
  revert hP
  revert hD
  revert hS
  revert hl
  revert hn366
  revert hjj366
  revert hx366
  revert ls
  revert locs
  revert H
  revert x366
  revert V366
  revert U366
  revert j366
  induction n366 with
  | zero =>
    intro j366 U366 V366 x366 H locs ls hx366 hjj366 hn366 hl hS hD hP
    exact absurd hn366 (by omega)
  | succ n366 ih366 =>
    intro j366 U366 V366 x366 H locs ls hx366 hjj366 hn366 hl hS hD hP
    refine lv_iload hx hb dL_law_366 (lv_at hl 14 rfl) ?_
    refine lv_aload_n hx hb dL_law_368 rfl (lv_at hl 2 rfl) ?_
    refine va_get (D := D) (ci := 9) (v := .int (nI ni)) (C := RX9) (T := TX9) (N := 24) hx hb hts in9 hown hK hP 0 rfl rfl 3 (by decide) (hts (.fieldLink RL 22 "GranaryLaw$Store" "items" "I") (by decide +kernel)) (fun _ h9 => h9) rfl dL_law_369 ?_
    have hB366 : ((nI ni) : Int32) = nI (ni) := rfl
    refine lv_icmp_ge (tgt := 605) hx hb dL_law_372 (by decide) (fun c_1 => ?_) (fun c_1 => ?_)
    · have hE366 : ni = j366 := (sg_eq hB366 c_1 hjj366 (by omega)).symm
      clear ih366 hn366
      subst hE366
      replace hl : lv_has ls 21 [(0, .ref b0), (1, .int (nI tt)), (2, .ref st), (3, .ref g1), (4, .int (nI jj)), (5, .int (nI ii)), (6, .int (nI fr)), (7, .int (nI tz)), (8, .int (nI sr)), (9, .int (nI dn)), (10, .long (sg_dig P)), (12, .int (sg_g_onHandIn_r P ii fr dn)), (13, .int (sg_g_firstShort_r P dn)), (14, .int (sg_ls P fp ns ni)), (15, .int (nI ni))] := by rw [← hx366]; exact hl
      refine W.widen (k := (cc + 2 * ni)) (n := (ss + 8 * ni)) (by omega) (by omega) ?_
      exact K U366 V366 H _ _  (lv_sub hl [0, 1, 2, 3, 4, 5, 6, 7, 8, 9, 10, 11, 12, 13] rfl) hS hD hP
    · have hL366 : j366 < ni := sg_lt hB366 c_1 (by omega)
      refine lv_iconst (v := 4) hx hb dL_law_375 (by decide) ?_
      refine na_i (N' := 4) hx hb (hts (.arrayClass .int) (by decide +kernel)) hK hP hD hS hA (by decide) (by decide) (Nat.le_of_ble_eq_true rfl) (Nat.le_trans (show ((cc + 2 * j366) + 1) ≤ 5000 by omega) (Nat.le_of_ble_eq_true rfl)) (Nat.le_trans (show ((ss + 8 * j366) + 4) ≤ 400000 by omega) (Nat.le_of_ble_eq_true rfl)) dL_law_376 (fun q_2 H hP hD hS => ?_)
      replace hP : va_P D vwCl ([(st, .inr (9, [.ref g1, .ref b0, .int (nI dd), .int (nI ni), .ref pr, .ref f_life, .ref f_pack, .ref f_route, .ref f_policy, .int f_transports, .ref f_transport, .int (nI ns), .ref f_room, .int f_day, .int f_lots, .ref f_lot, .int f_orders, .ref f_order, .ref f_reserved, .int f_earned, .int f_spent, .int f_waste, .int f_lacking, .int f_holding])), (pr, .inl (cI, 3, .inl (fp))), (g1, .inr (8, [.ref (a 0), .ref (b 0), .ref (pa 0)]))] ++ sg_St cI cZ a P q ++ sg_St cI cZ b R0 q2 ++ sg_Pl cI cJ pa U366 V366 ++ [(q_2, .inl (cI, 4, .inl (fun _ => 0)))]) H := hP
      replace hD : va_D (LA s) ([(st, .inr (9, [.ref g1, .ref b0, .int (nI dd), .int (nI ni), .ref pr, .ref f_life, .ref f_pack, .ref f_route, .ref f_policy, .int f_transports, .ref f_transport, .int (nI ns), .ref f_room, .int f_day, .int f_lots, .ref f_lot, .int f_orders, .ref f_order, .ref f_reserved, .int f_earned, .int f_spent, .int f_waste, .int f_lacking, .int f_holding])), (pr, .inl (cI, 3, .inl (fp))), (g1, .inr (8, [.ref (a 0), .ref (b 0), .ref (pa 0)]))] ++ sg_St cI cZ a P q ++ sg_St cI cZ b R0 q2 ++ sg_Pl cI cJ pa U366 V366 ++ [(q_2, .inl (cI, 4, .inl (fun _ => 0)))]) := hD
      refine W.widen (k := ((cc + 2 * j366) + 1)) (n := ((ss + 8 * j366) + 4)) (by omega) (by omega) ?_
      refine lv_astore (lv' := [(16, .ref q_2), (0, .ref b0), (1, .int (nI tt)), (2, .ref st), (3, .ref g1), (4, .int (nI jj)), (5, .int (nI ii)), (6, .int (nI fr)), (7, .int (nI tz)), (8, .int (nI sr)), (9, .int (nI dn)), (10, .long (sg_dig P)), (12, .int (sg_g_onHandIn_r P ii fr dn)), (13, .int (sg_g_firstShort_r P dn)), (14, .int x366), (15, .int (nI j366))]) hx hb dL_law_378 hl (by decide) rfl (fun ls hl => ?_)
      refine lv_iconst (v := 4) hx hb dL_law_380 (by decide) ?_
      refine na_i (N' := 4) hx hb (hts (.arrayClass .int) (by decide +kernel)) hK hP hD hS hA (by decide) (by decide) (Nat.le_of_ble_eq_true rfl) (Nat.le_trans (show (((cc + 2 * j366) + 1) + 1) ≤ 5000 by omega) (Nat.le_of_ble_eq_true rfl)) (Nat.le_trans (show (((ss + 8 * j366) + 4) + 4) ≤ 400000 by omega) (Nat.le_of_ble_eq_true rfl)) dL_law_381 (fun q_3 H hP hD hS => ?_)
      replace hP : va_P D vwCl ([(st, .inr (9, [.ref g1, .ref b0, .int (nI dd), .int (nI ni), .ref pr, .ref f_life, .ref f_pack, .ref f_route, .ref f_policy, .int f_transports, .ref f_transport, .int (nI ns), .ref f_room, .int f_day, .int f_lots, .ref f_lot, .int f_orders, .ref f_order, .ref f_reserved, .int f_earned, .int f_spent, .int f_waste, .int f_lacking, .int f_holding])), (pr, .inl (cI, 3, .inl (fp))), (g1, .inr (8, [.ref (a 0), .ref (b 0), .ref (pa 0)]))] ++ sg_St cI cZ a P q ++ sg_St cI cZ b R0 q2 ++ sg_Pl cI cJ pa U366 V366 ++ [(q_2, .inl (cI, 4, .inl (fun _ => 0))), (q_3, .inl (cI, 4, .inl (fun _ => 0)))]) H := hP
      replace hD : va_D (LA s) ([(st, .inr (9, [.ref g1, .ref b0, .int (nI dd), .int (nI ni), .ref pr, .ref f_life, .ref f_pack, .ref f_route, .ref f_policy, .int f_transports, .ref f_transport, .int (nI ns), .ref f_room, .int f_day, .int f_lots, .ref f_lot, .int f_orders, .ref f_order, .ref f_reserved, .int f_earned, .int f_spent, .int f_waste, .int f_lacking, .int f_holding])), (pr, .inl (cI, 3, .inl (fp))), (g1, .inr (8, [.ref (a 0), .ref (b 0), .ref (pa 0)]))] ++ sg_St cI cZ a P q ++ sg_St cI cZ b R0 q2 ++ sg_Pl cI cJ pa U366 V366 ++ [(q_2, .inl (cI, 4, .inl (fun _ => 0))), (q_3, .inl (cI, 4, .inl (fun _ => 0)))]) := hD
      refine W.widen (k := (((cc + 2 * j366) + 1) + 1)) (n := (((ss + 8 * j366) + 4) + 4)) (by omega) (by omega) ?_
      refine lv_astore (lv' := [(17, .ref q_3), (16, .ref q_2), (0, .ref b0), (1, .int (nI tt)), (2, .ref st), (3, .ref g1), (4, .int (nI jj)), (5, .int (nI ii)), (6, .int (nI fr)), (7, .int (nI tz)), (8, .int (nI sr)), (9, .int (nI dn)), (10, .long (sg_dig P)), (12, .int (sg_g_onHandIn_r P ii fr dn)), (13, .int (sg_g_firstShort_r P dn)), (14, .int x366), (15, .int (nI j366))]) hx hb dL_law_383 hl (by decide) rfl (fun ls hl => ?_)
      refine lv_iconst (v := 0) hx hb dL_law_385 (by decide) ?_
      refine lv_istore (lv' := [(18, .int 0), (17, .ref q_3), (16, .ref q_2), (0, .ref b0), (1, .int (nI tt)), (2, .ref st), (3, .ref g1), (4, .int (nI jj)), (5, .int (nI ii)), (6, .int (nI fr)), (7, .int (nI tz)), (8, .int (nI sr)), (9, .int (nI dn)), (10, .long (sg_dig P)), (12, .int (sg_g_onHandIn_r P ii fr dn)), (13, .int (sg_g_firstShort_r P dn)), (14, .int x366), (15, .int (nI j366))]) hx hb dL_law_386 hl (by decide) rfl (fun ls hl => ?_)
      obtain ⟨j388, h0j388⟩ : ∃ j : Nat, j = 0 := ⟨_, rfl⟩
      obtain ⟨U388, h0U388⟩ : ∃ z9 : sg_Pic, z9 = (U366) := ⟨_, rfl⟩
      obtain ⟨V388, h0V388⟩ : ∃ z9 : sg_PiL, z9 = (V366) := ⟨_, rfl⟩
      obtain ⟨x388, h0x388⟩ : ∃ z9 : Int32, z9 = (x366) := ⟨_, rfl⟩
      obtain ⟨se388, h0se388⟩ : ∃ z9 : Nat → Int32, z9 = (fun _ => 0) := ⟨_, rfl⟩
      obtain ⟨go388, h0go388⟩ : ∃ z9 : Nat → Int32, z9 = (fun _ => 0) := ⟨_, rfl⟩
      have hx388 : x388 = sg_l1 P (fp j366) j366 (sg_ls P fp ns j366) j388 := by first | (simp only [h0U388, h0V388, h0x388, h0se388, h0go388, h0j388]; exact hx366) | (exact hx366)
      have hs388 : ∀ x9, x9 < ns → se388 x9 = if x9 < j388 then sg_row P j366 x9 ns else 0 := by first | (simp only [h0U388, h0V388, h0x388, h0se388, h0go388, h0j388]; intro x9 _; rfl) | (intro x9 _; rfl)
      have hg388 : ∀ y9, y9 < ns → go388 y9 = sg_col P j366 y9 j388 := by first | (simp only [h0U388, h0V388, h0x388, h0se388, h0go388, h0j388]; intro y9 _; rfl) | (intro y9 _; rfl)
      replace hl : lv_has ls 21 [(18, .int (nI j388)), (17, .ref q_3), (16, .ref q_2), (0, .ref b0), (1, .int (nI tt)), (2, .ref st), (3, .ref g1), (4, .int (nI jj)), (5, .int (nI ii)), (6, .int (nI fr)), (7, .int (nI tz)), (8, .int (nI sr)), (9, .int (nI dn)), (10, .long (sg_dig P)), (12, .int (sg_g_onHandIn_r P ii fr dn)), (13, .int (sg_g_firstShort_r P dn)), (14, .int x388), (15, .int (nI j366))] := by (try simp only [h0U388, h0V388, h0x388, h0se388, h0go388, h0j388]); exact hl
      replace hP : va_P D vwCl ([(st, .inr (9, [.ref g1, .ref b0, .int (nI dd), .int (nI ni), .ref pr, .ref f_life, .ref f_pack, .ref f_route, .ref f_policy, .int f_transports, .ref f_transport, .int (nI ns), .ref f_room, .int f_day, .int f_lots, .ref f_lot, .int f_orders, .ref f_order, .ref f_reserved, .int f_earned, .int f_spent, .int f_waste, .int f_lacking, .int f_holding])), (pr, .inl (cI, 3, .inl (fp))), (g1, .inr (8, [.ref (a 0), .ref (b 0), .ref (pa 0)]))] ++ sg_St cI cZ a P q ++ sg_St cI cZ b R0 q2 ++ sg_Pl cI cJ pa U388 V388 ++ [(q_2, .inl (cI, 4, .inl (se388))), (q_3, .inl (cI, 4, .inl (go388)))]) H := by (try simp only [h0U388, h0V388, h0x388, h0se388, h0go388, h0j388]); exact hP
      replace hD : va_D (LA s) ([(st, .inr (9, [.ref g1, .ref b0, .int (nI dd), .int (nI ni), .ref pr, .ref f_life, .ref f_pack, .ref f_route, .ref f_policy, .int f_transports, .ref f_transport, .int (nI ns), .ref f_room, .int f_day, .int f_lots, .ref f_lot, .int f_orders, .ref f_order, .ref f_reserved, .int f_earned, .int f_spent, .int f_waste, .int f_lacking, .int f_holding])), (pr, .inl (cI, 3, .inl (fp))), (g1, .inr (8, [.ref (a 0), .ref (b 0), .ref (pa 0)]))] ++ sg_St cI cZ a P q ++ sg_St cI cZ b R0 q2 ++ sg_Pl cI cJ pa U388 V388 ++ [(q_2, .inl (cI, 4, .inl (se388))), (q_3, .inl (cI, 4, .inl (go388)))]) := by (try simp only [h0U388, h0V388, h0x388, h0se388, h0go388, h0j388]); exact hD
      have hjj388 : j388 ≤ ns := by omega
      clear h0j388 h0U388 h0V388 h0x388 h0se388 h0go388
      obtain ⟨n388, hn388⟩ : ∃ n : Nat, ns < j388 + n := ⟨ns + 1, by omega⟩
      have hS9 := hS
      repeat clear hS
      have hS := hS9
      clear hS9
      revert hP
      revert hD
      revert hS
      revert hl
      revert hn388
      revert hjj388
      revert hg388
      revert hs388
      revert hx388
      revert ls
      revert locs
      revert H
      revert go388
      revert se388
      revert x388
      revert V388
      revert U388
      revert j388
      induction n388 with
      | zero =>
        intro j388 U388 V388 x388 se388 go388 H locs ls hx388 hs388 hg388 hjj388 hn388 hl hS hD hP
        exact absurd hn388 (by omega)
      | succ n388 ih388 =>
        intro j388 U388 V388 x388 se388 go388 H locs ls hx388 hs388 hg388 hjj388 hn388 hl hS hD hP
        refine lv_iload hx hb dL_law_388 (lv_at hl 0 rfl) ?_
        refine lv_aload_n hx hb dL_law_390 rfl (lv_at hl 5 rfl) ?_
        refine va_get (D := D) (ci := 9) (v := .int (nI ns)) (C := RX9) (T := TX9) (N := 24) hx hb hts in9 hown hK hP 0 rfl rfl 11 (by decide) (hts (.fieldLink RL 30 "GranaryLaw$Store" "sites" "I") (by decide +kernel)) (fun _ h9 => h9) rfl dL_law_391 ?_
        have hB388 : ((nI ns) : Int32) = nI (ns) := rfl
        refine lv_icmp_ge (tgt := 547) hx hb dL_law_394 (by decide) (fun c_4 => ?_) (fun c_4 => ?_)
        · have hE388 : ns = j388 := (sg_eq hB388 c_4 hjj388 (by omega)).symm
          clear ih388 hn388
          subst hE388
          refine lv_iconst (v := 0) hx hb dL_law_547 (by decide) ?_
          refine lv_istore (lv' := [(18, .int 0), (17, .ref q_3), (16, .ref q_2), (0, .ref b0), (1, .int (nI tt)), (2, .ref st), (3, .ref g1), (4, .int (nI jj)), (5, .int (nI ii)), (6, .int (nI fr)), (7, .int (nI tz)), (8, .int (nI sr)), (9, .int (nI dn)), (10, .long (sg_dig P)), (12, .int (sg_g_onHandIn_r P ii fr dn)), (13, .int (sg_g_firstShort_r P dn)), (14, .int x388), (15, .int (nI j366))]) hx hb dL_law_548 hl (by decide) rfl (fun ls hl => ?_)
          obtain ⟨j550, h0j550⟩ : ∃ j : Nat, j = 0 := ⟨_, rfl⟩
          replace hl : lv_has ls 21 [(18, .int (nI j550)), (17, .ref q_3), (16, .ref q_2), (0, .ref b0), (1, .int (nI tt)), (2, .ref st), (3, .ref g1), (4, .int (nI jj)), (5, .int (nI ii)), (6, .int (nI fr)), (7, .int (nI tz)), (8, .int (nI sr)), (9, .int (nI dn)), (10, .long (sg_dig P)), (12, .int (sg_g_onHandIn_r P ii fr dn)), (13, .int (sg_g_firstShort_r P dn)), (14, .int x388), (15, .int (nI j366))] := by (try simp only [h0j550]); exact hl
          replace hP : va_P D vwCl ([(st, .inr (9, [.ref g1, .ref b0, .int (nI dd), .int (nI ni), .ref pr, .ref f_life, .ref f_pack, .ref f_route, .ref f_policy, .int f_transports, .ref f_transport, .int (nI ns), .ref f_room, .int f_day, .int f_lots, .ref f_lot, .int f_orders, .ref f_order, .ref f_reserved, .int f_earned, .int f_spent, .int f_waste, .int f_lacking, .int f_holding])), (pr, .inl (cI, 3, .inl (fp))), (g1, .inr (8, [.ref (a 0), .ref (b 0), .ref (pa 0)]))] ++ sg_St cI cZ a P q ++ sg_St cI cZ b R0 q2 ++ sg_Pl cI cJ pa U388 V388 ++ [(q_2, .inl (cI, 4, .inl (se388))), (q_3, .inl (cI, 4, .inl (go388)))]) H := by (try simp only [h0j550]); exact hP
          replace hD : va_D (LA s) ([(st, .inr (9, [.ref g1, .ref b0, .int (nI dd), .int (nI ni), .ref pr, .ref f_life, .ref f_pack, .ref f_route, .ref f_policy, .int f_transports, .ref f_transport, .int (nI ns), .ref f_room, .int f_day, .int f_lots, .ref f_lot, .int f_orders, .ref f_order, .ref f_reserved, .int f_earned, .int f_spent, .int f_waste, .int f_lacking, .int f_holding])), (pr, .inl (cI, 3, .inl (fp))), (g1, .inr (8, [.ref (a 0), .ref (b 0), .ref (pa 0)]))] ++ sg_St cI cZ a P q ++ sg_St cI cZ b R0 q2 ++ sg_Pl cI cJ pa U388 V388 ++ [(q_2, .inl (cI, 4, .inl (se388))), (q_3, .inl (cI, 4, .inl (go388)))]) := by (try simp only [h0j550]); exact hD
          have hjj550 : j550 ≤ ns := by omega
          clear h0j550 
          obtain ⟨n550, hn550⟩ : ∃ n : Nat, ns < j550 + n := ⟨ns + 1, by omega⟩
          have hS9 := hS
          repeat clear hS
          have hS := hS9
          clear hS9
          revert hP
          revert hD
          revert hS
          revert hl
          revert hn550
          revert hjj550
          revert ls
          revert locs
          revert H
          revert j550
          induction n550 with
          | zero =>
            intro j550 H locs ls hjj550 hn550 hl hS hD hP
            exact absurd hn550 (by omega)
          | succ n550 ih550 =>
            intro j550 H locs ls hjj550 hn550 hl hS hD hP
            refine lv_iload hx hb dL_law_550 (lv_at hl 0 rfl) ?_
            refine lv_aload_n hx hb dL_law_552 rfl (lv_at hl 5 rfl) ?_
            refine va_get (D := D) (ci := 9) (v := .int (nI ns)) (C := RX9) (T := TX9) (N := 24) hx hb hts in9 hown hK hP 0 rfl rfl 11 (by decide) (hts (.fieldLink RL 30 "GranaryLaw$Store" "sites" "I") (by decide +kernel)) (fun _ h9 => h9) rfl dL_law_553 ?_
            have hB550 : ((nI ns) : Int32) = nI (ns) := rfl
            refine lv_icmp_ge (tgt := 599) hx hb dL_law_556 (by decide) (fun c_5 => ?_) (fun c_5 => ?_)
            · have hE550 : ns = j550 := (sg_eq hB550 c_5 hjj550 (by omega)).symm
              clear ih550 hn550
              subst hE550
              refine lv_iinc (v := nI (j366 + 1)) (lv' := [(15, .int (nI (j366 + 1))), (18, .int (nI ns)), (17, .ref q_3), (16, .ref q_2), (0, .ref b0), (1, .int (nI tt)), (2, .ref st), (3, .ref g1), (4, .int (nI jj)), (5, .int (nI ii)), (6, .int (nI fr)), (7, .int (nI tz)), (8, .int (nI sr)), (9, .int (nI dn)), (10, .long (sg_dig P)), (12, .int (sg_g_onHandIn_r P ii fr dn)), (13, .int (sg_g_firstShort_r P dn)), (14, .int x388)]) hx hb dL_law_599 hl (k := 17) rfl (nI_1 j366) (by decide) rfl (fun ls hl => ?_)
              refine lv_goto (tgt := 366) hx hb dL_law_602 (by decide) ?_
              refine W.cs (cells' := (cc + 2 * (j366 + 1))) (slots' := (ss + 8 * (j366 + 1))) (by omega) (by omega) ?_
              exact ih366 (j366 + 1) U388 V388 x388 _ _ _ hx388 (by omega) (by omega) (lv_sub hl [4, 5, 6, 7, 8, 9, 10, 11, 12, 13, 14, 15, 16, 17, 0] rfl) hS (hD.sub (ws' := ([(st, .inr (9, [.ref g1, .ref b0, .int (nI dd), .int (nI ni), .ref pr, .ref f_life, .ref f_pack, .ref f_route, .ref f_policy, .int f_transports, .ref f_transport, .int (nI ns), .ref f_room, .int f_day, .int f_lots, .ref f_lot, .int f_orders, .ref f_order, .ref f_reserved, .int f_earned, .int f_spent, .int f_waste, .int f_lacking, .int f_holding])), (pr, .inl (cI, 3, .inl (fp))), (g1, .inr (8, [.ref (a 0), .ref (b 0), .ref (pa 0)]))] ++ sg_St cI cZ a P q ++ sg_St cI cZ b R0 q2 ++ sg_Pl cI cJ pa U388 V388)) [0, 1, 2, 3, 4, 5, 6, 7, 8, 9, 10, 11, 12, 13, 14, 15, 16, 17, 18, 19, 20, 21, 22, 23, 24, 25, 26, 27, 28, 29, 30, 31, 32, 33, 34, 35, 36, 37, 38, 39, 40, 41, 42, 43, 44, 45, 46, 47, 48, 49, 50, 51, 52, 53, 54, 55, 56, 57, 58, 59, 60, 61, 62, 63, 64, 65, 66, 67, 68, 69, 70, 71, 72, 73, 74, 75, 76, 77, 78, 79, 80, 81, 82, 83, 84, 85, 86, 87, 88, 89, 90, 91] (by decide) rfl) (hP.sub (ws' := ([(st, .inr (9, [.ref g1, .ref b0, .int (nI dd), .int (nI ni), .ref pr, .ref f_life, .ref f_pack, .ref f_route, .ref f_policy, .int f_transports, .ref f_transport, .int (nI ns), .ref f_room, .int f_day, .int f_lots, .ref f_lot, .int f_orders, .ref f_order, .ref f_reserved, .int f_earned, .int f_spent, .int f_waste, .int f_lacking, .int f_holding])), (pr, .inl (cI, 3, .inl (fp))), (g1, .inr (8, [.ref (a 0), .ref (b 0), .ref (pa 0)]))] ++ sg_St cI cZ a P q ++ sg_St cI cZ b R0 q2 ++ sg_Pl cI cJ pa U388 V388)) [0, 1, 2, 3, 4, 5, 6, 7, 8, 9, 10, 11, 12, 13, 14, 15, 16, 17, 18, 19, 20, 21, 22, 23, 24, 25, 26, 27, 28, 29, 30, 31, 32, 33, 34, 35, 36, 37, 38, 39, 40, 41, 42, 43, 44, 45, 46, 47, 48, 49, 50, 51, 52, 53, 54, 55, 56, 57, 58, 59, 60, 61, 62, 63, 64, 65, 66, 67, 68, 69, 70, 71, 72, 73, 74, 75, 76, 77, 78, 79, 80, 81, 82, 83, 84, 85, 86, 87, 88, 89, 90, 91] rfl)
            · have hL550 : j550 < ns := sg_lt hB550 c_5 (by omega)
              refine lv_aload hx hb dL_law_559 (lv_at hl 2 rfl) ?_
              refine lv_iload hx hb dL_law_561 (lv_at hl 0 rfl) ?_
              refine sg_iald hx hb hK hP 92 0 rfl rfl (j := j550) rfl (by omega) (Nat.le_of_ble_eq_true rfl) dL_law_563 ?_
              refine lv_toi (y := se388 j550) rfl ?_
              refine lv_toi (y := sg_row P j366 j550 ns) (by rw [hs388 j550 (by omega), if_pos hL550]) ?_
              refine lv_aload_n hx hb dL_law_564 rfl (lv_at hl 6 rfl) ?_
              refine lv_iload hx hb dL_law_565 (lv_at hl 17 rfl) ?_
              refine lv_iload hx hb dL_law_567 (lv_at hl 0 rfl) ?_
              have hPc := hP.sub (ws' := ([(g1, .inr (8, [.ref (a 0), .ref (b 0), .ref (pa 0)]))] ++ sg_St cI cZ a P q)) [2, 3, 4, 5, 6, 7, 8, 9, 10, 11, 12, 13, 14, 15, 16, 17, 18, 19, 20, 21, 22, 23, 24, 25, 26, 27, 28, 29, 30, 31, 32, 33, 34, 35, 36, 37, 38, 39, 40, 41, 42, 43] rfl
              have hDc := hD.sub (ws' := ([(g1, .inr (8, [.ref (a 0), .ref (b 0), .ref (pa 0)]))] ++ sg_St cI cZ a P q)) [2, 3, 4, 5, 6, 7, 8, 9, 10, 11, 12, 13, 14, 15, 16, 17, 18, 19, 20, 21, 22, 23, 24, 25, 26, 27, 28, 29, 30, 31, 32, 33, 34, 35, 36, 37, 38, 39, 40, 41, 42, 43] (by decide) rfl
              refine vp_callSi (W.runV (As := [.int (nI j366), .int (nI j550)]) (rest := [.int (sg_row P j366 j550 ns)]) ⟨hx, hb, hml, hown, hts⟩ (c_g_spares l D cI cZ cJ s.heap.size H.size g1 pa b a P q j366 j550 hB.W (by rw [hB.c1]; omega) (by rw [hB.c2]; omega)) (cwV 2 hts gL_law_X8_spares rfl rfl rfl (by decide +kernel) ⟨(Nat.le_of_ble_eq_true rfl), (Nat.le_of_ble_eq_true rfl)⟩) ⟨Pre.blind, va_recv hK hP (ci := 8) (q0 := 2) rfl rfl, Pre.mk hPc (hDc.weaken (fun _ _ _ h => hAlo _ h)) hC hS hAlo⟩ rfl rfl hl.1 rfl (lv_room (Nat.le_of_ble_eq_true rfl)) dL_law_569 ⟨(Nat.le_trans (show (((cc + 2 * j366) + 1) + 1) + 0 ≤ 5000 by omega) (Nat.le_of_ble_eq_true rfl)), (Nat.le_trans (show (((ss + 8 * j366) + 4) + 4) + 0 ≤ 400000 by omega) (Nat.le_of_ble_eq_true rfl))⟩) (fun r_6 e_7 => ?_)
              clear hPc hDc
              have e_7 : sg_spareAt P j366 j550 = r_6 := Eq.symm e_7
              subst e_7
              refine lv_icmp_gt (tgt := 591) hx hb dL_law_572 (by decide) (fun c9 => absurd c9 (show ¬ ((sg_spareAt P j366 j550) < (sg_row P j366 j550 ns)) from (sg_plan_s hB hL366 hL550))) (fun _ => ?_)
              refine lv_aload hx hb dL_law_575 (lv_at hl 1 rfl) ?_
              refine lv_iload hx hb dL_law_577 (lv_at hl 0 rfl) ?_
              refine sg_iald hx hb hK hP 93 0 rfl rfl (j := j550) rfl (by omega) (Nat.le_of_ble_eq_true rfl) dL_law_579 ?_
              refine lv_toi (y := go388 j550) rfl ?_
              refine lv_toi (y := sg_col P j366 j550 ns) (hg388 j550 (by omega)) ?_
              refine lv_aload_n hx hb dL_law_580 rfl (lv_at hl 6 rfl) ?_
              refine lv_iload hx hb dL_law_581 (lv_at hl 17 rfl) ?_
              refine lv_iload hx hb dL_law_583 (lv_at hl 0 rfl) ?_
              have hPc := hP.sub (ws' := ([(g1, .inr (8, [.ref (a 0), .ref (b 0), .ref (pa 0)]))] ++ sg_St cI cZ a P q)) [2, 3, 4, 5, 6, 7, 8, 9, 10, 11, 12, 13, 14, 15, 16, 17, 18, 19, 20, 21, 22, 23, 24, 25, 26, 27, 28, 29, 30, 31, 32, 33, 34, 35, 36, 37, 38, 39, 40, 41, 42, 43] rfl
              have hDc := hD.sub (ws' := ([(g1, .inr (8, [.ref (a 0), .ref (b 0), .ref (pa 0)]))] ++ sg_St cI cZ a P q)) [2, 3, 4, 5, 6, 7, 8, 9, 10, 11, 12, 13, 14, 15, 16, 17, 18, 19, 20, 21, 22, 23, 24, 25, 26, 27, 28, 29, 30, 31, 32, 33, 34, 35, 36, 37, 38, 39, 40, 41, 42, 43] (by decide) rfl
              refine vp_callSi (W.runV (As := [.int (nI j366), .int (nI j550)]) (rest := [.int (sg_col P j366 j550 ns)]) ⟨hx, hb, hml, hown, hts⟩ (c_g_lacks l D cI cZ cJ s.heap.size H.size g1 pa b a P q j366 j550 hB.W (by rw [hB.c1]; omega) (by rw [hB.c2]; omega)) (cwV 2 hts gL_law_X8_lacks rfl rfl rfl (by decide +kernel) ⟨(Nat.le_of_ble_eq_true rfl), (Nat.le_of_ble_eq_true rfl)⟩) ⟨Pre.blind, va_recv hK hP (ci := 8) (q0 := 2) rfl rfl, Pre.mk hPc (hDc.weaken (fun _ _ _ h => hAlo _ h)) hC hS hAlo⟩ rfl rfl hl.1 rfl (lv_room (Nat.le_of_ble_eq_true rfl)) dL_law_585 ⟨(Nat.le_trans (show (((cc + 2 * j366) + 1) + 1) + 0 ≤ 5000 by omega) (Nat.le_of_ble_eq_true rfl)), (Nat.le_trans (show (((ss + 8 * j366) + 4) + 4) + 0 ≤ 400000 by omega) (Nat.le_of_ble_eq_true rfl))⟩) (fun r_8 e_9 => ?_)
              clear hPc hDc
              have e_9 : sg_lackAt P j366 j550 = r_8 := Eq.symm e_9
              subst e_9
              refine lv_icmp_le (tgt := 593) hx hb dL_law_588 (by decide) (fun _ => ?_) (fun c9 => absurd (show (sg_col P j366 j550 ns) ≤ (sg_lackAt P j366 j550) from (sg_plan_l hB hL366 hL550)) c9)
              refine lv_iinc (v := nI (j550 + 1)) (lv' := [(18, .int (nI (j550 + 1))), (17, .ref q_3), (16, .ref q_2), (0, .ref b0), (1, .int (nI tt)), (2, .ref st), (3, .ref g1), (4, .int (nI jj)), (5, .int (nI ii)), (6, .int (nI fr)), (7, .int (nI tz)), (8, .int (nI sr)), (9, .int (nI dn)), (10, .long (sg_dig P)), (12, .int (sg_g_onHandIn_r P ii fr dn)), (13, .int (sg_g_firstShort_r P dn)), (14, .int x388), (15, .int (nI j366))]) hx hb dL_law_593 hl (k := 0) rfl (nI_1 j550) (by decide) rfl (fun ls hl => ?_)
              refine lv_goto (tgt := 550) hx hb dL_law_596 (by decide) ?_
              exact ih550 (j550 + 1) _ _ _  (by omega) (by omega) (lv_sub hl [0, 1, 2, 3, 4, 5, 6, 7, 8, 9, 10, 11, 12, 13, 14, 15, 16, 17] rfl) hS hD hP
        · have hL388 : j388 < ns := sg_lt hB388 c_4 (by omega)
          refine lv_iload hx hb dL_law_397 (lv_at hl 16 rfl) ?_
          refine lv_aload_n hx hb dL_law_399 rfl (lv_at hl 5 rfl) ?_
          refine va_get (D := D) (ci := 9) (v := .ref pr) (C := RX9) (T := TX9) (N := 24) hx hb hts in9 hown hK hP 0 rfl rfl 4 (by decide) (hts (.fieldLink RL 78 "GranaryLaw$Store" "price" "[I") (by decide +kernel)) (fun _ h9 => h9) rfl dL_law_400 ?_
          refine lv_iload hx hb dL_law_403 (lv_at hl 17 rfl) ?_
          refine sg_iald hx hb hK hP 1 0 rfl rfl (j := j366) rfl (by omega) (Nat.le_of_ble_eq_true rfl) dL_law_405 ?_
          refine lv_toi (y := fp j366) rfl ?_
          refine lv_aload_n hx hb dL_law_406 rfl (lv_at hl 6 rfl) ?_
          refine lv_iload hx hb dL_law_407 (lv_at hl 17 rfl) ?_
          refine lv_iload hx hb dL_law_409 (lv_at hl 0 rfl) ?_
          have hPc := hP.sub (ws' := ([(g1, .inr (8, [.ref (a 0), .ref (b 0), .ref (pa 0)]))] ++ sg_St cI cZ a P q)) [2, 3, 4, 5, 6, 7, 8, 9, 10, 11, 12, 13, 14, 15, 16, 17, 18, 19, 20, 21, 22, 23, 24, 25, 26, 27, 28, 29, 30, 31, 32, 33, 34, 35, 36, 37, 38, 39, 40, 41, 42, 43] rfl
          have hDc := hD.sub (ws' := ([(g1, .inr (8, [.ref (a 0), .ref (b 0), .ref (pa 0)]))] ++ sg_St cI cZ a P q)) [2, 3, 4, 5, 6, 7, 8, 9, 10, 11, 12, 13, 14, 15, 16, 17, 18, 19, 20, 21, 22, 23, 24, 25, 26, 27, 28, 29, 30, 31, 32, 33, 34, 35, 36, 37, 38, 39, 40, 41, 42, 43] (by decide) rfl
          refine vp_callSi (W.runV (As := [.int (nI j366), .int (nI j388)]) (rest := [.int (fp j366), .int x388]) ⟨hx, hb, hml, hown, hts⟩ (c_g_onHand l D cI cZ cJ s.heap.size H.size g1 pa b a P q j366 j388 hB.W (by rw [hB.c1]; omega) (by rw [hB.c2]; omega)) (cwV 2 hts gL_law_X8_onHand rfl rfl rfl (by decide +kernel) ⟨(Nat.le_of_ble_eq_true rfl), (Nat.le_of_ble_eq_true rfl)⟩) ⟨Pre.blind, va_recv hK hP (ci := 8) (q0 := 2) rfl rfl, Pre.mk hPc (hDc.weaken (fun _ _ _ h => hAlo _ h)) hC hS hAlo⟩ rfl rfl hl.1 rfl (lv_room (Nat.le_of_ble_eq_true rfl)) dL_law_411 ⟨(Nat.le_trans (show (((cc + 2 * j366) + 1) + 1) + 0 ≤ 5000 by omega) (Nat.le_of_ble_eq_true rfl)), (Nat.le_trans (show (((ss + 8 * j366) + 4) + 4) + 0 ≤ 400000 by omega) (Nat.le_of_ble_eq_true rfl))⟩) (fun r_10 e_11 => ?_)
          clear hPc hDc
          have e_11 : sg_unitsAt P (nI j366) (nI j388) = r_10 := Eq.symm e_11
          subst e_11
          refine lv_aload_n hx hb dL_law_414 rfl (lv_at hl 6 rfl) ?_
          refine lv_iload hx hb dL_law_415 (lv_at hl 17 rfl) ?_
          refine lv_iload hx hb dL_law_417 (lv_at hl 0 rfl) ?_
          have hPc := hP.sub (ws' := ([(g1, .inr (8, [.ref (a 0), .ref (b 0), .ref (pa 0)]))] ++ sg_St cI cZ a P q)) [2, 3, 4, 5, 6, 7, 8, 9, 10, 11, 12, 13, 14, 15, 16, 17, 18, 19, 20, 21, 22, 23, 24, 25, 26, 27, 28, 29, 30, 31, 32, 33, 34, 35, 36, 37, 38, 39, 40, 41, 42, 43] rfl
          have hDc := hD.sub (ws' := ([(g1, .inr (8, [.ref (a 0), .ref (b 0), .ref (pa 0)]))] ++ sg_St cI cZ a P q)) [2, 3, 4, 5, 6, 7, 8, 9, 10, 11, 12, 13, 14, 15, 16, 17, 18, 19, 20, 21, 22, 23, 24, 25, 26, 27, 28, 29, 30, 31, 32, 33, 34, 35, 36, 37, 38, 39, 40, 41, 42, 43] (by decide) rfl
          refine vp_callSi (W.runV (As := [.int (nI j366), .int (nI j388)]) (rest := [.int (sg_unitsAt P (nI j366) (nI j388)), .int (fp j366), .int x388]) ⟨hx, hb, hml, hown, hts⟩ (c_g_underWay l D cI cZ cJ s.heap.size H.size g1 pa b a P q j366 j388 hB.W (by rw [hB.c1]; omega) (by rw [hB.c2]; omega)) (cwV 2 hts gL_law_X8_underWay rfl rfl rfl (by decide +kernel) ⟨(Nat.le_of_ble_eq_true rfl), (Nat.le_of_ble_eq_true rfl)⟩) ⟨Pre.blind, va_recv hK hP (ci := 8) (q0 := 2) rfl rfl, Pre.mk hPc (hDc.weaken (fun _ _ _ h => hAlo _ h)) hC hS hAlo⟩ rfl rfl hl.1 rfl (lv_room (Nat.le_of_ble_eq_true rfl)) dL_law_419 ⟨(Nat.le_trans (show (((cc + 2 * j366) + 1) + 1) + 0 ≤ 5000 by omega) (Nat.le_of_ble_eq_true rfl)), (Nat.le_trans (show (((ss + 8 * j366) + 4) + 4) + 0 ≤ 400000 by omega) (Nat.le_of_ble_eq_true rfl))⟩) (fun r_12 e_13 => ?_)
          clear hPc hDc
          have e_13 : sg_unitsTo P (nI j366) (nI j388) = r_12 := Eq.symm e_13
          subst e_13
          refine lv_iadd hx hb dL_law_422 ?_
          refine lv_imul hx hb dL_law_423 ?_
          refine lv_iadd hx hb dL_law_424 ?_
          refine lv_istore (lv' := [(14, .int (x388 + ((fp j366) * ((sg_unitsAt P (nI j366) (nI j388)) + (sg_unitsTo P (nI j366) (nI j388)))))), (18, .int (nI j388)), (17, .ref q_3), (16, .ref q_2), (0, .ref b0), (1, .int (nI tt)), (2, .ref st), (3, .ref g1), (4, .int (nI jj)), (5, .int (nI ii)), (6, .int (nI fr)), (7, .int (nI tz)), (8, .int (nI sr)), (9, .int (nI dn)), (10, .long (sg_dig P)), (12, .int (sg_g_onHandIn_r P ii fr dn)), (13, .int (sg_g_firstShort_r P dn)), (15, .int (nI j366))]) hx hb dL_law_425 hl (by decide) rfl (fun ls hl => ?_)
          refine lv_aload_n hx hb dL_law_427 rfl (lv_at hl 7 rfl) ?_
          refine lv_iload hx hb dL_law_428 (lv_at hl 17 rfl) ?_
          refine lv_iload hx hb dL_law_430 (lv_at hl 1 rfl) ?_
          have hPc := hP.sub (ws' := ([(g1, .inr (8, [.ref (a 0), .ref (b 0), .ref (pa 0)]))] ++ sg_St cI cZ a P q)) [2, 3, 4, 5, 6, 7, 8, 9, 10, 11, 12, 13, 14, 15, 16, 17, 18, 19, 20, 21, 22, 23, 24, 25, 26, 27, 28, 29, 30, 31, 32, 33, 34, 35, 36, 37, 38, 39, 40, 41, 42, 43] rfl
          have hDc := hD.sub (ws' := ([(g1, .inr (8, [.ref (a 0), .ref (b 0), .ref (pa 0)]))] ++ sg_St cI cZ a P q)) [2, 3, 4, 5, 6, 7, 8, 9, 10, 11, 12, 13, 14, 15, 16, 17, 18, 19, 20, 21, 22, 23, 24, 25, 26, 27, 28, 29, 30, 31, 32, 33, 34, 35, 36, 37, 38, 39, 40, 41, 42, 43] (by decide) rfl
          refine vp_callSi (W.runV (As := [.int (nI j366), .int (nI j388)]) (rest := []) ⟨hx, hb, hml, hown, hts⟩ (c_g_free l D cI cZ cJ s.heap.size H.size g1 pa b a P q j366 j388 hB.W (by rw [hB.c1]; omega) (by rw [hB.c2]; omega)) (cwV 2 hts gL_law_X8_free rfl rfl rfl (by decide +kernel) ⟨(Nat.le_of_ble_eq_true rfl), (Nat.le_of_ble_eq_true rfl)⟩) ⟨Pre.blind, va_recv hK hP (ci := 8) (q0 := 2) rfl rfl, Pre.mk hPc (hDc.weaken (fun _ _ _ h => hAlo _ h)) hC hS hAlo⟩ rfl rfl hl.1 rfl (lv_room (Nat.le_of_ble_eq_true rfl)) dL_law_432 ⟨(Nat.le_trans (show (((cc + 2 * j366) + 1) + 1) + 0 ≤ 5000 by omega) (Nat.le_of_ble_eq_true rfl)), (Nat.le_trans (show (((ss + 8 * j366) + 4) + 4) + 0 ≤ 400000 by omega) (Nat.le_of_ble_eq_true rfl))⟩) (fun r_14 e_15 => ?_)
          clear hPc hDc
          have e_15 : sg_freeAt P (nI j366) (nI j388) = r_14 := Eq.symm e_15
          subst e_15
          refine lv_if_lt (tgt := 466) hx hb dL_law_435 (by decide) (fun c9 => absurd c9 (show ¬ ((sg_freeAt P (nI j366) (nI j388)) < (0 : Int32)) from (sg_free_0 hB hL366 hL388))) (fun _ => ?_)
          refine lv_aload_n hx hb dL_law_438 rfl (lv_at hl 7 rfl) ?_
          refine lv_iload hx hb dL_law_439 (lv_at hl 17 rfl) ?_
          refine lv_iload hx hb dL_law_441 (lv_at hl 1 rfl) ?_
          have hPc := hP.sub (ws' := ([(g1, .inr (8, [.ref (a 0), .ref (b 0), .ref (pa 0)]))] ++ sg_St cI cZ a P q)) [2, 3, 4, 5, 6, 7, 8, 9, 10, 11, 12, 13, 14, 15, 16, 17, 18, 19, 20, 21, 22, 23, 24, 25, 26, 27, 28, 29, 30, 31, 32, 33, 34, 35, 36, 37, 38, 39, 40, 41, 42, 43] rfl
          have hDc := hD.sub (ws' := ([(g1, .inr (8, [.ref (a 0), .ref (b 0), .ref (pa 0)]))] ++ sg_St cI cZ a P q)) [2, 3, 4, 5, 6, 7, 8, 9, 10, 11, 12, 13, 14, 15, 16, 17, 18, 19, 20, 21, 22, 23, 24, 25, 26, 27, 28, 29, 30, 31, 32, 33, 34, 35, 36, 37, 38, 39, 40, 41, 42, 43] (by decide) rfl
          refine vp_callSi (W.runV (As := [.int (nI j366), .int (nI j388)]) (rest := []) ⟨hx, hb, hml, hown, hts⟩ (c_g_free l D cI cZ cJ s.heap.size H.size g1 pa b a P q j366 j388 hB.W (by rw [hB.c1]; omega) (by rw [hB.c2]; omega)) (cwV 2 hts gL_law_X8_free rfl rfl rfl (by decide +kernel) ⟨(Nat.le_of_ble_eq_true rfl), (Nat.le_of_ble_eq_true rfl)⟩) ⟨Pre.blind, va_recv hK hP (ci := 8) (q0 := 2) rfl rfl, Pre.mk hPc (hDc.weaken (fun _ _ _ h => hAlo _ h)) hC hS hAlo⟩ rfl rfl hl.1 rfl (lv_room (Nat.le_of_ble_eq_true rfl)) dL_law_443 ⟨(Nat.le_trans (show (((cc + 2 * j366) + 1) + 1) + 0 ≤ 5000 by omega) (Nat.le_of_ble_eq_true rfl)), (Nat.le_trans (show (((ss + 8 * j366) + 4) + 4) + 0 ≤ 400000 by omega) (Nat.le_of_ble_eq_true rfl))⟩) (fun r_16 e_17 => ?_)
          clear hPc hDc
          have e_17 : sg_freeAt P (nI j366) (nI j388) = r_16 := Eq.symm e_17
          subst e_17
          refine lv_aload_n hx hb dL_law_446 rfl (lv_at hl 7 rfl) ?_
          refine lv_iload hx hb dL_law_447 (lv_at hl 17 rfl) ?_
          refine lv_iload hx hb dL_law_449 (lv_at hl 1 rfl) ?_
          have hPc := hP.sub (ws' := ([(g1, .inr (8, [.ref (a 0), .ref (b 0), .ref (pa 0)]))] ++ sg_St cI cZ a P q)) [2, 3, 4, 5, 6, 7, 8, 9, 10, 11, 12, 13, 14, 15, 16, 17, 18, 19, 20, 21, 22, 23, 24, 25, 26, 27, 28, 29, 30, 31, 32, 33, 34, 35, 36, 37, 38, 39, 40, 41, 42, 43] rfl
          have hDc := hD.sub (ws' := ([(g1, .inr (8, [.ref (a 0), .ref (b 0), .ref (pa 0)]))] ++ sg_St cI cZ a P q)) [2, 3, 4, 5, 6, 7, 8, 9, 10, 11, 12, 13, 14, 15, 16, 17, 18, 19, 20, 21, 22, 23, 24, 25, 26, 27, 28, 29, 30, 31, 32, 33, 34, 35, 36, 37, 38, 39, 40, 41, 42, 43] (by decide) rfl
          refine vp_callSi (W.runV (As := [.int (nI j366), .int (nI j388)]) (rest := [.int (sg_freeAt P (nI j366) (nI j388))]) ⟨hx, hb, hml, hown, hts⟩ (c_g_onHand l D cI cZ cJ s.heap.size H.size g1 pa b a P q j366 j388 hB.W (by rw [hB.c1]; omega) (by rw [hB.c2]; omega)) (cwV 2 hts gL_law_X8_onHand rfl rfl rfl (by decide +kernel) ⟨(Nat.le_of_ble_eq_true rfl), (Nat.le_of_ble_eq_true rfl)⟩) ⟨Pre.blind, va_recv hK hP (ci := 8) (q0 := 2) rfl rfl, Pre.mk hPc (hDc.weaken (fun _ _ _ h => hAlo _ h)) hC hS hAlo⟩ rfl rfl hl.1 rfl (lv_room (Nat.le_of_ble_eq_true rfl)) dL_law_451 ⟨(Nat.le_trans (show (((cc + 2 * j366) + 1) + 1) + 0 ≤ 5000 by omega) (Nat.le_of_ble_eq_true rfl)), (Nat.le_trans (show (((ss + 8 * j366) + 4) + 4) + 0 ≤ 400000 by omega) (Nat.le_of_ble_eq_true rfl))⟩) (fun r_18 e_19 => ?_)
          clear hPc hDc
          have e_19 : sg_unitsAt P (nI j366) (nI j388) = r_18 := Eq.symm e_19
          subst e_19
          refine lv_icmp_gt (tgt := 466) hx hb dL_law_454 (by decide) (fun c9 => absurd c9 (show ¬ ((sg_unitsAt P (nI j366) (nI j388)) < (sg_freeAt P (nI j366) (nI j388))) from (sg_free_1 hB hL366 hL388))) (fun _ => ?_)
          refine lv_aload_n hx hb dL_law_457 rfl (lv_at hl 7 rfl) ?_
          refine lv_iload hx hb dL_law_458 (lv_at hl 1 rfl) ?_
          have hPc := hP.sub (ws' := ([(g1, .inr (8, [.ref (a 0), .ref (b 0), .ref (pa 0)]))] ++ sg_St cI cZ a P q)) [2, 3, 4, 5, 6, 7, 8, 9, 10, 11, 12, 13, 14, 15, 16, 17, 18, 19, 20, 21, 22, 23, 24, 25, 26, 27, 28, 29, 30, 31, 32, 33, 34, 35, 36, 37, 38, 39, 40, 41, 42, 43] rfl
          have hDc := hD.sub (ws' := ([(g1, .inr (8, [.ref (a 0), .ref (b 0), .ref (pa 0)]))] ++ sg_St cI cZ a P q)) [2, 3, 4, 5, 6, 7, 8, 9, 10, 11, 12, 13, 14, 15, 16, 17, 18, 19, 20, 21, 22, 23, 24, 25, 26, 27, 28, 29, 30, 31, 32, 33, 34, 35, 36, 37, 38, 39, 40, 41, 42, 43] (by decide) rfl
          refine vp_callSi (W.runV (As := [.int (nI j388)]) (rest := []) ⟨hx, hb, hml, hown, hts⟩ (c_g_roomLeft l D cI cZ cJ s.heap.size H.size g1 pa b a P q j388 hB.W (by rw [hB.c2]; omega)) (cwV 1 hts gL_law_X8_roomLeft rfl rfl rfl (by decide +kernel) ⟨(Nat.le_of_ble_eq_true rfl), (Nat.le_of_ble_eq_true rfl)⟩) ⟨Pre.blind, va_recv hK hP (ci := 8) (q0 := 2) rfl rfl, Pre.mk hPc (hDc.weaken (fun _ _ _ h => hAlo _ h)) hC hS hAlo⟩ rfl rfl hl.1 rfl (lv_room (Nat.le_of_ble_eq_true rfl)) dL_law_460 ⟨(Nat.le_trans (show (((cc + 2 * j366) + 1) + 1) + 0 ≤ 5000 by omega) (Nat.le_of_ble_eq_true rfl)), (Nat.le_trans (show (((ss + 8 * j366) + 4) + 4) + 0 ≤ 400000 by omega) (Nat.le_of_ble_eq_true rfl))⟩) (fun r_20 e_21 => ?_)
          clear hPc hDc
          have e_21 : sg_roomAt P (nI j388) = r_20 := Eq.symm e_21
          subst e_21
          refine lv_if_ge (tgt := 468) hx hb dL_law_463 (by decide) (fun _ => ?_) (fun c9 => absurd (show (0 : Int32) ≤ (sg_roomAt P (nI j388)) from (sg_room_0 hB hL388)) c9)
          refine lv_iconst (v := 0) hx hb dL_law_468 (by decide) ?_
          refine lv_istore (lv' := [(19, .int 0), (14, .int (x388 + ((fp j366) * ((sg_unitsAt P (nI j366) (nI j388)) + (sg_unitsTo P (nI j366) (nI j388)))))), (18, .int (nI j388)), (17, .ref q_3), (16, .ref q_2), (0, .ref b0), (1, .int (nI tt)), (2, .ref st), (3, .ref g1), (4, .int (nI jj)), (5, .int (nI ii)), (6, .int (nI fr)), (7, .int (nI tz)), (8, .int (nI sr)), (9, .int (nI dn)), (10, .long (sg_dig P)), (12, .int (sg_g_onHandIn_r P ii fr dn)), (13, .int (sg_g_firstShort_r P dn)), (15, .int (nI j366))]) hx hb dL_law_469 hl (by decide) rfl (fun ls hl => ?_)
          obtain ⟨j471, h0j471⟩ : ∃ j : Nat, j = 0 := ⟨_, rfl⟩
          obtain ⟨U471, h0U471⟩ : ∃ z9 : sg_Pic, z9 = (U388) := ⟨_, rfl⟩
          obtain ⟨V471, h0V471⟩ : ∃ z9 : sg_PiL, z9 = (V388) := ⟨_, rfl⟩
          obtain ⟨se471, h0se471⟩ : ∃ z9 : Nat → Int32, z9 = (se388) := ⟨_, rfl⟩
          obtain ⟨go471, h0go471⟩ : ∃ z9 : Nat → Int32, z9 = (go388) := ⟨_, rfl⟩
          have hs471 : ∀ x9, x9 < ns → se471 x9 = if x9 < j388 then sg_row P j366 x9 ns else if x9 = j388 then sg_row P j366 j388 j471 else 0 := by first | (simp only [h0U471, h0V471, h0se471, h0go471, h0j471]; exact sg_se_0 hs388) | (exact sg_se_0 hs388)
          have hg471 : ∀ y9, y9 < ns → go471 y9 = if y9 < j471 then sg_col P j366 y9 (j388 + 1) else sg_col P j366 y9 j388 := by first | (simp only [h0U471, h0V471, h0se471, h0go471, h0j471]; exact sg_go_0 hg388) | (exact sg_go_0 hg388)
          replace hl : lv_has ls 21 [(19, .int (nI j471)), (14, .int (x388 + ((fp j366) * ((sg_unitsAt P (nI j366) (nI j388)) + (sg_unitsTo P (nI j366) (nI j388)))))), (18, .int (nI j388)), (17, .ref q_3), (16, .ref q_2), (0, .ref b0), (1, .int (nI tt)), (2, .ref st), (3, .ref g1), (4, .int (nI jj)), (5, .int (nI ii)), (6, .int (nI fr)), (7, .int (nI tz)), (8, .int (nI sr)), (9, .int (nI dn)), (10, .long (sg_dig P)), (12, .int (sg_g_onHandIn_r P ii fr dn)), (13, .int (sg_g_firstShort_r P dn)), (15, .int (nI j366))] := by (try simp only [h0U471, h0V471, h0se471, h0go471, h0j471]); exact hl
          replace hP : va_P D vwCl ([(st, .inr (9, [.ref g1, .ref b0, .int (nI dd), .int (nI ni), .ref pr, .ref f_life, .ref f_pack, .ref f_route, .ref f_policy, .int f_transports, .ref f_transport, .int (nI ns), .ref f_room, .int f_day, .int f_lots, .ref f_lot, .int f_orders, .ref f_order, .ref f_reserved, .int f_earned, .int f_spent, .int f_waste, .int f_lacking, .int f_holding])), (pr, .inl (cI, 3, .inl (fp))), (g1, .inr (8, [.ref (a 0), .ref (b 0), .ref (pa 0)]))] ++ sg_St cI cZ a P q ++ sg_St cI cZ b R0 q2 ++ sg_Pl cI cJ pa U471 V471 ++ [(q_2, .inl (cI, 4, .inl (se471))), (q_3, .inl (cI, 4, .inl (go471)))]) H := by (try simp only [h0U471, h0V471, h0se471, h0go471, h0j471]); exact hP
          replace hD : va_D (LA s) ([(st, .inr (9, [.ref g1, .ref b0, .int (nI dd), .int (nI ni), .ref pr, .ref f_life, .ref f_pack, .ref f_route, .ref f_policy, .int f_transports, .ref f_transport, .int (nI ns), .ref f_room, .int f_day, .int f_lots, .ref f_lot, .int f_orders, .ref f_order, .ref f_reserved, .int f_earned, .int f_spent, .int f_waste, .int f_lacking, .int f_holding])), (pr, .inl (cI, 3, .inl (fp))), (g1, .inr (8, [.ref (a 0), .ref (b 0), .ref (pa 0)]))] ++ sg_St cI cZ a P q ++ sg_St cI cZ b R0 q2 ++ sg_Pl cI cJ pa U471 V471 ++ [(q_2, .inl (cI, 4, .inl (se471))), (q_3, .inl (cI, 4, .inl (go471)))]) := by (try simp only [h0U471, h0V471, h0se471, h0go471, h0j471]); exact hD
          have hjj471 : j471 ≤ ns := by omega
          clear h0j471 h0U471 h0V471 h0se471 h0go471
          obtain ⟨n471, hn471⟩ : ∃ n : Nat, ns < j471 + n := ⟨ns + 1, by omega⟩
          have hS9 := hS
          repeat clear hS
          have hS := hS9
          clear hS9
          revert hP
          revert hD
          revert hS
          revert hl
          revert hn471
          revert hjj471
          revert hg471
          revert hs471
          revert ls
          revert locs
          revert H
          revert go471
          revert se471
          revert V471
          revert U471
          revert j471
          induction n471 with
          | zero =>
            intro j471 U471 V471 se471 go471 H locs ls hs471 hg471 hjj471 hn471 hl hS hD hP
            exact absurd hn471 (by omega)
          | succ n471 ih471 =>
            intro j471 U471 V471 se471 go471 H locs ls hs471 hg471 hjj471 hn471 hl hS hD hP
            refine lv_iload hx hb dL_law_471 (lv_at hl 0 rfl) ?_
            refine lv_aload_n hx hb dL_law_473 rfl (lv_at hl 7 rfl) ?_
            refine va_get (D := D) (ci := 9) (v := .int (nI ns)) (C := RX9) (T := TX9) (N := 24) hx hb hts in9 hown hK hP 0 rfl rfl 11 (by decide) (hts (.fieldLink RL 30 "GranaryLaw$Store" "sites" "I") (by decide +kernel)) (fun _ h9 => h9) rfl dL_law_474 ?_
            have hB471 : ((nI ns) : Int32) = nI (ns) := rfl
            refine lv_icmp_ge (tgt := 541) hx hb dL_law_477 (by decide) (fun c_22 => ?_) (fun c_22 => ?_)
            · have hE471 : ns = j471 := (sg_eq hB471 c_22 hjj471 (by omega)).symm
              clear ih471 hn471
              subst hE471
              refine lv_iinc (v := nI (j388 + 1)) (lv' := [(18, .int (nI (j388 + 1))), (19, .int (nI ns)), (14, .int (x388 + ((fp j366) * ((sg_unitsAt P (nI j366) (nI j388)) + (sg_unitsTo P (nI j366) (nI j388)))))), (17, .ref q_3), (16, .ref q_2), (0, .ref b0), (1, .int (nI tt)), (2, .ref st), (3, .ref g1), (4, .int (nI jj)), (5, .int (nI ii)), (6, .int (nI fr)), (7, .int (nI tz)), (8, .int (nI sr)), (9, .int (nI dn)), (10, .long (sg_dig P)), (12, .int (sg_g_onHandIn_r P ii fr dn)), (13, .int (sg_g_firstShort_r P dn)), (15, .int (nI j366))]) hx hb dL_law_541 hl (k := 2) rfl (nI_1 j388) (by decide) rfl (fun ls hl => ?_)
              refine lv_goto (tgt := 388) hx hb dL_law_544 (by decide) ?_
              exact ih388 (j388 + 1) U471 V471 (x388 + ((fp j366) * ((sg_unitsAt P (nI j366) (nI j388)) + (sg_unitsTo P (nI j366) (nI j388))))) se471 go471 _ _ _ (sg_l1_s hx388) (sg_se_up hs471) (sg_go_up hg471) (by omega) (by omega) (lv_sub hl [0, 3, 4, 5, 6, 7, 8, 9, 10, 11, 12, 13, 14, 15, 16, 17, 2, 18] rfl) hS hD hP
            · have hL471 : j471 < ns := sg_lt hB471 c_22 (by omega)
              refine lv_aload_n hx hb dL_law_480 rfl (lv_at hl 8 rfl) ?_
              refine lv_iload hx hb dL_law_481 (lv_at hl 18 rfl) ?_
              refine lv_iload hx hb dL_law_483 (lv_at hl 2 rfl) ?_
              refine lv_iload hx hb dL_law_485 (lv_at hl 0 rfl) ?_
              have hPc := hP.sub (ws' := ([(g1, .inr (8, [.ref (a 0), .ref (b 0), .ref (pa 0)]))] ++ sg_St cI cZ a P q ++ sg_Pl cI cJ pa U471 V471)) [2, 3, 4, 5, 6, 7, 8, 9, 10, 11, 12, 13, 14, 15, 16, 17, 18, 19, 20, 21, 22, 23, 24, 25, 26, 27, 28, 29, 30, 31, 32, 33, 34, 35, 36, 37, 38, 39, 40, 41, 42, 43, 85, 86, 87, 88, 89, 90, 91] rfl
              have hDc := hD.sub (ws' := ([(g1, .inr (8, [.ref (a 0), .ref (b 0), .ref (pa 0)]))] ++ sg_St cI cZ a P q ++ sg_Pl cI cJ pa U471 V471)) [2, 3, 4, 5, 6, 7, 8, 9, 10, 11, 12, 13, 14, 15, 16, 17, 18, 19, 20, 21, 22, 23, 24, 25, 26, 27, 28, 29, 30, 31, 32, 33, 34, 35, 36, 37, 38, 39, 40, 41, 42, 43, 85, 86, 87, 88, 89, 90, 91] (by decide) rfl
              have hFc := va_free (wc := ([(g1, .inr (8, [.ref (a 0), .ref (b 0), .ref (pa 0)]))] ++ sg_St cI cZ a P q ++ sg_Pl cI cJ pa U471 V471)) hD hS hA [2, 3, 4, 5, 6, 7, 8, 9, 10, 11, 12, 13, 14, 15, 16, 17, 18, 19, 20, 21, 22, 23, 24, 25, 26, 27, 28, 29, 30, 31, 32, 33, 34, 35, 36, 37, 38, 39, 40, 41, 42, 43, 85, 86, 87, 88, 89, 90, 91] rfl
              refine va_calli (va_runV (As := [.int (nI j366), .int (nI j388), .int (nI j471)]) (rest := []) ⟨hx, hb, hml, hown, hts⟩ (c_g_planned l D cI cZ cJ s.heap.size H.size g1 pa b U471 V471 a P q j366 j388 j471 hB.W (by rw [hB.c1]; omega) (by rw [hB.c2]; omega) (by rw [hB.c2]; omega)) (cwV 3 hts gL_law_X8_planned rfl rfl rfl (by decide +kernel) ⟨(Nat.le_of_ble_eq_true rfl), (Nat.le_of_ble_eq_true rfl)⟩) ⟨Pre.blind, va_recv hK hP (ci := 8) (q0 := 2) rfl rfl, Pre.mk hPc (hDc.weaken (fun _ _ _ h => hAlo _ h)) hC hS hAlo⟩ rfl rfl hl.1 rfl (lv_room (Nat.le_of_ble_eq_true rfl)) dL_law_487 ⟨(Nat.le_trans (show (((cc + 2 * j366) + 1) + 1) + 0 ≤ 5000 by omega) (Nat.le_of_ble_eq_true rfl)), (Nat.le_trans (show (((ss + 8 * j366) + 4) + 4) + 0 ≤ 400000 by omega) (Nat.le_of_ble_eq_true rfl))⟩) hS (fun q _ h => hFc q h) hFc (fun r_23 u t H1 locs1 ht hvm e_24 hB hz1 hk1 hS1 => ?_)
              have hS := hS1
              refine W.widen (k := (((cc + 2 * j366) + 1) + 1)) (n := (((ss + 8 * j366) + 4) + 4)) (by omega) (by omega) ?_
              obtain ⟨hP1, hD1⟩ := hB
              rw [ht] at hP1
              obtain ⟨hP, hD⟩ := va_join (wr := ([(st, .inr (9, [.ref g1, .ref b0, .int (nI dd), .int (nI ni), .ref pr, .ref f_life, .ref f_pack, .ref f_route, .ref f_policy, .int f_transports, .ref f_transport, .int (nI ns), .ref f_room, .int f_day, .int f_lots, .ref f_lot, .int f_orders, .ref f_order, .ref f_reserved, .int f_earned, .int f_spent, .int f_waste, .int f_lacking, .int f_holding])), (pr, .inl (cI, 3, .inl (fp)))] ++ sg_St cI cZ b R0 q2 ++ [(q_2, .inl (cI, 4, .inl (se471))), (q_3, .inl (cI, 4, .inl (go471)))])) (w1 := ([(g1, .inr (8, [.ref (a 0), .ref (b 0), .ref (pa 0)]))] ++ sg_St cI cZ a P q ++ sg_Pl cI cJ pa (sg_g_planned_U U471 V471 P j366 j388 j471) (sg_g_planned_V U471 V471 P j366 j388 j471))) hP hD [2, 3, 4, 5, 6, 7, 8, 9, 10, 11, 12, 13, 14, 15, 16, 17, 18, 19, 20, 21, 22, 23, 24, 25, 26, 27, 28, 29, 30, 31, 32, 33, 34, 35, 36, 37, 38, 39, 40, 41, 42, 43, 85, 86, 87, 88, 89, 90, 91] [0, 1, 44, 45, 46, 47, 48, 49, 50, 51, 52, 53, 54, 55, 56, 57, 58, 59, 60, 61, 62, 63, 64, 65, 66, 67, 68, 69, 70, 71, 72, 73, 74, 75, 76, 77, 78, 79, 80, 81, 82, 83, 84, 92, 93] rfl rfl (by decide) (by decide) hk1 hFc hP1 hD1
              have e_24 : sg_g_planned_r U471 V471 P j366 j388 j471 = r_23 := Eq.symm e_24
              subst e_24
              clear hFc hPc hDc ht hvm hz1 hk1 hS1 hP1 hD1
              generalize H1 = H at hP hS ⊢
              replace hP : va_P D vwCl ([(st, .inr (9, [.ref g1, .ref b0, .int (nI dd), .int (nI ni), .ref pr, .ref f_life, .ref f_pack, .ref f_route, .ref f_policy, .int f_transports, .ref f_transport, .int (nI ns), .ref f_room, .int f_day, .int f_lots, .ref f_lot, .int f_orders, .ref f_order, .ref f_reserved, .int f_earned, .int f_spent, .int f_waste, .int f_lacking, .int f_holding])), (pr, .inl (cI, 3, .inl (fp)))] ++ sg_St cI cZ b R0 q2 ++ [(q_2, .inl (cI, 4, .inl (se471))), (q_3, .inl (cI, 4, .inl (go471))), (g1, .inr (8, [.ref (a 0), .ref (b 0), .ref (pa 0)]))] ++ sg_St cI cZ a P q ++ sg_Pl cI cJ pa (sg_g_planned_U U471 V471 P j366 j388 j471) (sg_g_planned_V U471 V471 P j366 j388 j471)) H := hP
              replace hD : va_D (LA s) ([(st, .inr (9, [.ref g1, .ref b0, .int (nI dd), .int (nI ni), .ref pr, .ref f_life, .ref f_pack, .ref f_route, .ref f_policy, .int f_transports, .ref f_transport, .int (nI ns), .ref f_room, .int f_day, .int f_lots, .ref f_lot, .int f_orders, .ref f_order, .ref f_reserved, .int f_earned, .int f_spent, .int f_waste, .int f_lacking, .int f_holding])), (pr, .inl (cI, 3, .inl (fp)))] ++ sg_St cI cZ b R0 q2 ++ [(q_2, .inl (cI, 4, .inl (se471))), (q_3, .inl (cI, 4, .inl (go471))), (g1, .inr (8, [.ref (a 0), .ref (b 0), .ref (pa 0)]))] ++ sg_St cI cZ a P q ++ sg_Pl cI cJ pa (sg_g_planned_U U471 V471 P j366 j388 j471) (sg_g_planned_V U471 V471 P j366 j388 j471)) := hD
              refine lv_toi (y := sg_plan P j366 (j388 * 5 + j471)) (sg_plan_eq hB.W (by rw [hB.c1]; omega) (by rw [hB.c2]; omega) (by rw [hB.c2]; omega) _ _) ?_
              refine lv_istore (lv' := [(20, .int (sg_plan P j366 (j388 * 5 + j471))), (19, .int (nI j471)), (14, .int (x388 + ((fp j366) * ((sg_unitsAt P (nI j366) (nI j388)) + (sg_unitsTo P (nI j366) (nI j388)))))), (18, .int (nI j388)), (17, .ref q_3), (16, .ref q_2), (0, .ref b0), (1, .int (nI tt)), (2, .ref st), (3, .ref g1), (4, .int (nI jj)), (5, .int (nI ii)), (6, .int (nI fr)), (7, .int (nI tz)), (8, .int (nI sr)), (9, .int (nI dn)), (10, .long (sg_dig P)), (12, .int (sg_g_onHandIn_r P ii fr dn)), (13, .int (sg_g_firstShort_r P dn)), (15, .int (nI j366))]) hx hb dL_law_490 hl (by decide) rfl (fun ls hl => ?_)
              refine lv_iload hx hb dL_law_492 (lv_at hl 0 rfl) ?_
              refine lv_if_lt (tgt := 513) hx hb dL_law_494 (by decide) (fun c9 => absurd c9 (show ¬ ((sg_plan P j366 (j388 * 5 + j471)) < (0 : Int32)) from (sg_plan_0 hB hL366 hL388 hL471))) (fun _ => ?_)
              refine lv_iload hx hb dL_law_497 (lv_at hl 0 rfl) ?_
              refine lv_if_le (tgt := 515) hx hb dL_law_499 (by decide) (fun c_25 => ?_) (fun c_25 => ?_)
              · refine lv_aload hx hb dL_law_515 (lv_at hl 5 rfl) ?_
                refine lv_iload hx hb dL_law_517 (lv_at hl 3 rfl) ?_
                refine lv_dup2_11 hx hb dL_law_519 rfl rfl ?_
                refine sg_iald hx hb hK hP 43 0 rfl rfl (j := j388) rfl (by omega) (Nat.le_of_ble_eq_true rfl) dL_law_520 ?_
                refine lv_toi (y := se471 j388) rfl ?_
                refine lv_iload hx hb dL_law_521 (lv_at hl 0 rfl) ?_
                refine lv_iadd hx hb dL_law_523 ?_
                refine sg_iast hx hb hK hP hD hS 43 0 rfl rfl (j := j388) rfl (by omega) (Nat.le_of_ble_eq_true rfl) dL_law_524 (fun H locs hP hD hS => ?_)
                replace hP : va_P D vwCl ([(st, .inr (9, [.ref g1, .ref b0, .int (nI dd), .int (nI ni), .ref pr, .ref f_life, .ref f_pack, .ref f_route, .ref f_policy, .int f_transports, .ref f_transport, .int (nI ns), .ref f_room, .int f_day, .int f_lots, .ref f_lot, .int f_orders, .ref f_order, .ref f_reserved, .int f_earned, .int f_spent, .int f_waste, .int f_lacking, .int f_holding])), (pr, .inl (cI, 3, .inl (fp)))] ++ sg_St cI cZ b R0 q2 ++ [(q_2, .inl (cI, 4, .inl (upd (se471) j388 ((se471 j388) + (sg_plan P j366 (j388 * 5 + j471)))))), (q_3, .inl (cI, 4, .inl (go471))), (g1, .inr (8, [.ref (a 0), .ref (b 0), .ref (pa 0)]))] ++ sg_St cI cZ a P q ++ sg_Pl cI cJ pa (sg_g_planned_U U471 V471 P j366 j388 j471) (sg_g_planned_V U471 V471 P j366 j388 j471)) H := hP
                replace hD : va_D (LA s) ([(st, .inr (9, [.ref g1, .ref b0, .int (nI dd), .int (nI ni), .ref pr, .ref f_life, .ref f_pack, .ref f_route, .ref f_policy, .int f_transports, .ref f_transport, .int (nI ns), .ref f_room, .int f_day, .int f_lots, .ref f_lot, .int f_orders, .ref f_order, .ref f_reserved, .int f_earned, .int f_spent, .int f_waste, .int f_lacking, .int f_holding])), (pr, .inl (cI, 3, .inl (fp)))] ++ sg_St cI cZ b R0 q2 ++ [(q_2, .inl (cI, 4, .inl (upd (se471) j388 ((se471 j388) + (sg_plan P j366 (j388 * 5 + j471)))))), (q_3, .inl (cI, 4, .inl (go471))), (g1, .inr (8, [.ref (a 0), .ref (b 0), .ref (pa 0)]))] ++ sg_St cI cZ a P q ++ sg_Pl cI cJ pa (sg_g_planned_U U471 V471 P j366 j388 j471) (sg_g_planned_V U471 V471 P j366 j388 j471)) := hD
                refine lv_aload hx hb dL_law_525 (lv_at hl 4 rfl) ?_
                refine lv_iload hx hb dL_law_527 (lv_at hl 1 rfl) ?_
                refine lv_dup2_11 hx hb dL_law_529 rfl rfl ?_
                refine sg_iald hx hb hK hP 44 0 rfl rfl (j := j471) rfl (by omega) (Nat.le_of_ble_eq_true rfl) dL_law_530 ?_
                refine lv_toi (y := go471 j471) rfl ?_
                refine lv_iload hx hb dL_law_531 (lv_at hl 0 rfl) ?_
                refine lv_iadd hx hb dL_law_533 ?_
                refine sg_iast hx hb hK hP hD hS 44 0 rfl rfl (j := j471) rfl (by omega) (Nat.le_of_ble_eq_true rfl) dL_law_534 (fun H locs hP hD hS => ?_)
                replace hP : va_P D vwCl ([(st, .inr (9, [.ref g1, .ref b0, .int (nI dd), .int (nI ni), .ref pr, .ref f_life, .ref f_pack, .ref f_route, .ref f_policy, .int f_transports, .ref f_transport, .int (nI ns), .ref f_room, .int f_day, .int f_lots, .ref f_lot, .int f_orders, .ref f_order, .ref f_reserved, .int f_earned, .int f_spent, .int f_waste, .int f_lacking, .int f_holding])), (pr, .inl (cI, 3, .inl (fp)))] ++ sg_St cI cZ b R0 q2 ++ [(q_2, .inl (cI, 4, .inl (upd (se471) j388 ((se471 j388) + (sg_plan P j366 (j388 * 5 + j471)))))), (q_3, .inl (cI, 4, .inl (upd (go471) j471 ((go471 j471) + (sg_plan P j366 (j388 * 5 + j471)))))), (g1, .inr (8, [.ref (a 0), .ref (b 0), .ref (pa 0)]))] ++ sg_St cI cZ a P q ++ sg_Pl cI cJ pa (sg_g_planned_U U471 V471 P j366 j388 j471) (sg_g_planned_V U471 V471 P j366 j388 j471)) H := hP
                replace hD : va_D (LA s) ([(st, .inr (9, [.ref g1, .ref b0, .int (nI dd), .int (nI ni), .ref pr, .ref f_life, .ref f_pack, .ref f_route, .ref f_policy, .int f_transports, .ref f_transport, .int (nI ns), .ref f_room, .int f_day, .int f_lots, .ref f_lot, .int f_orders, .ref f_order, .ref f_reserved, .int f_earned, .int f_spent, .int f_waste, .int f_lacking, .int f_holding])), (pr, .inl (cI, 3, .inl (fp)))] ++ sg_St cI cZ b R0 q2 ++ [(q_2, .inl (cI, 4, .inl (upd (se471) j388 ((se471 j388) + (sg_plan P j366 (j388 * 5 + j471)))))), (q_3, .inl (cI, 4, .inl (upd (go471) j471 ((go471 j471) + (sg_plan P j366 (j388 * 5 + j471)))))), (g1, .inr (8, [.ref (a 0), .ref (b 0), .ref (pa 0)]))] ++ sg_St cI cZ a P q ++ sg_Pl cI cJ pa (sg_g_planned_U U471 V471 P j366 j388 j471) (sg_g_planned_V U471 V471 P j366 j388 j471)) := hD
                refine lv_iinc (v := nI (j471 + 1)) (lv' := [(19, .int (nI (j471 + 1))), (20, .int (sg_plan P j366 (j388 * 5 + j471))), (14, .int (x388 + ((fp j366) * ((sg_unitsAt P (nI j366) (nI j388)) + (sg_unitsTo P (nI j366) (nI j388)))))), (18, .int (nI j388)), (17, .ref q_3), (16, .ref q_2), (0, .ref b0), (1, .int (nI tt)), (2, .ref st), (3, .ref g1), (4, .int (nI jj)), (5, .int (nI ii)), (6, .int (nI fr)), (7, .int (nI tz)), (8, .int (nI sr)), (9, .int (nI dn)), (10, .long (sg_dig P)), (12, .int (sg_g_onHandIn_r P ii fr dn)), (13, .int (sg_g_firstShort_r P dn)), (15, .int (nI j366))]) hx hb dL_law_535 hl (k := 1) rfl (nI_1 j471) (by decide) rfl (fun ls hl => ?_)
                refine lv_goto (tgt := 471) hx hb dL_law_538 (by decide) ?_
                exact ih471 (j471 + 1) (sg_g_planned_U U471 V471 P j366 j388 j471) (sg_g_planned_V U471 V471 P j366 j388 j471) (upd (se471) j388 ((se471 j388) + (sg_plan P j366 (j388 * 5 + j471)))) (upd (go471) j471 ((go471 j471) + (sg_plan P j366 (j388 * 5 + j471)))) _ _ _ (sg_se_s (by omega) hs471) (sg_go_s (by omega) hg471) (by omega) (by omega) (lv_sub hl [0, 2, 3, 4, 5, 6, 7, 8, 9, 10, 11, 12, 13, 14, 15, 16, 17, 18, 19] rfl) hS (hD.sub (ws' := ([(st, .inr (9, [.ref g1, .ref b0, .int (nI dd), .int (nI ni), .ref pr, .ref f_life, .ref f_pack, .ref f_route, .ref f_policy, .int f_transports, .ref f_transport, .int (nI ns), .ref f_room, .int f_day, .int f_lots, .ref f_lot, .int f_orders, .ref f_order, .ref f_reserved, .int f_earned, .int f_spent, .int f_waste, .int f_lacking, .int f_holding])), (pr, .inl (cI, 3, .inl (fp))), (g1, .inr (8, [.ref (a 0), .ref (b 0), .ref (pa 0)]))] ++ sg_St cI cZ a P q ++ sg_St cI cZ b R0 q2 ++ sg_Pl cI cJ pa (sg_g_planned_U U471 V471 P j366 j388 j471) (sg_g_planned_V U471 V471 P j366 j388 j471) ++ [(q_2, .inl (cI, 4, .inl (upd (se471) j388 ((se471 j388) + (sg_plan P j366 (j388 * 5 + j471)))))), (q_3, .inl (cI, 4, .inl (upd (go471) j471 ((go471 j471) + (sg_plan P j366 (j388 * 5 + j471))))))])) [0, 1, 45, 46, 47, 48, 49, 50, 51, 52, 53, 54, 55, 56, 57, 58, 59, 60, 61, 62, 63, 64, 65, 66, 67, 68, 69, 70, 71, 72, 73, 74, 75, 76, 77, 78, 79, 80, 81, 82, 83, 84, 85, 86, 2, 3, 4, 5, 6, 7, 8, 9, 10, 11, 12, 13, 14, 15, 16, 17, 18, 19, 20, 21, 22, 23, 24, 25, 26, 27, 28, 29, 30, 31, 32, 33, 34, 35, 36, 37, 38, 39, 40, 41, 42, 87, 88, 89, 90, 91, 92, 93, 43, 44] (by decide) rfl) (hP.sub (ws' := ([(st, .inr (9, [.ref g1, .ref b0, .int (nI dd), .int (nI ni), .ref pr, .ref f_life, .ref f_pack, .ref f_route, .ref f_policy, .int f_transports, .ref f_transport, .int (nI ns), .ref f_room, .int f_day, .int f_lots, .ref f_lot, .int f_orders, .ref f_order, .ref f_reserved, .int f_earned, .int f_spent, .int f_waste, .int f_lacking, .int f_holding])), (pr, .inl (cI, 3, .inl (fp))), (g1, .inr (8, [.ref (a 0), .ref (b 0), .ref (pa 0)]))] ++ sg_St cI cZ a P q ++ sg_St cI cZ b R0 q2 ++ sg_Pl cI cJ pa (sg_g_planned_U U471 V471 P j366 j388 j471) (sg_g_planned_V U471 V471 P j366 j388 j471) ++ [(q_2, .inl (cI, 4, .inl (upd (se471) j388 ((se471 j388) + (sg_plan P j366 (j388 * 5 + j471)))))), (q_3, .inl (cI, 4, .inl (upd (go471) j471 ((go471 j471) + (sg_plan P j366 (j388 * 5 + j471))))))])) [0, 1, 45, 46, 47, 48, 49, 50, 51, 52, 53, 54, 55, 56, 57, 58, 59, 60, 61, 62, 63, 64, 65, 66, 67, 68, 69, 70, 71, 72, 73, 74, 75, 76, 77, 78, 79, 80, 81, 82, 83, 84, 85, 86, 2, 3, 4, 5, 6, 7, 8, 9, 10, 11, 12, 13, 14, 15, 16, 17, 18, 19, 20, 21, 22, 23, 24, 25, 26, 27, 28, 29, 30, 31, 32, 33, 34, 35, 36, 37, 38, 39, 40, 41, 42, 87, 88, 89, 90, 91, 92, 93, 43, 44] rfl)
              · refine lv_aload_n hx hb dL_law_502 rfl (lv_at hl 9 rfl) ?_
                refine lv_iload hx hb dL_law_503 (lv_at hl 3 rfl) ?_
                refine lv_iload hx hb dL_law_505 (lv_at hl 1 rfl) ?_
                have hPc := hP.sub (ws' := ([(g1, .inr (8, [.ref (a 0), .ref (b 0), .ref (pa 0)]))] ++ sg_St cI cZ a P q)) [45, 46, 47, 48, 49, 50, 51, 52, 53, 54, 55, 56, 57, 58, 59, 60, 61, 62, 63, 64, 65, 66, 67, 68, 69, 70, 71, 72, 73, 74, 75, 76, 77, 78, 79, 80, 81, 82, 83, 84, 85, 86] rfl
                have hDc := hD.sub (ws' := ([(g1, .inr (8, [.ref (a 0), .ref (b 0), .ref (pa 0)]))] ++ sg_St cI cZ a P q)) [45, 46, 47, 48, 49, 50, 51, 52, 53, 54, 55, 56, 57, 58, 59, 60, 61, 62, 63, 64, 65, 66, 67, 68, 69, 70, 71, 72, 73, 74, 75, 76, 77, 78, 79, 80, 81, 82, 83, 84, 85, 86] (by decide) rfl
                refine vp_callSi (W.runV (As := [.int (nI j388), .int (nI j471)]) (rest := []) ⟨hx, hb, hml, hown, hts⟩ (c_g_route l D cI cZ cJ s.heap.size H.size g1 pa b a P q j388 j471 hB.W (by rw [hB.c2]; omega) (by rw [hB.c2]; omega)) (cwV 2 hts gL_law_X8_route rfl rfl rfl (by decide +kernel) ⟨(Nat.le_of_ble_eq_true rfl), (Nat.le_of_ble_eq_true rfl)⟩) ⟨Pre.blind, va_recv hK hP (ci := 8) (q0 := 45) rfl rfl, Pre.mk hPc (hDc.weaken (fun _ _ _ h => hAlo _ h)) hC hS hAlo⟩ rfl rfl hl.1 rfl (lv_room (Nat.le_of_ble_eq_true rfl)) dL_law_507 ⟨(Nat.le_trans (show (((cc + 2 * j366) + 1) + 1) + 0 ≤ 5000 by omega) (Nat.le_of_ble_eq_true rfl)), (Nat.le_trans (show (((ss + 8 * j366) + 4) + 4) + 0 ≤ 400000 by omega) (Nat.le_of_ble_eq_true rfl))⟩) (fun r_26 e_27 => ?_)
                clear hPc hDc
                have e_27 : sg_daysBetween P (nI j388) (nI j471) = r_26 := Eq.symm e_27
                subst e_27
                refine lv_if_ne (tgt := 515) hx hb dL_law_510 (by decide) (fun _ => ?_) (fun c9 => absurd c9 (show ¬ (sg_daysBetween P (nI j388) (nI j471)) = (0 : Int32) from (sg_plan_r hB hL366 hL388 hL471 c_25)))
                refine lv_aload hx hb dL_law_515 (lv_at hl 5 rfl) ?_
                refine lv_iload hx hb dL_law_517 (lv_at hl 3 rfl) ?_
                refine lv_dup2_11 hx hb dL_law_519 rfl rfl ?_
                refine sg_iald hx hb hK hP 43 0 rfl rfl (j := j388) rfl (by omega) (Nat.le_of_ble_eq_true rfl) dL_law_520 ?_
                refine lv_toi (y := se471 j388) rfl ?_
                refine lv_iload hx hb dL_law_521 (lv_at hl 0 rfl) ?_
                refine lv_iadd hx hb dL_law_523 ?_
                refine sg_iast hx hb hK hP hD hS 43 0 rfl rfl (j := j388) rfl (by omega) (Nat.le_of_ble_eq_true rfl) dL_law_524 (fun H locs hP hD hS => ?_)
                replace hP : va_P D vwCl ([(st, .inr (9, [.ref g1, .ref b0, .int (nI dd), .int (nI ni), .ref pr, .ref f_life, .ref f_pack, .ref f_route, .ref f_policy, .int f_transports, .ref f_transport, .int (nI ns), .ref f_room, .int f_day, .int f_lots, .ref f_lot, .int f_orders, .ref f_order, .ref f_reserved, .int f_earned, .int f_spent, .int f_waste, .int f_lacking, .int f_holding])), (pr, .inl (cI, 3, .inl (fp)))] ++ sg_St cI cZ b R0 q2 ++ [(q_2, .inl (cI, 4, .inl (upd (se471) j388 ((se471 j388) + (sg_plan P j366 (j388 * 5 + j471)))))), (q_3, .inl (cI, 4, .inl (go471))), (g1, .inr (8, [.ref (a 0), .ref (b 0), .ref (pa 0)]))] ++ sg_St cI cZ a P q ++ sg_Pl cI cJ pa (sg_g_planned_U U471 V471 P j366 j388 j471) (sg_g_planned_V U471 V471 P j366 j388 j471)) H := hP
                replace hD : va_D (LA s) ([(st, .inr (9, [.ref g1, .ref b0, .int (nI dd), .int (nI ni), .ref pr, .ref f_life, .ref f_pack, .ref f_route, .ref f_policy, .int f_transports, .ref f_transport, .int (nI ns), .ref f_room, .int f_day, .int f_lots, .ref f_lot, .int f_orders, .ref f_order, .ref f_reserved, .int f_earned, .int f_spent, .int f_waste, .int f_lacking, .int f_holding])), (pr, .inl (cI, 3, .inl (fp)))] ++ sg_St cI cZ b R0 q2 ++ [(q_2, .inl (cI, 4, .inl (upd (se471) j388 ((se471 j388) + (sg_plan P j366 (j388 * 5 + j471)))))), (q_3, .inl (cI, 4, .inl (go471))), (g1, .inr (8, [.ref (a 0), .ref (b 0), .ref (pa 0)]))] ++ sg_St cI cZ a P q ++ sg_Pl cI cJ pa (sg_g_planned_U U471 V471 P j366 j388 j471) (sg_g_planned_V U471 V471 P j366 j388 j471)) := hD
                refine lv_aload hx hb dL_law_525 (lv_at hl 4 rfl) ?_
                refine lv_iload hx hb dL_law_527 (lv_at hl 1 rfl) ?_
                refine lv_dup2_11 hx hb dL_law_529 rfl rfl ?_
                refine sg_iald hx hb hK hP 44 0 rfl rfl (j := j471) rfl (by omega) (Nat.le_of_ble_eq_true rfl) dL_law_530 ?_
                refine lv_toi (y := go471 j471) rfl ?_
                refine lv_iload hx hb dL_law_531 (lv_at hl 0 rfl) ?_
                refine lv_iadd hx hb dL_law_533 ?_
                refine sg_iast hx hb hK hP hD hS 44 0 rfl rfl (j := j471) rfl (by omega) (Nat.le_of_ble_eq_true rfl) dL_law_534 (fun H locs hP hD hS => ?_)
                replace hP : va_P D vwCl ([(st, .inr (9, [.ref g1, .ref b0, .int (nI dd), .int (nI ni), .ref pr, .ref f_life, .ref f_pack, .ref f_route, .ref f_policy, .int f_transports, .ref f_transport, .int (nI ns), .ref f_room, .int f_day, .int f_lots, .ref f_lot, .int f_orders, .ref f_order, .ref f_reserved, .int f_earned, .int f_spent, .int f_waste, .int f_lacking, .int f_holding])), (pr, .inl (cI, 3, .inl (fp)))] ++ sg_St cI cZ b R0 q2 ++ [(q_2, .inl (cI, 4, .inl (upd (se471) j388 ((se471 j388) + (sg_plan P j366 (j388 * 5 + j471)))))), (q_3, .inl (cI, 4, .inl (upd (go471) j471 ((go471 j471) + (sg_plan P j366 (j388 * 5 + j471)))))), (g1, .inr (8, [.ref (a 0), .ref (b 0), .ref (pa 0)]))] ++ sg_St cI cZ a P q ++ sg_Pl cI cJ pa (sg_g_planned_U U471 V471 P j366 j388 j471) (sg_g_planned_V U471 V471 P j366 j388 j471)) H := hP
                replace hD : va_D (LA s) ([(st, .inr (9, [.ref g1, .ref b0, .int (nI dd), .int (nI ni), .ref pr, .ref f_life, .ref f_pack, .ref f_route, .ref f_policy, .int f_transports, .ref f_transport, .int (nI ns), .ref f_room, .int f_day, .int f_lots, .ref f_lot, .int f_orders, .ref f_order, .ref f_reserved, .int f_earned, .int f_spent, .int f_waste, .int f_lacking, .int f_holding])), (pr, .inl (cI, 3, .inl (fp)))] ++ sg_St cI cZ b R0 q2 ++ [(q_2, .inl (cI, 4, .inl (upd (se471) j388 ((se471 j388) + (sg_plan P j366 (j388 * 5 + j471)))))), (q_3, .inl (cI, 4, .inl (upd (go471) j471 ((go471 j471) + (sg_plan P j366 (j388 * 5 + j471)))))), (g1, .inr (8, [.ref (a 0), .ref (b 0), .ref (pa 0)]))] ++ sg_St cI cZ a P q ++ sg_Pl cI cJ pa (sg_g_planned_U U471 V471 P j366 j388 j471) (sg_g_planned_V U471 V471 P j366 j388 j471)) := hD
                refine lv_iinc (v := nI (j471 + 1)) (lv' := [(19, .int (nI (j471 + 1))), (20, .int (sg_plan P j366 (j388 * 5 + j471))), (14, .int (x388 + ((fp j366) * ((sg_unitsAt P (nI j366) (nI j388)) + (sg_unitsTo P (nI j366) (nI j388)))))), (18, .int (nI j388)), (17, .ref q_3), (16, .ref q_2), (0, .ref b0), (1, .int (nI tt)), (2, .ref st), (3, .ref g1), (4, .int (nI jj)), (5, .int (nI ii)), (6, .int (nI fr)), (7, .int (nI tz)), (8, .int (nI sr)), (9, .int (nI dn)), (10, .long (sg_dig P)), (12, .int (sg_g_onHandIn_r P ii fr dn)), (13, .int (sg_g_firstShort_r P dn)), (15, .int (nI j366))]) hx hb dL_law_535 hl (k := 1) rfl (nI_1 j471) (by decide) rfl (fun ls hl => ?_)
                refine lv_goto (tgt := 471) hx hb dL_law_538 (by decide) ?_
                exact ih471 (j471 + 1) (sg_g_planned_U U471 V471 P j366 j388 j471) (sg_g_planned_V U471 V471 P j366 j388 j471) (upd (se471) j388 ((se471 j388) + (sg_plan P j366 (j388 * 5 + j471)))) (upd (go471) j471 ((go471 j471) + (sg_plan P j366 (j388 * 5 + j471)))) _ _ _ (sg_se_s (by omega) hs471) (sg_go_s (by omega) hg471) (by omega) (by omega) (lv_sub hl [0, 2, 3, 4, 5, 6, 7, 8, 9, 10, 11, 12, 13, 14, 15, 16, 17, 18, 19] rfl) hS (hD.sub (ws' := ([(st, .inr (9, [.ref g1, .ref b0, .int (nI dd), .int (nI ni), .ref pr, .ref f_life, .ref f_pack, .ref f_route, .ref f_policy, .int f_transports, .ref f_transport, .int (nI ns), .ref f_room, .int f_day, .int f_lots, .ref f_lot, .int f_orders, .ref f_order, .ref f_reserved, .int f_earned, .int f_spent, .int f_waste, .int f_lacking, .int f_holding])), (pr, .inl (cI, 3, .inl (fp))), (g1, .inr (8, [.ref (a 0), .ref (b 0), .ref (pa 0)]))] ++ sg_St cI cZ a P q ++ sg_St cI cZ b R0 q2 ++ sg_Pl cI cJ pa (sg_g_planned_U U471 V471 P j366 j388 j471) (sg_g_planned_V U471 V471 P j366 j388 j471) ++ [(q_2, .inl (cI, 4, .inl (upd (se471) j388 ((se471 j388) + (sg_plan P j366 (j388 * 5 + j471)))))), (q_3, .inl (cI, 4, .inl (upd (go471) j471 ((go471 j471) + (sg_plan P j366 (j388 * 5 + j471))))))])) [0, 1, 45, 46, 47, 48, 49, 50, 51, 52, 53, 54, 55, 56, 57, 58, 59, 60, 61, 62, 63, 64, 65, 66, 67, 68, 69, 70, 71, 72, 73, 74, 75, 76, 77, 78, 79, 80, 81, 82, 83, 84, 85, 86, 2, 3, 4, 5, 6, 7, 8, 9, 10, 11, 12, 13, 14, 15, 16, 17, 18, 19, 20, 21, 22, 23, 24, 25, 26, 27, 28, 29, 30, 31, 32, 33, 34, 35, 36, 37, 38, 39, 40, 41, 42, 87, 88, 89, 90, 91, 92, 93, 43, 44] (by decide) rfl) (hP.sub (ws' := ([(st, .inr (9, [.ref g1, .ref b0, .int (nI dd), .int (nI ni), .ref pr, .ref f_life, .ref f_pack, .ref f_route, .ref f_policy, .int f_transports, .ref f_transport, .int (nI ns), .ref f_room, .int f_day, .int f_lots, .ref f_lot, .int f_orders, .ref f_order, .ref f_reserved, .int f_earned, .int f_spent, .int f_waste, .int f_lacking, .int f_holding])), (pr, .inl (cI, 3, .inl (fp))), (g1, .inr (8, [.ref (a 0), .ref (b 0), .ref (pa 0)]))] ++ sg_St cI cZ a P q ++ sg_St cI cZ b R0 q2 ++ sg_Pl cI cJ pa (sg_g_planned_U U471 V471 P j366 j388 j471) (sg_g_planned_V U471 V471 P j366 j388 j471) ++ [(q_2, .inl (cI, 4, .inl (upd (se471) j388 ((se471 j388) + (sg_plan P j366 (j388 * 5 + j471)))))), (q_3, .inl (cI, 4, .inl (upd (go471) j471 ((go471 j471) + (sg_plan P j366 (j388 * 5 + j471))))))])) [0, 1, 45, 46, 47, 48, 49, 50, 51, 52, 53, 54, 55, 56, 57, 58, 59, 60, 61, 62, 63, 64, 65, 66, 67, 68, 69, 70, 71, 72, 73, 74, 75, 76, 77, 78, 79, 80, 81, 82, 83, 84, 85, 86, 2, 3, 4, 5, 6, 7, 8, 9, 10, 11, 12, 13, 14, 15, 16, 17, 18, 19, 20, 21, 22, 23, 24, 25, 26, 27, 28, 29, 30, 31, 32, 33, 34, 35, 36, 37, 38, 39, 40, 41, 42, 87, 88, 89, 90, 91, 92, 93, 43, 44] rfl)

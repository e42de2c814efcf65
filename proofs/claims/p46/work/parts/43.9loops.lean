set_option maxHeartbeats 4000000 in
set_option maxRecDepth 100000 in
theorem law_steps {p : Program} {l : Launch} {e : Env} {s : State} {m : MethodId} {below : List Frame} {meth : Method} {c : Code} {Q : State → Prop} (D : va_G) (cI cZ cJ : ClassId) (b0 L0 : Nat) (xs : Nat → Int32) (C0 : LC s p m c D cI cZ cJ b0 L0 xs) (st g1 pr : Nat) (a b pa : Nat → Nat) (fp : Nat → Int32) (f_life : Nat) (f_pack : Nat) (f_route : Nat) (f_policy : Nat) (f_transports : Int32) (f_transport : Nat) (f_room : Nat) (f_day : Int32) (f_lots : Int32) (f_lot : Nat) (f_orders : Int32) (f_order : Nat) (f_reserved : Nat) (f_earned : Int32) (f_spent : Int32) (f_waste : Int32) (f_lacking : Int32) (f_holding : Int32) (ni ns : Nat) (hni : 1 ≤ ni ∧ ni ≤ 3) (hns : 2 ≤ ns ∧ ns ≤ 4) (tt cc ss : Nat) (hcc : cc ≤ 4600) (hss : ss ≤ 380000) (K : ∀ (H : Heap) (locs : List Loc) (ls : Array Slot), lv_has ls 21 [(0, .ref b0), (1, .int (nI tt))] → va_S (LA s) s.heap H locs → W p l e room_1 s m #[Value.ref b0] below meth c H locs (cc + 72) (ss + 288) Q (F0 m 934 ls [])) : ∀ (n jj : Nat), jj + n = 12 → ∀ (dy dd : Nat) (P : sg_Pic) (q : Nat → Int32) (R0 : sg_Pic) (q2 : Nat → Int32) (U : sg_Pic) (V : sg_PiL) (H : Heap) (locs : List Loc) (ls : Array Slot), sg_B (2 * jj) dy ni ns fp P → dy ≤ 3 * jj → dd ≤ 300 + 20 * jj → lv_has ls 21 [(0, .ref b0), (1, .int (nI tt)), (2, .ref st), (3, .ref g1), (4, .int (nI jj))] → va_S (LA s) s.heap H locs → va_D (LA s) ([(st, .inr (9, [.ref g1, .ref b0, .int (nI dd), .int (nI ni), .ref pr, .ref f_life, .ref f_pack, .ref f_route, .ref f_policy, .int f_transports, .ref f_transport, .int (nI ns), .ref f_room, .int f_day, .int f_lots, .ref f_lot, .int f_orders, .ref f_order, .ref f_reserved, .int f_earned, .int f_spent, .int f_waste, .int f_lacking, .int f_holding])), (pr, .inl (cI, 3, .inl (fp))), (g1, .inr (8, [.ref (a 0), .ref (b 0), .ref (pa 0)]))] ++ sg_St cI cZ a P q ++ sg_St cI cZ b R0 q2 ++ sg_Pl cI cJ pa U V) → va_P D vwCl ([(st, .inr (9, [.ref g1, .ref b0, .int (nI dd), .int (nI ni), .ref pr, .ref f_life, .ref f_pack, .ref f_route, .ref f_policy, .int f_transports, .ref f_transport, .int (nI ns), .ref f_room, .int f_day, .int f_lots, .ref f_lot, .int f_orders, .ref f_order, .ref f_reserved, .int f_earned, .int f_spent, .int f_waste, .int f_lacking, .int f_holding])), (pr, .inl (cI, 3, .inl (fp))), (g1, .inr (8, [.ref (a 0), .ref (b 0), .ref (pa 0)]))] ++ sg_St cI cZ a P q ++ sg_St cI cZ b R0 q2 ++ sg_Pl cI cJ pa U V) H → W p l e room_1 s m #[Value.ref b0] below meth c H locs (cc + 6 * jj) (ss + 24 * jj) Q (F0 m 40 ls []) := by
  obtain ⟨hx, hb, hml, hown, hts, hX0, hC, hAO⟩ := id C0
  have hK := hC.K
  have hA : ∀ q : Nat, s.heap.size ≤ q → LA s q := fun _ h => h
  have hAlo : ∀ q, LA s q → s.heap.size ≤ q := fun _ h => h
  intro n
  induction n with
  | zero =>
    intro jj hn dy dd P q R0 q2 U V H locs ls hB hdy hdd hl hS hD hP
    refine lv_iload hx hb dL_law_40 (lv_at hl 4 rfl) ?_
    refine lv_bipush (v := 12) hx hb dL_law_42 (by decide) ?_
    refine lv_icmp_ge (tgt := 934) hx hb dL_law_44 (by decide) (fun _ => ?_) (fun c9 => absurd (show (12 : Int32) ≤ (nI jj) from (sg_12e (by omega))) c9)
    refine W.widen (k := cc + 72) (n := ss + 288) (by omega) (by omega) ?_
    exact K H _ _ (lv_sub hl [0, 1] rfl) hS
  | succ n ih =>
    intro jj hn dy dd P q R0 q2 U V H locs ls hB hdy hdd hl hS hD hP
    refine lv_iload hx hb dL_law_40 (lv_at hl 4 rfl) ?_
    refine lv_bipush (v := 12) hx hb dL_law_42 (by decide) ?_
    refine lv_icmp_ge (tgt := 934) hx hb dL_law_44 (by decide) (fun c9 => absurd c9 (show ¬ ((12 : Int32) ≤ (nI jj)) from (sg_12 (by omega)))) (fun _ => ?_)
    refine law_step D cI cZ cJ b0 L0 xs C0 st g1 pr a b pa fp f_life f_pack f_route f_policy f_transports f_transport f_room f_day f_lots f_lot f_orders f_order f_reserved f_earned f_spent f_waste f_lacking f_holding ni ns hni hns tt jj dy (by omega) hdy (cc + 6 * jj) (ss + 24 * jj) (by omega) (by omega) ?_ dd P q R0 q2 U V H _ _ hB (by omega) hl hS hD hP
    intro dz dd P q R0 q2 U V H locs ls hB hdz hdd hl hS hD hP
    refine lv_iinc (v := nI (jj + 1)) (lv' := [(4, .int (nI (jj + 1))), (0, .ref b0), (1, .int (nI tt)), (2, .ref st), (3, .ref g1)]) hx hb dL_law_928 hl (k := 4) rfl (nI_1 jj) (by decide) rfl (fun ls hl => ?_)
    refine lv_goto (tgt := 40) hx hb dL_law_931 (by decide) ?_
    refine W.cs (cells' := cc + 6 * (jj + 1)) (slots' := ss + 24 * (jj + 1)) (by omega) (by omega) ?_
    exact ih (jj + 1) (by omega) dz dd P q R0 q2 U V H _ _ (by rw [show 2 * (jj + 1) = 2 * jj + 2 by omega]; exact hB) (by omega) (by omega) (lv_sub hl [1, 2, 3, 4, 0] rfl) hS hD hP

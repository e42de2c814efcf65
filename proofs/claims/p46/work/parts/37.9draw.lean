/-- a start where the script lies, ahead of all that is of this run -/
def sg_PreS (b0 L0 : Nat) (xs : Nat → Int32) (lo : Nat) (D : va_G) (cI cZ cJ : ClassId) (av : List Value) (sz : Nat) (ws : va_W) : Array Value → State → Prop := va_Pc av (fun U => U.heap.size = sz ∧ va_P D vwCl ws U.heap ∧ va_D (fun q => lo ≤ q) ws ∧ CX lo D cI cZ cJ U ∧ (b0 < lo ∧ va_X b0 L0 xs U U.heap ∧ L0 < 2 ^ 31))
theorem sg_PreS.blind {b0 L0 : Nat} {xs : Nat → Int32} {lo : Nat} {D : va_G} {cI cZ cJ : ClassId} {av : List Value} {sz : Nat} {ws : va_W} : FrameBlind (sg_PreS b0 L0 xs lo D cI cZ cJ av sz ws) := fun a U g mk q => ⟨q.1, q.2.1, q.2.2.1, q.2.2.2.1, q.2.2.2.2.1.call g mk a, q.2.2.2.2.2.1, va_X.moved (State.WarmedH.refl U).alike q.2.2.2.2.2.2.1, q.2.2.2.2.2.2.2⟩
theorem sg_PreS.mk {b0 L0 : Nat} {xs : Nat → Int32} {lo : Nat} {D : va_G} {cI cZ cJ : ClassId} {av : List Value} {wc : va_W} {s : State} {H : Heap} {A : Nat → Prop} {locs : List Loc} (hP : va_P D vwCl wc H) (hD : va_D (fun q => lo ≤ q) wc) (hC : CX lo D cI cZ cJ s) (hS : va_S A s.heap H locs) (hAlo : ∀ q, A q → lo ≤ q) (hX : b0 < lo ∧ va_X b0 L0 xs s s.heap ∧ L0 < 2 ^ 31) : ∀ U : State, U.heap = H → s.WarmedH U.vm → sg_PreS b0 L0 xs lo D cI cZ cJ av H.size wc av.toArray U :=
  fun U hU hW => ⟨rfl, by rw [hU], by rw [hU]; exact hP, hD, hC.at hS hAlo hU hW, hX.1, by
    rw [hU]
    exact va_X.moved hW.alike (hX.2.1.kept (hS.2.1 b0 (Nat.lt_of_lt_of_le hX.1 hC.1) (fun q => absurd (hAlo _ q) (Nat.not_le.mpr hX.1)))), hX.2.2⟩
theorem sg_remN {a b : Nat} (hb : 0 < b) (ha : a < 2 ^ 31) (hb2 : b < 2 ^ 31) : nI a - nI a / nI b * nI b = nI (a % b) := by
  have h := Nat.mod_lt a hb
  apply sg_ext
  rw [sg_rem_b hb ha hb2, nI_toInt (by omega)]
theorem sg_divN {a b : Nat} (hb : 0 < b) (ha : a < 2 ^ 31) (hb2 : b < 2 ^ 31) : nI a / nI b = nI (a / b) := by
  obtain ⟨q, hq⟩ : ∃ q, q = a / b := ⟨_, rfl⟩
  have q1 : q ≤ a := by
    rw [hq]
    exact Nat.div_le_self a b
  rw [← hq]
  apply sg_ext
  rw [Int32.toInt_div, nI_toInt ha, nI_toInt hb2, nI_toInt (by omega)]
  have e3 : Int.tdiv (a : Int) (b : Int) = (q : Int) := by
    rw [hq]
    rfl
  rw [e3]
  exact sg_bmod (by omega) (by omega)

set_option maxHeartbeats 4000000 in
set_option maxRecDepth 100000 in
/-- L_below -/
theorem c_below (l : Launch) (D : va_G) (cI cZ cJ : ClassId) (lo sz : Nat) (x : Int32) (nn : Nat) (hn0 : 0 < nn) (hn1 : nn < 2 ^ 31) : Met l yL_below wsL_below ({ frames := 0, cells := 0, slots := 0, locals := 0 }) (Pre lo D cI cZ cJ [.int x, .int (nI nn)] sz []) (vp_Si (fun r => ∃ k9, k9 < nn ∧ r = nI k9)) 0 0 (fun _ => False) := by
  refine Met.ofW (cc := cL_below) (maxL := 2) (ret := (some .int)) (by decide) rfl ?_
  intro p e s m args below meth c s₁ B hml hv
  obtain ⟨rfl, hsz, hP, hD0, hC⟩ := hv
  have hx := B.exec
  have hb := B.bytes
  have hr := B.returns
  have hts := atoms_spec (ws := wsL_below) B.pre
  have hown : s.vm.findClass RL = some m.cls := findClass_of_methodNamed B.named
  have hlocks := B.notSynchronized
  subst hsz
  have hK := hC.K
  have hD := hD0
  have hS : va_S (fun q => lo ≤ q) s.heap s.heap [] := va_S.rf
  have hAlo : ∀ q, (fun q => lo ≤ q) q → lo ≤ q := fun _ h => h
  have hL : ∀ q ∈ ([] : List Loc), (fun _ : Addr => False) q.base := fun q h => by cases h
  have hP : va_P D vwCl [] s.heap := hP
  have hl := lv_entry ([.int x, .int (nI nn)]) (n := 2) (Nat.le_of_ble_eq_true rfl)
  rw [lg_entry_eq]
  generalize (lg_sl ([.int x, .int (nI nn)]) ++ List.replicate (2 - (lg_sl ([.int x, .int (nI nn)])).length) Slot.unset).toArray = ls at hl ⊢
  have hl : lv_has ls 2 [(0, .int x), (1, .int (nI nn))] := hl
  refine lv_iload_n hx hb dL_below_0 rfl (lv_at hl 0 rfl) ?_
  refine lv_ldc hx hb (v := 2147483647) hown (hts (.constant RL 7 (2147483647)) (by decide +kernel)) dL_below_1 ?_
  refine lv_iand hx hb dL_below_3 ?_
  obtain ⟨k9, hk9, e9⟩ := pk_andE x (m := 2147483647) 31 (by decide +kernel)
  refine lv_toi (y := nI k9) e9 ?_
  refine lv_iload_n hx hb dL_below_4 rfl (lv_at hl 1 rfl) ?_
  refine lv_irem hx hb dL_below_5 (nI_ne0 (by omega) (by omega)) ?_
  refine lv_toi (y := nI (k9 % nn)) (sg_remN (a := k9) (b := nn) (by omega) (by omega) (by omega)) ?_
  exact W.iret (v := (nI (k9 % nn))) hx hb hr (fun t ht hW => ⟨(nI (k9 % nn)), rfl, ⟨k9 % nn, Nat.mod_lt _ hn0, rfl⟩, ht⟩) hL dL_below_6

set_option maxHeartbeats 4000000 in
set_option maxRecDepth 100000 in
/-- L_cell -/
theorem c_cell (l : Launch) (D : va_G) (cI cZ cJ : ClassId) (lo sz : Nat) (b0 L0 : Nat) (xs : Nat → Int32) (k : Nat) (hk0 : k < 2 ^ 31) : Met l yL_cell wsL_cell ({ frames := 0, cells := 0, slots := 0, locals := 0 }) (sg_PreS b0 L0 xs lo D cI cZ cJ [.ref b0, .int (nI k)] sz []) (vp_Si (fun r => True)) 0 0 (fun _ => False) := by
  refine Met.ofW (cc := cL_cell) (maxL := 2) (ret := (some .int)) (by decide) rfl ?_
  intro p e s m args below meth c s₁ B hml hv
  obtain ⟨rfl, hsz, hP, hD0, hC, hX0⟩ := hv
  have hx := B.exec
  have hb := B.bytes
  have hr := B.returns
  have hts := atoms_spec (ws := wsL_cell) B.pre
  have hown : s.vm.findClass RL = some m.cls := findClass_of_methodNamed B.named
  have hlocks := B.notSynchronized
  subst hsz
  have hK := hC.K
  have hD := hD0
  have hS : va_S (fun q => lo ≤ q) s.heap s.heap [] := va_S.rf
  have hAlo : ∀ q, (fun q => lo ≤ q) q → lo ≤ q := fun _ h => h
  have hL : ∀ q ∈ ([] : List Loc), (fun _ : Addr => False) q.base := fun q h => by cases h
  have hP : va_P D vwCl [] s.heap := hP
  have hl := lv_entry ([.ref b0, .int (nI k)]) (n := 2) (Nat.le_of_ble_eq_true rfl)
  rw [lg_entry_eq]
  generalize (lg_sl ([.ref b0, .int (nI k)]) ++ List.replicate (2 - (lg_sl ([.ref b0, .int (nI k)])).length) Slot.unset).toArray = ls at hl ⊢
  have hl : lv_has ls 2 [(0, .ref b0), (1, .int (nI k))] := hl
  refine lv_iload_n hx hb dL_cell_0 rfl (lv_at hl 1 rfl) ?_
  refine lv_aload_n hx hb dL_cell_1 rfl (lv_at hl 0 rfl) ?_
  refine va_slen hx hb hX0.2.1 (Nat.lt_of_lt_of_le hX0.1 hC.1) (fun q => absurd (hAlo _ q) (Nat.not_le.mpr hX0.1)) hS dL_cell_2 ?_
  refine lv_toi (y := nI L0) rfl ?_
  refine lv_icmp_ge (tgt := 12) hx hb dL_cell_3 (by decide) (fun c_1 => ?_) (fun c_1 => ?_)
  · refine lv_ldc hx hb (v := 790386105) hown (hts (.constant RL 8 (790386105)) (by decide +kernel)) dL_cell_12 ?_
    refine lv_iload_n hx hb dL_cell_14 rfl (lv_at hl 1 rfl) ?_
    refine lv_iconst (v := 3) hx hb dL_cell_15 (by decide) ?_
    refine lv_iadd hx hb dL_cell_16 ?_
    refine lv_toi (y := nI (k + 3)) (nI_add k 3) ?_
    refine lv_imul hx hb dL_cell_17 ?_
    refine lv_toi (y := nI (790386105 * (k + 3))) (sg_mulN 790386105 (k + 3)) ?_
    exact W.iret (v := (nI (790386105 * (k + 3)))) hx hb hr (fun t ht hW => ⟨(nI (790386105 * (k + 3))), rfl, trivial, ht⟩) hL dL_cell_18
  · have hkl : k < L0 := sg_lt (B := nI L0) rfl c_1 hk0
    refine lv_aload_n hx hb dL_cell_6 rfl (lv_at hl 0 rfl) ?_
    refine lv_iload_n hx hb dL_cell_7 rfl (lv_at hl 1 rfl) ?_
    refine va_sld hx hb hX0.2.1 (Nat.lt_of_lt_of_le hX0.1 hC.1) (fun q => absurd (hAlo _ q) (Nat.not_le.mpr hX0.1)) hS (vp_in_nI (by omega) (by omega)) dL_cell_8 ?_
    refine lv_topi (fun y_2 _ => ?_)
    refine lv_goto (tgt := 18) hx hb dL_cell_9 (by decide) ?_
    exact W.iret (v := y_2) hx hb hr (fun t ht hW => ⟨y_2, rfl, trivial, ht⟩) hL dL_cell_18

set_option maxHeartbeats 4000000 in
set_option maxRecDepth 100000 in
/-- X9_draw -/
theorem c_draw (l : Launch) (D : va_G) (cI cZ cJ : ClassId) (lo sz : Nat) (b0 L0 : Nat) (xs : Nat → Int32) (st : Nat) (dd : Nat) (nn : Nat) (f_m : Nat) (f_items : Int32) (f_price : Nat) (f_life : Nat) (f_pack : Nat) (f_route : Nat) (f_policy : Nat) (f_transports : Int32) (f_transport : Nat) (f_sites : Int32) (f_room : Nat) (f_day : Int32) (f_lots : Int32) (f_lot : Nat) (f_orders : Int32) (f_order : Nat) (f_reserved : Nat) (f_earned : Int32) (f_spent : Int32) (f_waste : Int32) (f_lacking : Int32) (f_holding : Int32) (hn0 : 0 < nn) (hn1 : nn < 2 ^ 31) (hd0 : dd < 100000) : Met l yX9_draw wsX9_draw ({ frames := 1, cells := 0, slots := 0, locals := 21 }) (sg_PreS b0 L0 xs lo D cI cZ cJ [.ref st, .int (nI nn)] sz [(st, .inr (9, [.ref f_m, .ref b0, .int (nI dd), .int f_items, .ref f_price, .ref f_life, .ref f_pack, .ref f_route, .ref f_policy, .int f_transports, .ref f_transport, .int f_sites, .ref f_room, .int f_day, .int f_lots, .ref f_lot, .int f_orders, .ref f_order, .ref f_reserved, .int f_earned, .int f_spent, .int f_waste, .int f_lacking, .int f_holding]))]) (va_Qi (fun (r : Int32) (_ : Unit) => ∃ k9, k9 < nn ∧ r = nI k9) (fun _ t => va_P D vwCl [(st, .inr (9, [.ref f_m, .ref b0, .int (nI (dd + 1)), .int f_items, .ref f_price, .ref f_life, .ref f_pack, .ref f_route, .ref f_policy, .int f_transports, .ref f_transport, .int f_sites, .ref f_room, .int f_day, .int f_lots, .ref f_lot, .int f_orders, .ref f_order, .ref f_reserved, .int f_earned, .int f_spent, .int f_waste, .int f_lacking, .int f_holding]))] t.heap ∧ va_D (va_A [(st, .inr (9, [.ref f_m, .ref b0, .int (nI dd), .int f_items, .ref f_price, .ref f_life, .ref f_pack, .ref f_route, .ref f_policy, .int f_transports, .ref f_transport, .int f_sites, .ref f_room, .int f_day, .int f_lots, .ref f_lot, .int f_orders, .ref f_order, .ref f_reserved, .int f_earned, .int f_spent, .int f_waste, .int f_lacking, .int f_holding]))] sz) [(st, .inr (9, [.ref f_m, .ref b0, .int (nI (dd + 1)), .int f_items, .ref f_price, .ref f_life, .ref f_pack, .ref f_route, .ref f_policy, .int f_transports, .ref f_transport, .int f_sites, .ref f_room, .int f_day, .int f_lots, .ref f_lot, .int f_orders, .ref f_order, .ref f_reserved, .int f_earned, .int f_spent, .int f_waste, .int f_lacking, .int f_holding]))]) (va_A [(st, .inr (9, [.ref f_m, .ref b0, .int (nI dd), .int f_items, .ref f_price, .ref f_life, .ref f_pack, .ref f_route, .ref f_policy, .int f_transports, .ref f_transport, .int f_sites, .ref f_room, .int f_day, .int f_lots, .ref f_lot, .int f_orders, .ref f_order, .ref f_reserved, .int f_earned, .int f_spent, .int f_waste, .int f_lacking, .int f_holding]))] sz)) 0 0 (va_A [(st, .inr (9, [.ref f_m, .ref b0, .int (nI dd), .int f_items, .ref f_price, .ref f_life, .ref f_pack, .ref f_route, .ref f_policy, .int f_transports, .ref f_transport, .int f_sites, .ref f_room, .int f_day, .int f_lots, .ref f_lot, .int f_orders, .ref f_order, .ref f_reserved, .int f_earned, .int f_spent, .int f_waste, .int f_lacking, .int f_holding]))] sz) := by
  refine Met.ofW (cc := cX9_draw) (maxL := 3) (ret := (some .int)) (by decide) rfl ?_
  intro p e s m args below meth c s₁ B hml hv
  obtain ⟨rfl, hsz, hP, hD0, hC, hX0⟩ := hv
  have hx := B.exec
  have hb := B.bytes
  have hr := B.returns
  have hts := atoms_spec (ws := wsX9_draw) B.pre
  have hown : s.vm.findClass RX9 = some m.cls := findClass_of_methodNamed B.named
  have hlocks := B.notSynchronized
  subst hsz
  have hK := hC.K
  have hD := hD0.self (sz := s.heap.size)
  have hAlo0 := va_A_lo hD0 hC.1
  generalize hAe : va_A [(st, .inr (9, [.ref f_m, .ref b0, .int (nI dd), .int f_items, .ref f_price, .ref f_life, .ref f_pack, .ref f_route, .ref f_policy, .int f_transports, .ref f_transport, .int f_sites, .ref f_room, .int f_day, .int f_lots, .ref f_lot, .int f_orders, .ref f_order, .ref f_reserved, .int f_earned, .int f_spent, .int f_waste, .int f_lacking, .int f_holding]))] s.heap.size = A at hD hAlo0 ⊢
  have hA : ∀ q : Nat, s.heap.size ≤ q → A q := fun q h => by rw [← hAe]; exact Or.inr h
  have hAlo : ∀ q, A q → lo ≤ q := hAlo0
  have hS : va_S A s.heap s.heap [] := va_S.rf
  have hP : va_P D vwCl [(st, .inr (9, [.ref f_m, .ref b0, .int (nI dd), .int f_items, .ref f_price, .ref f_life, .ref f_pack, .ref f_route, .ref f_policy, .int f_transports, .ref f_transport, .int f_sites, .ref f_room, .int f_day, .int f_lots, .ref f_lot, .int f_orders, .ref f_order, .ref f_reserved, .int f_earned, .int f_spent, .int f_waste, .int f_lacking, .int f_holding]))] s.heap := hP
  have hl := lv_entry ([.ref st, .int (nI nn)]) (n := 3) (Nat.le_of_ble_eq_true rfl)
  rw [lg_entry_eq]
  generalize (lg_sl ([.ref st, .int (nI nn)]) ++ List.replicate (3 - (lg_sl ([.ref st, .int (nI nn)])).length) Slot.unset).toArray = ls at hl ⊢
  have hl : lv_has ls 3 [(0, .ref st), (1, .int (nI nn))] := hl
  have in9 : ∀ w ∈ u_ws RX9 TX9 24, w ∈ wsX9_draw := by decide +kernel
  refine lv_aload_n hx hb dX9_draw_0 rfl (lv_at hl 0 rfl) ?_
  refine va_get (D := D) (ci := 9) (v := .ref b0) (C := RX9) (T := TX9) (N := 24) hx hb hts in9 hown hK hP 0 rfl rfl 1 (by decide) (hts (.fieldLink RX9 50 "GranaryLaw$Store" "s" "[I") (by decide +kernel)) (fun _ h9 => h9) rfl dX9_draw_1 ?_
  refine lv_aload_n hx hb dX9_draw_4 rfl (lv_at hl 0 rfl) ?_
  refine va_get (D := D) (ci := 9) (v := .int (nI dd)) (C := RX9) (T := TX9) (N := 24) hx hb hts in9 hown hK hP 0 rfl rfl 2 (by decide) (hts (.fieldLink RX9 53 "GranaryLaw$Store" "draws" "I") (by decide +kernel)) (fun _ h9 => h9) rfl dX9_draw_5 ?_
  refine lv_bipush (v := 24) hx hb dX9_draw_8 (by decide) ?_
  refine lv_irem hx hb dX9_draw_10 (by decide) ?_
  refine lv_toi (y := nI (dd % 24)) (sg_remN (a := dd) (b := 24) (by omega) (by omega) (by omega)) ?_
  have hPc := hP.sub (ws' := []) [] rfl
  have hDc := hD.sub (ws' := []) [] (by decide) rfl
  refine vp_callSi (sg_dr (va_runSN (As := [.ref b0, .int (nI (dd % 24))]) (rest := []) ⟨hx, hb, hml, hown, hts⟩ (c_cell l D cI cZ cJ lo s.heap.size b0 L0 xs (dd % 24) (by omega)) ⟨va_cnB 2 hts gX9_draw_L_cell_n57 rfl rfl rfl (hC.nestX9_57) (hts (.initialized RL) (by decide +kernel)) (by decide +kernel) ⟨(Nat.le_of_ble_eq_true rfl), (Nat.le_of_ble_eq_true rfl)⟩, (hts (.static yL_cell) (by decide +kernel)), trivial⟩ ⟨sg_PreS.blind, sg_PreS.mk hPc (hDc.weaken (fun _ _ _ h => hAlo _ h)) hC hS hAlo hX0⟩ rfl rfl hl.1 rfl (lv_room (Nat.le_of_ble_eq_true rfl)) dX9_draw_11 ⟨(Nat.le_of_ble_eq_true rfl), (Nat.le_of_ble_eq_true rfl)⟩)) (fun r_1 e_2 => ?_)
  clear hPc hDc
  have e_2 : True := e_2
  refine lv_aload_n hx hb dX9_draw_14 rfl (lv_at hl 0 rfl) ?_
  refine va_get (D := D) (ci := 9) (v := .int (nI dd)) (C := RX9) (T := TX9) (N := 24) hx hb hts in9 hown hK hP 0 rfl rfl 2 (by decide) (hts (.fieldLink RX9 53 "GranaryLaw$Store" "draws" "I") (by decide +kernel)) (fun _ h9 => h9) rfl dX9_draw_15 ?_
  refine lv_bipush (v := 24) hx hb dX9_draw_18 (by decide) ?_
  refine lv_idiv hx hb dX9_draw_20 (by decide) ?_
  refine lv_toi (y := nI (dd / 24)) (sg_divN (a := dd) (b := 24) (by omega) (by omega) (by omega)) ?_
  refine lv_bipush (v := 8) hx hb dX9_draw_21 (by decide) ?_
  refine lv_irem hx hb dX9_draw_23 (by decide) ?_
  refine lv_toi (y := nI ((dd / 24) % 8)) (sg_remN (a := dd / 24) (b := 8) (by omega) (by omega) (by omega)) ?_
  refine lv_ishr hx hb dX9_draw_24 ?_
  refine lv_topi (fun y_3 _ => ?_)
  refine lv_bipush (v := 59) hx hb dX9_draw_25 (by decide) ?_
  refine lv_aload_n hx hb dX9_draw_27 rfl (lv_at hl 0 rfl) ?_
  refine va_get (D := D) (ci := 9) (v := .int (nI dd)) (C := RX9) (T := TX9) (N := 24) hx hb hts in9 hown hK hP 0 rfl rfl 2 (by decide) (hts (.fieldLink RX9 53 "GranaryLaw$Store" "draws" "I") (by decide +kernel)) (fun _ h9 => h9) rfl dX9_draw_28 ?_
  refine lv_imul hx hb dX9_draw_31 ?_
  refine lv_toi (y := nI (59 * dd)) (sg_mulN 59 dd) ?_
  refine lv_iadd hx hb dX9_draw_32 ?_
  refine lv_iload_n hx hb dX9_draw_33 rfl (lv_at hl 1 rfl) ?_
  have hPc := hP.sub (ws' := []) [] rfl
  have hDc := hD.sub (ws' := []) [] (by decide) rfl
  refine vp_callSi (sg_dr (va_runSN (As := [.int (y_3 + (nI (59 * dd))), .int (nI nn)]) (rest := []) ⟨hx, hb, hml, hown, hts⟩ (c_below l D cI cZ cJ lo s.heap.size (y_3 + (nI (59 * dd))) nn (by omega) (by omega)) ⟨va_cnB 2 hts gX9_draw_L_below_n63 rfl rfl rfl (hC.nestX9_63) (hts (.initialized RL) (by decide +kernel)) (by decide +kernel) ⟨(Nat.le_of_ble_eq_true rfl), (Nat.le_of_ble_eq_true rfl)⟩, (hts (.static yL_below) (by decide +kernel)), trivial⟩ ⟨Pre.blind, Pre.mk hPc (hDc.weaken (fun _ _ _ h => hAlo _ h)) hC hS hAlo⟩ rfl rfl hl.1 rfl (lv_room (Nat.le_of_ble_eq_true rfl)) dX9_draw_34 ⟨(Nat.le_of_ble_eq_true rfl), (Nat.le_of_ble_eq_true rfl)⟩)) (fun r_4 e_5 => ?_)
  clear hPc hDc
  have e_5 : ∃ k9, k9 < nn ∧ r_4 = nI k9 := e_5
  obtain ⟨k_6, hk_6, ek_6⟩ := e_5
  subst ek_6
  refine lv_istore_n (lv' := [(2, .int (nI k_6)), (0, .ref st), (1, .int (nI nn))]) hx hb dX9_draw_37 rfl hl (by decide) rfl (fun ls hl => ?_)
  refine lv_aload_n hx hb dX9_draw_38 rfl (lv_at hl 1 rfl) ?_
  refine lv_dup hx hb dX9_draw_39 rfl ?_
  refine va_get (D := D) (ci := 9) (v := .int (nI dd)) (C := RX9) (T := TX9) (N := 24) hx hb hts in9 hown hK hP 0 rfl rfl 2 (by decide) (hts (.fieldLink RX9 53 "GranaryLaw$Store" "draws" "I") (by decide +kernel)) (fun _ h9 => h9) rfl dX9_draw_40 ?_
  refine lv_iconst (v := 1) hx hb dX9_draw_43 (by decide) ?_
  refine lv_iadd hx hb dX9_draw_44 ?_
  refine lv_toi (y := nI (dd + 1)) (nI_add dd 1) ?_
  refine va_put (D := D) (ci := 9) (v := .int (nI (dd + 1))) (ty := .int) (C := RX9) (T := TX9) (N := 24) hx hb hts in9 tyX9 tyX9_ok nmX9 hown hK hP hD hS 0 rfl rfl 2 (by decide) (hts (.fieldLink RX9 53 "GranaryLaw$Store" "draws" "I") (by decide +kernel)) (fun _ h9 => h9) rfl (by decide +kernel) rfl rfl (Nat.le_of_ble_eq_true rfl) dX9_draw_45 (fun H locs hP hD hS => ?_)
  replace hP : va_P D vwCl [(st, .inr (9, [.ref f_m, .ref b0, .int (nI (dd + 1)), .int f_items, .ref f_price, .ref f_life, .ref f_pack, .ref f_route, .ref f_policy, .int f_transports, .ref f_transport, .int f_sites, .ref f_room, .int f_day, .int f_lots, .ref f_lot, .int f_orders, .ref f_order, .ref f_reserved, .int f_earned, .int f_spent, .int f_waste, .int f_lacking, .int f_holding]))] H := hP
  replace hD : va_D A [(st, .inr (9, [.ref f_m, .ref b0, .int (nI (dd + 1)), .int f_items, .ref f_price, .ref f_life, .ref f_pack, .ref f_route, .ref f_policy, .int f_transports, .ref f_transport, .int f_sites, .ref f_room, .int f_day, .int f_lots, .ref f_lot, .int f_orders, .ref f_order, .ref f_reserved, .int f_earned, .int f_spent, .int f_waste, .int f_lacking, .int f_holding]))] := hD
  refine lv_iload_n hx hb dX9_draw_48 rfl (lv_at hl 0 rfl) ?_
  refine W.widen (k := 0) (n := 0) (by omega) (by omega) ?_
  have hP9 : va_P D vwCl [(st, .inr (9, [.ref f_m, .ref b0, .int (nI (dd + 1)), .int f_items, .ref f_price, .ref f_life, .ref f_pack, .ref f_route, .ref f_policy, .int f_transports, .ref f_transport, .int f_sites, .ref f_room, .int f_day, .int f_lots, .ref f_lot, .int f_orders, .ref f_order, .ref f_reserved, .int f_earned, .int f_spent, .int f_waste, .int f_lacking, .int f_holding]))] H := by exact hP
  have hD9 : va_D A [(st, .inr (9, [.ref f_m, .ref b0, .int (nI (dd + 1)), .int f_items, .ref f_price, .ref f_life, .ref f_pack, .ref f_route, .ref f_policy, .int f_transports, .ref f_transport, .int f_sites, .ref f_room, .int f_day, .int f_lots, .ref f_lot, .int f_orders, .ref f_order, .ref f_reserved, .int f_earned, .int f_spent, .int f_waste, .int f_lacking, .int f_holding]))] := by exact hD
  exact W.iret (v := (nI k_6)) hx hb hr (fun t ht hW => ⟨⟨(nI k_6), (), rfl, ⟨_, hk_6, rfl⟩, by rw [ht]; exact hP9, hD9⟩, hS.F ht⟩) hS.2.2 dX9_draw_49

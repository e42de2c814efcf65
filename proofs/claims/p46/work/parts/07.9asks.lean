theorem sg_nar {P : sg_Pic} (hw : sg_W P) (j : Nat) : narrow .boolean (.int (P 30 j)) = .int (P 30 j) := by
  rcases hw.z j with h | h <;> rw [h] <;> decide
theorem sg_hasI {P : sg_Pic} {x : Int32} (hw : sg_W P) (c : ¬ (sg_X0_has P x = 0)) : x = nI (Int32.toNatClampNeg x) ∧ Int32.toNatClampNeg x < sg_cn P 1 := by
  unfold sg_X0_has at c
  split at c
  · exact absurd rfl c
  · split at c
    · exact absurd rfl c
    · rename_i h0 h1
      exact sg_ix hw.e1 (Nat.lt_of_le_of_lt hw.n1 (by decide)) h0 h1
theorem sg_hasS {P : sg_Pic} {x : Int32} (hw : sg_W P) (c : ¬ (sg_X5_has P x = 0)) : x = nI (Int32.toNatClampNeg x) ∧ Int32.toNatClampNeg x < sg_cn P 2 := by
  unfold sg_X5_has at c
  split at c
  · exact absurd rfl c
  · split at c
    · exact absurd rfl c
    · rename_i h0 h1
      exact sg_ix hw.e2 (Nat.lt_of_le_of_lt hw.n2 (by decide)) h0 h1
theorem sg_hasI1 {P : sg_Pic} {j : Nat} (hw : sg_W P) (h : j < sg_cn P 1) : ¬ (sg_X0_has P (nI j) = 0) := by
  have h6 := hw.n1
  unfold sg_X0_has
  rw [if_neg (nI_pos (by omega)), if_neg (sg_nge hw.e1 h (by omega))]
  decide
theorem sg_hasS1 {P : sg_Pic} {j : Nat} (hw : sg_W P) (h : j < sg_cn P 2) : ¬ (sg_X5_has P (nI j) = 0) := by
  have h6 := hw.n2
  unfold sg_X5_has
  rw [if_neg (nI_pos (by omega)), if_neg (sg_nge hw.e2 h (by omega))]
  decide
theorem sg_hasL1 {P : sg_Pic} {j : Nat} (hw : sg_W P) (h : j < sg_cn P 3) : ¬ (sg_X1_has P (nI j) = 0) := by
  have h6 := hw.n3
  unfold sg_X1_has
  rw [if_neg (nI_pos (by omega)), if_neg (sg_nge hw.e3 h (by omega))]
  decide
theorem sg_hasO1 {P : sg_Pic} {j : Nat} (hw : sg_W P) (h : j < sg_cn P 4) : ¬ (sg_X2_has P (nI j) = 0) := by
  have h6 := hw.n4
  unfold sg_X2_has
  rw [if_neg (nI_pos (by omega)), if_neg (sg_nge hw.e4 h (by omega))]
  decide
theorem sg_full_lt {P : sg_Pic} (hw : sg_W P) (c : sg_full P = 0) : sg_cn P 5 < 90 := by
  unfold sg_full at c
  split at c
  · rename_i h
    have h5 := hw.n5
    rw [hw.e5] at h
    rcases Nat.lt_or_ge (sg_cn P 5) 90 with q | q
    · exact q
    · exact absurd h (nI_nlt q (by omega))
  · exact absurd c (by decide)

def sg_stands (P : sg_Pic) (xi : Nat) (xs : Nat) : Int32 := (P 30 ((xi * 5) + xs))

set_option maxHeartbeats 4000000 in
set_option maxRecDepth 100000 in
/-- X4_stands -/
theorem c_stands (l : Launch) (D : va_G) (cI cZ cJ : ClassId) (lo sz : Nat) (a : Nat → Nat) (P : sg_Pic) (xi : Nat) (xs : Nat) (hw : sg_W P) (hi : xi < 6) (hs : xs < 5) : Met l yX4_stands wsX4_stands ({ frames := 1, cells := 0, slots := 0, locals := 21 }) (Pre lo D cI cZ cJ [.ref (a 3), .int (nI xi), .int (nI xs)] sz [(a 3, .inr (4, [.ref (a 30), .ref (a 31), .ref (a 32), .ref (a 33), .ref (a 34)])), (a 30, .inl (cZ, 30, .inl (P 30)))]) (vp_Si (fun r => r = sg_stands P xi xs)) 0 0 (fun _ => False) := by
  refine Met.ofW (cc := cX4_stands) (maxL := 3) (ret := (some .boolean)) (by decide) rfl ?_
  intro p e s m args below meth c s₁ B hml hv
  obtain ⟨rfl, hsz, hP, hD0, hC⟩ := hv
  have hx := B.exec
  have hb := B.bytes
  have hr := B.returns
  have hts := atoms_spec (ws := wsX4_stands) B.pre
  have hown : s.vm.findClass RX4 = some m.cls := findClass_of_methodNamed B.named
  have hlocks := B.notSynchronized
  subst hsz
  have hn1 : sg_cn P 1 ≤ 6 := hw.n1
  have hn2 : sg_cn P 2 ≤ 5 := hw.n2
  have hn3 : sg_cn P 3 ≤ 200 := hw.n3
  have hn4 : sg_cn P 4 ≤ 60 := hw.n4
  have hn5 : sg_cn P 5 ≤ 90 := hw.n5
  have hK := hC.K
  have hD := hD0
  have hS : va_S (fun q => lo ≤ q) s.heap s.heap [] := va_S.rf
  have hAlo : ∀ q, (fun q => lo ≤ q) q → lo ≤ q := fun _ h => h
  have hL : ∀ q ∈ ([] : List Loc), (fun _ : Addr => False) q.base := fun q h => by cases h
  have hP : va_P D vwCl [(a 3, .inr (4, [.ref (a 30), .ref (a 31), .ref (a 32), .ref (a 33), .ref (a 34)])), (a 30, .inl (cZ, 30, .inl (P 30)))] s.heap := hP
  have hl := lv_entry ([.ref (a 3), .int (nI xi), .int (nI xs)]) (n := 3) (Nat.le_of_ble_eq_true rfl)
  rw [lg_entry_eq]
  generalize (lg_sl ([.ref (a 3), .int (nI xi), .int (nI xs)]) ++ List.replicate (3 - (lg_sl ([.ref (a 3), .int (nI xi), .int (nI xs)])).length) Slot.unset).toArray = ls at hl ⊢
  have hl : lv_has ls 3 [(0, .ref (a 3)), (1, .int (nI xi)), (2, .int (nI xs))] := hl
  have in4 : ∀ w ∈ u_ws RX4 TX4 5, w ∈ wsX4_stands := by decide +kernel
  refine lv_aload_n hx hb dX4_stands_0 rfl (lv_at hl 0 rfl) ?_
  refine va_get (D := D) (ci := 4) (v := .ref (a 30)) (C := RX4) (T := TX4) (N := 5) hx hb hts in4 hown hK hP 0 rfl rfl 0 (by decide) (hts (.fieldLink RX4 11 "Granary$Policies" "set" "[Z") (by decide +kernel)) (fun _ h9 => h9) rfl dX4_stands_1 ?_
  refine lv_iload_n hx hb dX4_stands_4 rfl (lv_at hl 1 rfl) ?_
  refine lv_iload_n hx hb dX4_stands_5 rfl (lv_at hl 2 rfl) ?_
  have hPc := hP.sub (ws' := []) [] rfl
  have hDc := hD.sub (ws' := []) [] (by decide) rfl
  refine vp_callSi (sg_dr (va_runSN (As := [.int (nI xi), .int (nI xs)]) (rest := [.ref (a 30)]) ⟨hx, hb, hml, hown, hts⟩ (c_pair l D cI cZ cJ lo s.heap.size xi xs) ⟨va_cnB 2 hts gX4_stands_X8_pair_n28 rfl rfl rfl (hC.nestX4_28) (hts (.initialized RX8) (by decide +kernel)) (by decide +kernel) ⟨(Nat.le_of_ble_eq_true rfl), (Nat.le_of_ble_eq_true rfl)⟩, (hts (.static yX8_pair) (by decide +kernel)), trivial⟩ ⟨Pre.blind, Pre.mk hPc (hDc.weaken (fun _ _ _ h => hAlo _ h)) hC hS hAlo⟩ rfl rfl hl.1 rfl (lv_room (Nat.le_of_ble_eq_true rfl)) dX4_stands_6 ⟨(Nat.le_of_ble_eq_true rfl), (Nat.le_of_ble_eq_true rfl)⟩)) (fun r_1 e_2 => ?_)
  clear hPc hDc
  have e_2 : nI ((xi * 5) + xs) = r_1 := Eq.symm e_2
  subst e_2
  refine sg_zald hx hb hK hP 1 1 rfl rfl (j := (xi * 5) + xs) rfl (by omega) (Nat.le_of_ble_eq_true rfl) dX4_stands_9 ?_
  refine lv_toi (y := P 30 ((xi * 5) + xs)) rfl ?_
  exact W.zret (ty := .boolean) (v := (P 30 ((xi * 5) + xs))) hx hb hr (sg_nar hw _) (fun t ht hW => ⟨(P 30 ((xi * 5) + xs)), rfl, rfl, ht⟩) hL dX4_stands_10

def sg_priceOf (P : sg_Pic) (x : Int32) : Int32 := (if (sg_X0_has P x) = 0 then 0 else (P 11 (Int32.toNatClampNeg x)))

set_option maxHeartbeats 4000000 in
set_option maxRecDepth 100000 in
/-- X0_priceOf -/
theorem c_priceOf (l : Launch) (D : va_G) (cI cZ cJ : ClassId) (lo sz : Nat) (a : Nat → Nat) (P : sg_Pic) (x : Int32) (hw : sg_W P) : Met l yX0_priceOf wsX0_priceOf ({ frames := 1, cells := 0, slots := 0, locals := 21 }) (Pre lo D cI cZ cJ [.ref (a 1), .int x] sz [(a 1, .inr (0, [.int (P 0 1), .ref (a 10), .ref (a 11), .ref (a 12), .ref (a 13)])), (a 11, .inl (cI, 6, .inl (P 11)))]) (vp_Si (fun r => r = sg_priceOf P x)) 0 0 (fun _ => False) := by
  refine Met.ofW (cc := cX0_priceOf) (maxL := 2) (ret := (some .int)) (by decide) rfl ?_
  intro p e s m args below meth c s₁ B hml hv
  obtain ⟨rfl, hsz, hP, hD0, hC⟩ := hv
  have hx := B.exec
  have hb := B.bytes
  have hr := B.returns
  have hts := atoms_spec (ws := wsX0_priceOf) B.pre
  have hown : s.vm.findClass RX0 = some m.cls := findClass_of_methodNamed B.named
  have hlocks := B.notSynchronized
  subst hsz
  have hn1 : sg_cn P 1 ≤ 6 := hw.n1
  have hn2 : sg_cn P 2 ≤ 5 := hw.n2
  have hn3 : sg_cn P 3 ≤ 200 := hw.n3
  have hn4 : sg_cn P 4 ≤ 60 := hw.n4
  have hn5 : sg_cn P 5 ≤ 90 := hw.n5
  have hK := hC.K
  have hD := hD0
  have hS : va_S (fun q => lo ≤ q) s.heap s.heap [] := va_S.rf
  have hAlo : ∀ q, (fun q => lo ≤ q) q → lo ≤ q := fun _ h => h
  have hL : ∀ q ∈ ([] : List Loc), (fun _ : Addr => False) q.base := fun q h => by cases h
  have hP : va_P D vwCl [(a 1, .inr (0, [.int (P 0 1), .ref (a 10), .ref (a 11), .ref (a 12), .ref (a 13)])), (a 11, .inl (cI, 6, .inl (P 11)))] s.heap := hP
  have hl := lv_entry ([.ref (a 1), .int x]) (n := 2) (Nat.le_of_ble_eq_true rfl)
  rw [lg_entry_eq]
  generalize (lg_sl ([.ref (a 1), .int x]) ++ List.replicate (2 - (lg_sl ([.ref (a 1), .int x])).length) Slot.unset).toArray = ls at hl ⊢
  have hl : lv_has ls 2 [(0, .ref (a 1)), (1, .int x)] := hl
  have in0 : ∀ w ∈ u_ws RX0 TX0 5, w ∈ wsX0_priceOf := by decide +kernel
  refine lv_aload_n hx hb dX0_priceOf_0 rfl (lv_at hl 0 rfl) ?_
  refine lv_iload_n hx hb dX0_priceOf_1 rfl (lv_at hl 1 rfl) ?_
  have hPc := hP.sub (ws' := [(a 1, .inr (0, [.int (P 0 1), .ref (a 10), .ref (a 11), .ref (a 12), .ref (a 13)]))]) [0] rfl
  have hDc := hD.sub (ws' := [(a 1, .inr (0, [.int (P 0 1), .ref (a 10), .ref (a 11), .ref (a 12), .ref (a 13)]))]) [0] (by decide) rfl
  refine vp_callSi (W.runV (As := [.int x]) (rest := []) ⟨hx, hb, hml, hown, hts⟩ (c_X0_has l D cI cZ cJ lo s.heap.size a P x) (cwV 1 hts gX0_priceOf_X0_has rfl rfl rfl (by decide +kernel) ⟨(Nat.le_of_ble_eq_true rfl), (Nat.le_of_ble_eq_true rfl)⟩) ⟨Pre.blind, va_recv hK hP (ci := 0) (q0 := 0) rfl rfl, Pre.mk hPc (hDc.weaken (fun _ _ _ h => hAlo _ h)) hC hS hAlo⟩ rfl rfl hl.1 rfl (lv_room (Nat.le_of_ble_eq_true rfl)) dX0_priceOf_2 ⟨(Nat.le_of_ble_eq_true rfl), (Nat.le_of_ble_eq_true rfl)⟩) (fun r_1 e_2 => ?_)
  clear hPc hDc
  have e_2 : sg_X0_has P x = r_1 := Eq.symm e_2
  subst e_2
  refine lv_if_eq (tgt := 17) hx hb dX0_priceOf_5 (by decide) (fun c_3 => ?_) (fun c_3 => ?_)
  · refine lv_iconst (v := 0) hx hb dX0_priceOf_17 (by decide) ?_
    exact W.iret (v := 0) hx hb hr (fun t ht hW => ⟨0, rfl, (show (0 : Int32) = sg_priceOf P x from by rw [sg_priceOf, if_pos c_3]), ht⟩) hL dX0_priceOf_18
  · obtain ⟨e_4, le_4⟩ := sg_hasI hw c_3
    have e_4 : (x : Int32) = nI (Int32.toNatClampNeg x) := e_4
    have le_4 : Int32.toNatClampNeg x < sg_cn P 1 := le_4
    replace hl : lv_has ls 2 [(0, .ref (a 1)), (1, .int (nI (Int32.toNatClampNeg x)))] := by rw [← e_4]; exact hl
    refine lv_aload_n hx hb dX0_priceOf_8 rfl (lv_at hl 0 rfl) ?_
    refine va_get (D := D) (ci := 0) (v := .ref (a 11)) (C := RX0) (T := TX0) (N := 5) hx hb hts in0 hown hK hP 0 rfl rfl 2 (by decide) (hts (.fieldLink RX0 15 "Granary$Items" "price" "[I") (by decide +kernel)) (fun _ h9 => h9) rfl dX0_priceOf_9 ?_
    refine lv_iload_n hx hb dX0_priceOf_12 rfl (lv_at hl 1 rfl) ?_
    refine sg_iald hx hb hK hP 1 0 rfl rfl (j := Int32.toNatClampNeg x) rfl (by omega) (Nat.le_of_ble_eq_true rfl) dX0_priceOf_13 ?_
    refine lv_toi (y := P 11 (Int32.toNatClampNeg x)) rfl ?_
    refine lv_goto (tgt := 18) hx hb dX0_priceOf_14 (by decide) ?_
    exact W.iret (v := (P 11 (Int32.toNatClampNeg x))) hx hb hr (fun t ht hW => ⟨(P 11 (Int32.toNatClampNeg x)), rfl, (show (P 11 (Int32.toNatClampNeg x) : Int32) = sg_priceOf P x from by rw [sg_priceOf, if_neg c_3]), ht⟩) hL dX0_priceOf_18

theorem sg_pos0 {x : Int32} (h : ¬ (x ≤ 0)) : ¬ x = 0 := fun e => h (by rw [e]; decide)
theorem sg_pos1 {x : Int32} (h : 0 < x) : ¬ x = 0 := fun e => by rw [e] at h; exact absurd h (by decide)

def sg_inPacks (P : sg_Pic) (x : Int32) (y : Int32) : Int32 := (if (sg_X0_has P x) = 0 then y else (if 0 < (P 12 (Int32.toNatClampNeg x)) then (if (y - y / (P 12 (Int32.toNatClampNeg x)) * (P 12 (Int32.toNatClampNeg x))) = 0 then y else ((y + (P 12 (Int32.toNatClampNeg x))) - (y - y / (P 12 (Int32.toNatClampNeg x)) * (P 12 (Int32.toNatClampNeg x))))) else y))

set_option maxHeartbeats 4000000 in
set_option maxRecDepth 100000 in
/-- X0_inPacks -/
theorem c_inPacks (l : Launch) (D : va_G) (cI cZ cJ : ClassId) (lo sz : Nat) (a : Nat → Nat) (P : sg_Pic) (x : Int32) (y : Int32) (hw : sg_W P) : Met l yX0_inPacks wsX0_inPacks ({ frames := 1, cells := 0, slots := 0, locals := 21 }) (Pre lo D cI cZ cJ [.ref (a 1), .int x, .int y] sz [(a 1, .inr (0, [.int (P 0 1), .ref (a 10), .ref (a 11), .ref (a 12), .ref (a 13)])), (a 12, .inl (cI, 6, .inl (P 12)))]) (vp_Si (fun r => r = sg_inPacks P x y)) 0 0 (fun _ => False) := by
  refine Met.ofW (cc := cX0_inPacks) (maxL := 4) (ret := (some .int)) (by decide) rfl ?_
  intro p e s m args below meth c s₁ B hml hv
  obtain ⟨rfl, hsz, hP, hD0, hC⟩ := hv
  have hx := B.exec
  have hb := B.bytes
  have hr := B.returns
  have hts := atoms_spec (ws := wsX0_inPacks) B.pre
  have hown : s.vm.findClass RX0 = some m.cls := findClass_of_methodNamed B.named
  have hlocks := B.notSynchronized
  subst hsz
  have hn1 : sg_cn P 1 ≤ 6 := hw.n1
  have hn2 : sg_cn P 2 ≤ 5 := hw.n2
  have hn3 : sg_cn P 3 ≤ 200 := hw.n3
  have hn4 : sg_cn P 4 ≤ 60 := hw.n4
  have hn5 : sg_cn P 5 ≤ 90 := hw.n5
  have hK := hC.K
  have hD := hD0
  have hS : va_S (fun q => lo ≤ q) s.heap s.heap [] := va_S.rf
  have hAlo : ∀ q, (fun q => lo ≤ q) q → lo ≤ q := fun _ h => h
  have hL : ∀ q ∈ ([] : List Loc), (fun _ : Addr => False) q.base := fun q h => by cases h
  have hP : va_P D vwCl [(a 1, .inr (0, [.int (P 0 1), .ref (a 10), .ref (a 11), .ref (a 12), .ref (a 13)])), (a 12, .inl (cI, 6, .inl (P 12)))] s.heap := hP
  have hl := lv_entry ([.ref (a 1), .int x, .int y]) (n := 4) (Nat.le_of_ble_eq_true rfl)
  rw [lg_entry_eq]
  generalize (lg_sl ([.ref (a 1), .int x, .int y]) ++ List.replicate (4 - (lg_sl ([.ref (a 1), .int x, .int y])).length) Slot.unset).toArray = ls at hl ⊢
  have hl : lv_has ls 4 [(0, .ref (a 1)), (1, .int x), (2, .int y)] := hl
  have in0 : ∀ w ∈ u_ws RX0 TX0 5, w ∈ wsX0_inPacks := by decide +kernel
  refine lv_aload_n hx hb dX0_inPacks_0 rfl (lv_at hl 0 rfl) ?_
  refine lv_iload_n hx hb dX0_inPacks_1 rfl (lv_at hl 1 rfl) ?_
  have hPc := hP.sub (ws' := [(a 1, .inr (0, [.int (P 0 1), .ref (a 10), .ref (a 11), .ref (a 12), .ref (a 13)]))]) [0] rfl
  have hDc := hD.sub (ws' := [(a 1, .inr (0, [.int (P 0 1), .ref (a 10), .ref (a 11), .ref (a 12), .ref (a 13)]))]) [0] (by decide) rfl
  refine vp_callSi (W.runV (As := [.int x]) (rest := []) ⟨hx, hb, hml, hown, hts⟩ (c_X0_has l D cI cZ cJ lo s.heap.size a P x) (cwV 1 hts gX0_inPacks_X0_has rfl rfl rfl (by decide +kernel) ⟨(Nat.le_of_ble_eq_true rfl), (Nat.le_of_ble_eq_true rfl)⟩) ⟨Pre.blind, va_recv hK hP (ci := 0) (q0 := 0) rfl rfl, Pre.mk hPc (hDc.weaken (fun _ _ _ h => hAlo _ h)) hC hS hAlo⟩ rfl rfl hl.1 rfl (lv_room (Nat.le_of_ble_eq_true rfl)) dX0_inPacks_2 ⟨(Nat.le_of_ble_eq_true rfl), (Nat.le_of_ble_eq_true rfl)⟩) (fun r_1 e_2 => ?_)
  clear hPc hDc
  have e_2 : sg_X0_has P x = r_1 := Eq.symm e_2
  subst e_2
  refine lv_if_eq (tgt := 17) hx hb dX0_inPacks_5 (by decide) (fun c_3 => ?_) (fun c_3 => ?_)
  · refine lv_iload_n hx hb dX0_inPacks_17 rfl (lv_at hl 2 rfl) ?_
    exact W.iret (v := y) hx hb hr (fun t ht hW => ⟨y, rfl, (show (y : Int32) = sg_inPacks P x y from by rw [sg_inPacks, if_pos c_3]), ht⟩) hL dX0_inPacks_18
  · obtain ⟨e_4, le_4⟩ := sg_hasI hw c_3
    have e_4 : (x : Int32) = nI (Int32.toNatClampNeg x) := e_4
    have le_4 : Int32.toNatClampNeg x < sg_cn P 1 := le_4
    replace hl : lv_has ls 4 [(0, .ref (a 1)), (1, .int (nI (Int32.toNatClampNeg x))), (2, .int y)] := by rw [← e_4]; exact hl
    refine lv_aload_n hx hb dX0_inPacks_8 rfl (lv_at hl 0 rfl) ?_
    refine va_get (D := D) (ci := 0) (v := .ref (a 12)) (C := RX0) (T := TX0) (N := 5) hx hb hts in0 hown hK hP 0 rfl rfl 3 (by decide) (hts (.fieldLink RX0 18 "Granary$Items" "pack" "[I") (by decide +kernel)) (fun _ h9 => h9) rfl dX0_inPacks_9 ?_
    refine lv_iload_n hx hb dX0_inPacks_12 rfl (lv_at hl 1 rfl) ?_
    refine sg_iald hx hb hK hP 1 0 rfl rfl (j := Int32.toNatClampNeg x) rfl (by omega) (Nat.le_of_ble_eq_true rfl) dX0_inPacks_13 ?_
    refine lv_toi (y := P 12 (Int32.toNatClampNeg x)) rfl ?_
    refine lv_if_gt (tgt := 19) hx hb dX0_inPacks_14 (by decide) (fun c_5 => ?_) (fun c_5 => ?_)
    · refine lv_iload_n hx hb dX0_inPacks_19 rfl (lv_at hl 2 rfl) ?_
      refine lv_aload_n hx hb dX0_inPacks_20 rfl (lv_at hl 0 rfl) ?_
      refine va_get (D := D) (ci := 0) (v := .ref (a 12)) (C := RX0) (T := TX0) (N := 5) hx hb hts in0 hown hK hP 0 rfl rfl 3 (by decide) (hts (.fieldLink RX0 18 "Granary$Items" "pack" "[I") (by decide +kernel)) (fun _ h9 => h9) rfl dX0_inPacks_21 ?_
      refine lv_iload_n hx hb dX0_inPacks_24 rfl (lv_at hl 1 rfl) ?_
      refine sg_iald hx hb hK hP 1 0 rfl rfl (j := Int32.toNatClampNeg x) rfl (by omega) (Nat.le_of_ble_eq_true rfl) dX0_inPacks_25 ?_
      refine lv_toi (y := P 12 (Int32.toNatClampNeg x)) rfl ?_
      refine lv_irem hx hb dX0_inPacks_26 (sg_pos1 c_5) ?_
      refine lv_istore_n (lv' := [(3, .int (y - y / (P 12 (Int32.toNatClampNeg x)) * (P 12 (Int32.toNatClampNeg x)))), (0, .ref (a 1)), (1, .int (nI (Int32.toNatClampNeg x))), (2, .int y)]) hx hb dX0_inPacks_27 rfl hl (by decide) rfl (fun ls hl => ?_)
      refine lv_iload_n hx hb dX0_inPacks_28 rfl (lv_at hl 0 rfl) ?_
      refine lv_if_ne (tgt := 36) hx hb dX0_inPacks_29 (by decide) (fun c_6 => ?_) (fun c_6 => ?_)
      · refine lv_iload_n hx hb dX0_inPacks_36 rfl (lv_at hl 3 rfl) ?_
        refine lv_aload_n hx hb dX0_inPacks_37 rfl (lv_at hl 1 rfl) ?_
        refine va_get (D := D) (ci := 0) (v := .ref (a 12)) (C := RX0) (T := TX0) (N := 5) hx hb hts in0 hown hK hP 0 rfl rfl 3 (by decide) (hts (.fieldLink RX0 18 "Granary$Items" "pack" "[I") (by decide +kernel)) (fun _ h9 => h9) rfl dX0_inPacks_38 ?_
        refine lv_iload_n hx hb dX0_inPacks_41 rfl (lv_at hl 2 rfl) ?_
        refine sg_iald hx hb hK hP 1 0 rfl rfl (j := Int32.toNatClampNeg x) rfl (by omega) (Nat.le_of_ble_eq_true rfl) dX0_inPacks_42 ?_
        refine lv_toi (y := P 12 (Int32.toNatClampNeg x)) rfl ?_
        refine lv_iadd hx hb dX0_inPacks_43 ?_
        refine lv_iload_n hx hb dX0_inPacks_44 rfl (lv_at hl 0 rfl) ?_
        refine lv_isub hx hb dX0_inPacks_45 ?_
        exact W.iret (v := ((y + (P 12 (Int32.toNatClampNeg x))) - (y - y / (P 12 (Int32.toNatClampNeg x)) * (P 12 (Int32.toNatClampNeg x))))) hx hb hr (fun t ht hW => ⟨((y + (P 12 (Int32.toNatClampNeg x))) - (y - y / (P 12 (Int32.toNatClampNeg x)) * (P 12 (Int32.toNatClampNeg x)))), rfl, (show ((y + (P 12 (Int32.toNatClampNeg x))) - (y - y / (P 12 (Int32.toNatClampNeg x)) * (P 12 (Int32.toNatClampNeg x))) : Int32) = sg_inPacks P x y from by rw [sg_inPacks, if_neg c_3, if_pos c_5, if_neg c_6]), ht⟩) hL dX0_inPacks_46
      · refine lv_iload_n hx hb dX0_inPacks_32 rfl (lv_at hl 3 rfl) ?_
        refine lv_goto (tgt := 46) hx hb dX0_inPacks_33 (by decide) ?_
        exact W.iret (v := y) hx hb hr (fun t ht hW => ⟨y, rfl, (show (y : Int32) = sg_inPacks P x y from by rw [sg_inPacks, if_neg c_3, if_pos c_5, if_pos c_6]), ht⟩) hL dX0_inPacks_46
    · refine lv_iload_n hx hb dX0_inPacks_17 rfl (lv_at hl 2 rfl) ?_
      exact W.iret (v := y) hx hb hr (fun t ht hW => ⟨y, rfl, (show (y : Int32) = sg_inPacks P x y from by rw [sg_inPacks, if_neg c_3, if_neg c_5]), ht⟩) hL dX0_inPacks_18

def sg_classFor_7 (P : sg_Pic) (xi : Nat) : Nat → Int32 × Int32
  | 0 => (0, 0)
  | j7 + 1 => (if (P 13 xi) < (P 13 j7) then (((sg_classFor_7 P xi j7).1) + (P 13 j7), ((sg_classFor_7 P xi j7).2) + (P 13 j7)) else (if (P 13 j7) = (P 13 xi) then (if (nI xi) ≤ (nI j7) then (((sg_classFor_7 P xi j7).1) + (P 13 j7), ((sg_classFor_7 P xi j7).2)) else (((sg_classFor_7 P xi j7).1) + (P 13 j7), ((sg_classFor_7 P xi j7).2) + (P 13 j7))) else (((sg_classFor_7 P xi j7).1) + (P 13 j7), ((sg_classFor_7 P xi j7).2))))

def sg_classFor (P : sg_Pic) (xi : Nat) : Int32 := (if (((sg_classFor_7 P xi (sg_cn P 1)).1) * 80) ≤ (((sg_classFor_7 P xi (sg_cn P 1)).2) * 100) then (if (((sg_classFor_7 P xi (sg_cn P 1)).1) * 95) ≤ (((sg_classFor_7 P xi (sg_cn P 1)).2) * 100) then 2 else 1) else 0)

set_option maxHeartbeats 4000000 in
set_option maxRecDepth 100000 in
/-- X0_classFor -/
theorem c_classFor (l : Launch) (D : va_G) (cI cZ cJ : ClassId) (lo sz : Nat) (a : Nat → Nat) (P : sg_Pic) (xi : Nat) (hw : sg_W P) (hi : xi < 6) : Met l yX0_classFor wsX0_classFor ({ frames := 0, cells := 0, slots := 0, locals := 0 }) (Pre lo D cI cZ cJ [.ref (a 1), .int (nI xi)] sz [(a 1, .inr (0, [.int (P 0 1), .ref (a 10), .ref (a 11), .ref (a 12), .ref (a 13)])), (a 13, .inl (cI, 6, .inl (P 13)))]) (vp_Si (fun r => r = sg_classFor P xi)) 0 0 (fun _ => False) := by
  refine Met.ofW (cc := cX0_classFor) (maxL := 5) (ret := (some .int)) (by decide) rfl ?_
  intro p e s m args below meth c s₁ B hml hv
  obtain ⟨rfl, hsz, hP, hD0, hC⟩ := hv
  have hx := B.exec
  have hb := B.bytes
  have hr := B.returns
  have hts := atoms_spec (ws := wsX0_classFor) B.pre
  have hown : s.vm.findClass RX0 = some m.cls := findClass_of_methodNamed B.named
  have hlocks := B.notSynchronized
  subst hsz
  have hn1 : sg_cn P 1 ≤ 6 := hw.n1
  have hn2 : sg_cn P 2 ≤ 5 := hw.n2
  have hn3 : sg_cn P 3 ≤ 200 := hw.n3
  have hn4 : sg_cn P 4 ≤ 60 := hw.n4
  have hn5 : sg_cn P 5 ≤ 90 := hw.n5
  have hK := hC.K
  have hD := hD0
  have hS : va_S (fun q => lo ≤ q) s.heap s.heap [] := va_S.rf
  have hAlo : ∀ q, (fun q => lo ≤ q) q → lo ≤ q := fun _ h => h
  have hL : ∀ q ∈ ([] : List Loc), (fun _ : Addr => False) q.base := fun q h => by cases h
  have hP : va_P D vwCl [(a 1, .inr (0, [.int (P 0 1), .ref (a 10), .ref (a 11), .ref (a 12), .ref (a 13)])), (a 13, .inl (cI, 6, .inl (P 13)))] s.heap := hP
  have hl := lv_entry ([.ref (a 1), .int (nI xi)]) (n := 5) (Nat.le_of_ble_eq_true rfl)
  rw [lg_entry_eq]
  generalize (lg_sl ([.ref (a 1), .int (nI xi)]) ++ List.replicate (5 - (lg_sl ([.ref (a 1), .int (nI xi)])).length) Slot.unset).toArray = ls at hl ⊢
  have hl : lv_has ls 5 [(0, .ref (a 1)), (1, .int (nI xi))] := hl
  have in0 : ∀ w ∈ u_ws RX0 TX0 5, w ∈ wsX0_classFor := by decide +kernel
  refine lv_iconst (v := 0) hx hb dX0_classFor_0 (by decide) ?_
  refine lv_istore_n (lv' := [(2, .int 0), (0, .ref (a 1)), (1, .int (nI xi))]) hx hb dX0_classFor_1 rfl hl (by decide) rfl (fun ls hl => ?_)
  refine lv_iconst (v := 0) hx hb dX0_classFor_2 (by decide) ?_
  refine lv_istore_n (lv' := [(3, .int 0), (2, .int 0), (0, .ref (a 1)), (1, .int (nI xi))]) hx hb dX0_classFor_3 rfl hl (by decide) rfl (fun ls hl => ?_)
  refine lv_iconst (v := 0) hx hb dX0_classFor_4 (by decide) ?_
  refine lv_istore (lv' := [(4, .int 0), (3, .int 0), (2, .int 0), (0, .ref (a 1)), (1, .int (nI xi))]) hx hb dX0_classFor_5 hl (by decide) rfl (fun ls hl => ?_)
  obtain ⟨j7, h0j7⟩ : ∃ j : Nat, j = 0 := ⟨_, rfl⟩
  obtain ⟨x7_2, hx7_2⟩ : ∃ z9 : Int32, z9 = (sg_classFor_7 P xi j7).1 := ⟨_, rfl⟩
  obtain ⟨x7_3, hx7_3⟩ : ∃ z9 : Int32, z9 = (sg_classFor_7 P xi j7).2 := ⟨_, rfl⟩
  replace hl : lv_has ls 5 [(4, .int (nI j7)), (3, .int x7_3), (2, .int x7_2), (0, .ref (a 1)), (1, .int (nI xi))] := by rw [hx7_2, hx7_3, h0j7]; exact hl
  have hjj7 : j7 ≤ sg_cn P 1 := by omega
  clear h0j7
  obtain ⟨n7, hn7⟩ : ∃ n : Nat, sg_cn P 1 < j7 + n := ⟨sg_cn P 1 + 1, by omega⟩
  revert hl
  revert hn7
  revert hjj7
  revert hx7_2
  revert hx7_3
  revert ls
  revert x7_2
  revert x7_3
  revert j7
  induction n7 with
  | zero =>
    intro j7 x7_3 x7_2 ls hx7_3 hx7_2 hjj7 hn7 hl
    exact absurd hn7 (by omega)
  | succ n7 ih7 =>
    intro j7 x7_3 x7_2 ls hx7_3 hx7_2 hjj7 hn7 hl
    refine lv_iload hx hb dX0_classFor_7 (lv_at hl 0 rfl) ?_
    refine lv_aload_n hx hb dX0_classFor_9 rfl (lv_at hl 3 rfl) ?_
    refine va_get (D := D) (ci := 0) (v := .int (P 0 1)) (C := RX0) (T := TX0) (N := 5) hx hb hts in0 hown hK hP 0 rfl rfl 0 (by decide) (hts (.fieldLink RX0 24 "Granary$Items" "count" "I") (by decide +kernel)) (fun _ h9 => h9) rfl dX0_classFor_10 ?_
    have hB7 : ((P 0 1) : Int32) = nI (sg_cn P 1) := (hw.e1)
    refine lv_icmp_ge (tgt := 80) hx hb dX0_classFor_13 (by decide) (fun c_1 => ?_) (fun c_1 => ?_)
    · have hE7 : sg_cn P 1 = j7 := (sg_eq hB7 c_1 hjj7 (by omega)).symm
      clear ih7 hn7
      subst hE7
      subst hx7_2
      subst hx7_3
      refine lv_iload_n hx hb dX0_classFor_80 rfl (lv_at hl 1 rfl) ?_
      refine lv_bipush (v := 100) hx hb dX0_classFor_81 (by decide) ?_
      refine lv_imul hx hb dX0_classFor_83 ?_
      refine lv_iload_n hx hb dX0_classFor_84 rfl (lv_at hl 2 rfl) ?_
      refine lv_bipush (v := 80) hx hb dX0_classFor_85 (by decide) ?_
      refine lv_imul hx hb dX0_classFor_87 ?_
      refine lv_icmp_ge (tgt := 93) hx hb dX0_classFor_88 (by decide) (fun c_2 => ?_) (fun c_2 => ?_)
      · refine lv_iload_n hx hb dX0_classFor_93 rfl (lv_at hl 1 rfl) ?_
        refine lv_bipush (v := 100) hx hb dX0_classFor_94 (by decide) ?_
        refine lv_imul hx hb dX0_classFor_96 ?_
        refine lv_iload_n hx hb dX0_classFor_97 rfl (lv_at hl 2 rfl) ?_
        refine lv_bipush (v := 95) hx hb dX0_classFor_98 (by decide) ?_
        refine lv_imul hx hb dX0_classFor_100 ?_
        refine lv_icmp_ge (tgt := 108) hx hb dX0_classFor_101 (by decide) (fun c_3 => ?_) (fun c_3 => ?_)
        · refine lv_iconst (v := 2) hx hb dX0_classFor_108 (by decide) ?_
          exact W.iret (v := 2) hx hb hr (fun t ht hW => ⟨2, rfl, (show (2 : Int32) = sg_classFor P xi from by rw [sg_classFor, if_pos c_2, if_pos c_3]), ht⟩) hL dX0_classFor_109
        · refine lv_iconst (v := 1) hx hb dX0_classFor_104 (by decide) ?_
          refine lv_goto (tgt := 109) hx hb dX0_classFor_105 (by decide) ?_
          exact W.iret (v := 1) hx hb hr (fun t ht hW => ⟨1, rfl, (show (1 : Int32) = sg_classFor P xi from by rw [sg_classFor, if_pos c_2, if_neg c_3]), ht⟩) hL dX0_classFor_109
      · refine lv_iconst (v := 0) hx hb dX0_classFor_91 (by decide) ?_
        exact W.iret (v := 0) hx hb hr (fun t ht hW => ⟨0, rfl, (show (0 : Int32) = sg_classFor P xi from by rw [sg_classFor, if_neg c_2]), ht⟩) hL dX0_classFor_92
    · have hL7 : j7 < sg_cn P 1 := sg_lt hB7 c_1 (by omega)
      refine lv_iload_n hx hb dX0_classFor_16 rfl (lv_at hl 2 rfl) ?_
      refine lv_aload_n hx hb dX0_classFor_17 rfl (lv_at hl 3 rfl) ?_
      refine va_get (D := D) (ci := 0) (v := .ref (a 13)) (C := RX0) (T := TX0) (N := 5) hx hb hts in0 hown hK hP 0 rfl rfl 4 (by decide) (hts (.fieldLink RX0 21 "Granary$Items" "earned" "[I") (by decide +kernel)) (fun _ h9 => h9) rfl dX0_classFor_18 ?_
      refine lv_iload hx hb dX0_classFor_21 (lv_at hl 0 rfl) ?_
      refine sg_iald hx hb hK hP 1 0 rfl rfl (j := j7) rfl (by omega) (Nat.le_of_ble_eq_true rfl) dX0_classFor_23 ?_
      refine lv_toi (y := P 13 j7) rfl ?_
      refine lv_iadd hx hb dX0_classFor_24 ?_
      refine lv_istore_n (lv' := [(2, .int (x7_2 + (P 13 j7))), (4, .int (nI j7)), (3, .int x7_3), (0, .ref (a 1)), (1, .int (nI xi))]) hx hb dX0_classFor_25 rfl hl (by decide) rfl (fun ls hl => ?_)
      refine lv_aload_n hx hb dX0_classFor_26 rfl (lv_at hl 3 rfl) ?_
      refine va_get (D := D) (ci := 0) (v := .ref (a 13)) (C := RX0) (T := TX0) (N := 5) hx hb hts in0 hown hK hP 0 rfl rfl 4 (by decide) (hts (.fieldLink RX0 21 "Granary$Items" "earned" "[I") (by decide +kernel)) (fun _ h9 => h9) rfl dX0_classFor_27 ?_
      refine lv_iload hx hb dX0_classFor_30 (lv_at hl 1 rfl) ?_
      refine sg_iald hx hb hK hP 1 0 rfl rfl (j := j7) rfl (by omega) (Nat.le_of_ble_eq_true rfl) dX0_classFor_32 ?_
      refine lv_toi (y := P 13 j7) rfl ?_
      refine lv_aload_n hx hb dX0_classFor_33 rfl (lv_at hl 3 rfl) ?_
      refine va_get (D := D) (ci := 0) (v := .ref (a 13)) (C := RX0) (T := TX0) (N := 5) hx hb hts in0 hown hK hP 0 rfl rfl 4 (by decide) (hts (.fieldLink RX0 21 "Granary$Items" "earned" "[I") (by decide +kernel)) (fun _ h9 => h9) rfl dX0_classFor_34 ?_
      refine lv_iload_n hx hb dX0_classFor_37 rfl (lv_at hl 4 rfl) ?_
      refine sg_iald hx hb hK hP 1 0 rfl rfl (j := xi) rfl (by omega) (Nat.le_of_ble_eq_true rfl) dX0_classFor_38 ?_
      refine lv_toi (y := P 13 xi) rfl ?_
      refine lv_icmp_gt (tgt := 64) hx hb dX0_classFor_39 (by decide) (fun c_4 => ?_) (fun c_4 => ?_)
      · refine lv_iload_n hx hb dX0_classFor_64 rfl (lv_at hl 2 rfl) ?_
        refine lv_aload_n hx hb dX0_classFor_65 rfl (lv_at hl 3 rfl) ?_
        refine va_get (D := D) (ci := 0) (v := .ref (a 13)) (C := RX0) (T := TX0) (N := 5) hx hb hts in0 hown hK hP 0 rfl rfl 4 (by decide) (hts (.fieldLink RX0 21 "Granary$Items" "earned" "[I") (by decide +kernel)) (fun _ h9 => h9) rfl dX0_classFor_66 ?_
        refine lv_iload hx hb dX0_classFor_69 (lv_at hl 1 rfl) ?_
        refine sg_iald hx hb hK hP 1 0 rfl rfl (j := j7) rfl (by omega) (Nat.le_of_ble_eq_true rfl) dX0_classFor_71 ?_
        refine lv_toi (y := P 13 j7) rfl ?_
        refine lv_iadd hx hb dX0_classFor_72 ?_
        refine lv_istore_n (lv' := [(3, .int (x7_3 + (P 13 j7))), (2, .int (x7_2 + (P 13 j7))), (4, .int (nI j7)), (0, .ref (a 1)), (1, .int (nI xi))]) hx hb dX0_classFor_73 rfl hl (by decide) rfl (fun ls hl => ?_)
        refine lv_iinc (v := nI (j7 + 1)) (lv' := [(4, .int (nI (j7 + 1))), (3, .int (x7_3 + (P 13 j7))), (2, .int (x7_2 + (P 13 j7))), (0, .ref (a 1)), (1, .int (nI xi))]) hx hb dX0_classFor_74 hl (k := 2) rfl (nI_1 j7) (by decide) rfl (fun ls hl => ?_)
        refine lv_goto (tgt := 7) hx hb dX0_classFor_77 (by decide) ?_
        have hl8 := hl
        subst hx7_2
        subst hx7_3
        exact ih7 (j7 + 1) (((sg_classFor_7 P xi j7).2) + (P 13 j7)) (((sg_classFor_7 P xi j7).1) + (P 13 j7)) _ (show (((sg_classFor_7 P xi j7).2) + (P 13 j7) : Int32) = (sg_classFor_7 P xi (j7 + 1)).2 from by rw [sg_classFor_7, if_pos c_4]) (show (((sg_classFor_7 P xi j7).1) + (P 13 j7) : Int32) = (sg_classFor_7 P xi (j7 + 1)).1 from by rw [sg_classFor_7, if_pos c_4]) (by omega) (by omega) (lv_sub hl8 [0, 1, 2, 3, 4] rfl)
      · refine lv_aload_n hx hb dX0_classFor_42 rfl (lv_at hl 3 rfl) ?_
        refine va_get (D := D) (ci := 0) (v := .ref (a 13)) (C := RX0) (T := TX0) (N := 5) hx hb hts in0 hown hK hP 0 rfl rfl 4 (by decide) (hts (.fieldLink RX0 21 "Granary$Items" "earned" "[I") (by decide +kernel)) (fun _ h9 => h9) rfl dX0_classFor_43 ?_
        refine lv_iload hx hb dX0_classFor_46 (lv_at hl 1 rfl) ?_
        refine sg_iald hx hb hK hP 1 0 rfl rfl (j := j7) rfl (by omega) (Nat.le_of_ble_eq_true rfl) dX0_classFor_48 ?_
        refine lv_toi (y := P 13 j7) rfl ?_
        refine lv_aload_n hx hb dX0_classFor_49 rfl (lv_at hl 3 rfl) ?_
        refine va_get (D := D) (ci := 0) (v := .ref (a 13)) (C := RX0) (T := TX0) (N := 5) hx hb hts in0 hown hK hP 0 rfl rfl 4 (by decide) (hts (.fieldLink RX0 21 "Granary$Items" "earned" "[I") (by decide +kernel)) (fun _ h9 => h9) rfl dX0_classFor_50 ?_
        refine lv_iload_n hx hb dX0_classFor_53 rfl (lv_at hl 4 rfl) ?_
        refine sg_iald hx hb hK hP 1 0 rfl rfl (j := xi) rfl (by omega) (Nat.le_of_ble_eq_true rfl) dX0_classFor_54 ?_
        refine lv_toi (y := P 13 xi) rfl ?_
        refine lv_icmp_ne (tgt := 74) hx hb dX0_classFor_55 (by decide) (fun c_5 => ?_) (fun c_5 => ?_)
        · refine lv_iinc (v := nI (j7 + 1)) (lv' := [(4, .int (nI (j7 + 1))), (2, .int (x7_2 + (P 13 j7))), (3, .int x7_3), (0, .ref (a 1)), (1, .int (nI xi))]) hx hb dX0_classFor_74 hl (k := 1) rfl (nI_1 j7) (by decide) rfl (fun ls hl => ?_)
          refine lv_goto (tgt := 7) hx hb dX0_classFor_77 (by decide) ?_
          have hl8 := hl
          subst hx7_2
          subst hx7_3
          exact ih7 (j7 + 1) ((sg_classFor_7 P xi j7).2) (((sg_classFor_7 P xi j7).1) + (P 13 j7)) _ (show (((sg_classFor_7 P xi j7).2) : Int32) = (sg_classFor_7 P xi (j7 + 1)).2 from by rw [sg_classFor_7, if_neg c_4, if_neg c_5]) (show (((sg_classFor_7 P xi j7).1) + (P 13 j7) : Int32) = (sg_classFor_7 P xi (j7 + 1)).1 from by rw [sg_classFor_7, if_neg c_4, if_neg c_5]) (by omega) (by omega) (lv_sub hl8 [0, 2, 1, 3, 4] rfl)
        · refine lv_iload hx hb dX0_classFor_58 (lv_at hl 1 rfl) ?_
          refine lv_iload_n hx hb dX0_classFor_60 rfl (lv_at hl 4 rfl) ?_
          refine lv_icmp_ge (tgt := 74) hx hb dX0_classFor_61 (by decide) (fun c_6 => ?_) (fun c_6 => ?_)
          · refine lv_iinc (v := nI (j7 + 1)) (lv' := [(4, .int (nI (j7 + 1))), (2, .int (x7_2 + (P 13 j7))), (3, .int x7_3), (0, .ref (a 1)), (1, .int (nI xi))]) hx hb dX0_classFor_74 hl (k := 1) rfl (nI_1 j7) (by decide) rfl (fun ls hl => ?_)
            refine lv_goto (tgt := 7) hx hb dX0_classFor_77 (by decide) ?_
            have hl8 := hl
            subst hx7_2
            subst hx7_3
            exact ih7 (j7 + 1) ((sg_classFor_7 P xi j7).2) (((sg_classFor_7 P xi j7).1) + (P 13 j7)) _ (show (((sg_classFor_7 P xi j7).2) : Int32) = (sg_classFor_7 P xi (j7 + 1)).2 from by rw [sg_classFor_7, if_neg c_4, if_pos c_5, if_pos c_6]) (show (((sg_classFor_7 P xi j7).1) + (P 13 j7) : Int32) = (sg_classFor_7 P xi (j7 + 1)).1 from by rw [sg_classFor_7, if_neg c_4, if_pos c_5, if_pos c_6]) (by omega) (by omega) (lv_sub hl8 [0, 2, 1, 3, 4] rfl)
          · refine lv_iload_n hx hb dX0_classFor_64 rfl (lv_at hl 2 rfl) ?_
            refine lv_aload_n hx hb dX0_classFor_65 rfl (lv_at hl 3 rfl) ?_
            refine va_get (D := D) (ci := 0) (v := .ref (a 13)) (C := RX0) (T := TX0) (N := 5) hx hb hts in0 hown hK hP 0 rfl rfl 4 (by decide) (hts (.fieldLink RX0 21 "Granary$Items" "earned" "[I") (by decide +kernel)) (fun _ h9 => h9) rfl dX0_classFor_66 ?_
            refine lv_iload hx hb dX0_classFor_69 (lv_at hl 1 rfl) ?_
            refine sg_iald hx hb hK hP 1 0 rfl rfl (j := j7) rfl (by omega) (Nat.le_of_ble_eq_true rfl) dX0_classFor_71 ?_
            refine lv_toi (y := P 13 j7) rfl ?_
            refine lv_iadd hx hb dX0_classFor_72 ?_
            refine lv_istore_n (lv' := [(3, .int (x7_3 + (P 13 j7))), (2, .int (x7_2 + (P 13 j7))), (4, .int (nI j7)), (0, .ref (a 1)), (1, .int (nI xi))]) hx hb dX0_classFor_73 rfl hl (by decide) rfl (fun ls hl => ?_)
            refine lv_iinc (v := nI (j7 + 1)) (lv' := [(4, .int (nI (j7 + 1))), (3, .int (x7_3 + (P 13 j7))), (2, .int (x7_2 + (P 13 j7))), (0, .ref (a 1)), (1, .int (nI xi))]) hx hb dX0_classFor_74 hl (k := 2) rfl (nI_1 j7) (by decide) rfl (fun ls hl => ?_)
            refine lv_goto (tgt := 7) hx hb dX0_classFor_77 (by decide) ?_
            have hl8 := hl
            subst hx7_2
            subst hx7_3
            exact ih7 (j7 + 1) (((sg_classFor_7 P xi j7).2) + (P 13 j7)) (((sg_classFor_7 P xi j7).1) + (P 13 j7)) _ (show (((sg_classFor_7 P xi j7).2) + (P 13 j7) : Int32) = (sg_classFor_7 P xi (j7 + 1)).2 from by rw [sg_classFor_7, if_neg c_4, if_pos c_5, if_neg c_6]) (show (((sg_classFor_7 P xi j7).1) + (P 13 j7) : Int32) = (sg_classFor_7 P xi (j7 + 1)).1 from by rw [sg_classFor_7, if_neg c_4, if_pos c_5, if_neg c_6]) (by omega) (by omega) (lv_sub hl8 [0, 1, 2, 3, 4] rfl)

def sg_daysBetween (P : sg_Pic) (x : Int32) (y : Int32) : Int32 := (if (sg_X5_has P x) = 0 then 0 else (if (sg_X5_has P y) = 0 then 0 else (P 21 (((Int32.toNatClampNeg x) * 5) + (Int32.toNatClampNeg y)))))

set_option maxHeartbeats 4000000 in
set_option maxRecDepth 100000 in
/-- X5_daysBetween -/
theorem c_daysBetween (l : Launch) (D : va_G) (cI cZ cJ : ClassId) (lo sz : Nat) (a : Nat → Nat) (P : sg_Pic) (x : Int32) (y : Int32) (hw : sg_W P) : Met l yX5_daysBetween wsX5_daysBetween ({ frames := 1, cells := 0, slots := 0, locals := 21 }) (Pre lo D cI cZ cJ [.ref (a 2), .int x, .int y] sz [(a 2, .inr (5, [.int (P 0 2), .ref (a 20), .ref (a 21)])), (a 21, .inl (cI, 25, .inl (P 21)))]) (vp_Si (fun r => r = sg_daysBetween P x y)) 0 0 (fun _ => False) := by
  refine Met.ofW (cc := cX5_daysBetween) (maxL := 3) (ret := (some .int)) (by decide) rfl ?_
  intro p e s m args below meth c s₁ B hml hv
  obtain ⟨rfl, hsz, hP, hD0, hC⟩ := hv
  have hx := B.exec
  have hb := B.bytes
  have hr := B.returns
  have hts := atoms_spec (ws := wsX5_daysBetween) B.pre
  have hown : s.vm.findClass RX5 = some m.cls := findClass_of_methodNamed B.named
  have hlocks := B.notSynchronized
  subst hsz
  have hn1 : sg_cn P 1 ≤ 6 := hw.n1
  have hn2 : sg_cn P 2 ≤ 5 := hw.n2
  have hn3 : sg_cn P 3 ≤ 200 := hw.n3
  have hn4 : sg_cn P 4 ≤ 60 := hw.n4
  have hn5 : sg_cn P 5 ≤ 90 := hw.n5
  have hK := hC.K
  have hD := hD0
  have hS : va_S (fun q => lo ≤ q) s.heap s.heap [] := va_S.rf
  have hAlo : ∀ q, (fun q => lo ≤ q) q → lo ≤ q := fun _ h => h
  have hL : ∀ q ∈ ([] : List Loc), (fun _ : Addr => False) q.base := fun q h => by cases h
  have hP : va_P D vwCl [(a 2, .inr (5, [.int (P 0 2), .ref (a 20), .ref (a 21)])), (a 21, .inl (cI, 25, .inl (P 21)))] s.heap := hP
  have hl := lv_entry ([.ref (a 2), .int x, .int y]) (n := 3) (Nat.le_of_ble_eq_true rfl)
  rw [lg_entry_eq]
  generalize (lg_sl ([.ref (a 2), .int x, .int y]) ++ List.replicate (3 - (lg_sl ([.ref (a 2), .int x, .int y])).length) Slot.unset).toArray = ls at hl ⊢
  have hl : lv_has ls 3 [(0, .ref (a 2)), (1, .int x), (2, .int y)] := hl
  have in5 : ∀ w ∈ u_ws RX5 TX5 3, w ∈ wsX5_daysBetween := by decide +kernel
  refine lv_aload_n hx hb dX5_daysBetween_0 rfl (lv_at hl 0 rfl) ?_
  refine lv_iload_n hx hb dX5_daysBetween_1 rfl (lv_at hl 1 rfl) ?_
  have hPc := hP.sub (ws' := [(a 2, .inr (5, [.int (P 0 2), .ref (a 20), .ref (a 21)]))]) [0] rfl
  have hDc := hD.sub (ws' := [(a 2, .inr (5, [.int (P 0 2), .ref (a 20), .ref (a 21)]))]) [0] (by decide) rfl
  refine vp_callSi (W.runV (As := [.int x]) (rest := []) ⟨hx, hb, hml, hown, hts⟩ (c_X5_has l D cI cZ cJ lo s.heap.size a P x) (cwV 1 hts gX5_daysBetween_X5_has rfl rfl rfl (by decide +kernel) ⟨(Nat.le_of_ble_eq_true rfl), (Nat.le_of_ble_eq_true rfl)⟩) ⟨Pre.blind, va_recv hK hP (ci := 5) (q0 := 0) rfl rfl, Pre.mk hPc (hDc.weaken (fun _ _ _ h => hAlo _ h)) hC hS hAlo⟩ rfl rfl hl.1 rfl (lv_room (Nat.le_of_ble_eq_true rfl)) dX5_daysBetween_2 ⟨(Nat.le_of_ble_eq_true rfl), (Nat.le_of_ble_eq_true rfl)⟩) (fun r_1 e_2 => ?_)
  clear hPc hDc
  have e_2 : sg_X5_has P x = r_1 := Eq.symm e_2
  subst e_2
  refine lv_if_eq (tgt := 29) hx hb dX5_daysBetween_5 (by decide) (fun c_3 => ?_) (fun c_3 => ?_)
  · refine lv_iconst (v := 0) hx hb dX5_daysBetween_29 (by decide) ?_
    exact W.iret (v := 0) hx hb hr (fun t ht hW => ⟨0, rfl, (show (0 : Int32) = sg_daysBetween P x y from by rw [sg_daysBetween, if_pos c_3]), ht⟩) hL dX5_daysBetween_30
  · obtain ⟨e_4, le_4⟩ := sg_hasS hw c_3
    have e_4 : (x : Int32) = nI (Int32.toNatClampNeg x) := e_4
    have le_4 : Int32.toNatClampNeg x < sg_cn P 2 := le_4
    replace hl : lv_has ls 3 [(0, .ref (a 2)), (1, .int (nI (Int32.toNatClampNeg x))), (2, .int y)] := by rw [← e_4]; exact hl
    refine lv_aload_n hx hb dX5_daysBetween_8 rfl (lv_at hl 0 rfl) ?_
    refine lv_iload_n hx hb dX5_daysBetween_9 rfl (lv_at hl 2 rfl) ?_
    have hPc := hP.sub (ws' := [(a 2, .inr (5, [.int (P 0 2), .ref (a 20), .ref (a 21)]))]) [0] rfl
    have hDc := hD.sub (ws' := [(a 2, .inr (5, [.int (P 0 2), .ref (a 20), .ref (a 21)]))]) [0] (by decide) rfl
    refine vp_callSi (W.runV (As := [.int y]) (rest := []) ⟨hx, hb, hml, hown, hts⟩ (c_X5_has l D cI cZ cJ lo s.heap.size a P y) (cwV 1 hts gX5_daysBetween_X5_has rfl rfl rfl (by decide +kernel) ⟨(Nat.le_of_ble_eq_true rfl), (Nat.le_of_ble_eq_true rfl)⟩) ⟨Pre.blind, va_recv hK hP (ci := 5) (q0 := 0) rfl rfl, Pre.mk hPc (hDc.weaken (fun _ _ _ h => hAlo _ h)) hC hS hAlo⟩ rfl rfl hl.1 rfl (lv_room (Nat.le_of_ble_eq_true rfl)) dX5_daysBetween_10 ⟨(Nat.le_of_ble_eq_true rfl), (Nat.le_of_ble_eq_true rfl)⟩) (fun r_5 e_6 => ?_)
    clear hPc hDc
    have e_6 : sg_X5_has P y = r_5 := Eq.symm e_6
    subst e_6
    refine lv_if_eq (tgt := 29) hx hb dX5_daysBetween_13 (by decide) (fun c_7 => ?_) (fun c_7 => ?_)
    · refine lv_iconst (v := 0) hx hb dX5_daysBetween_29 (by decide) ?_
      exact W.iret (v := 0) hx hb hr (fun t ht hW => ⟨0, rfl, (show (0 : Int32) = sg_daysBetween P x y from by rw [sg_daysBetween, if_neg c_3, if_pos c_7]), ht⟩) hL dX5_daysBetween_30
    · obtain ⟨e_8, le_8⟩ := sg_hasS hw c_7
      have e_8 : (y : Int32) = nI (Int32.toNatClampNeg y) := e_8
      have le_8 : Int32.toNatClampNeg y < sg_cn P 2 := le_8
      replace hl : lv_has ls 3 [(0, .ref (a 2)), (1, .int (nI (Int32.toNatClampNeg x))), (2, .int (nI (Int32.toNatClampNeg y)))] := by rw [← e_8]; exact hl
      refine lv_aload_n hx hb dX5_daysBetween_16 rfl (lv_at hl 0 rfl) ?_
      refine va_get (D := D) (ci := 5) (v := .ref (a 21)) (C := RX5) (T := TX5) (N := 3) hx hb hts in5 hown hK hP 0 rfl rfl 2 (by decide) (hts (.fieldLink RX5 15 "Granary$Sites" "days" "[I") (by decide +kernel)) (fun _ h9 => h9) rfl dX5_daysBetween_17 ?_
      refine lv_iload_n hx hb dX5_daysBetween_20 rfl (lv_at hl 1 rfl) ?_
      refine lv_iload_n hx hb dX5_daysBetween_21 rfl (lv_at hl 2 rfl) ?_
      have hPc := hP.sub (ws' := []) [] rfl
      have hDc := hD.sub (ws' := []) [] (by decide) rfl
      refine vp_callSi (sg_dr (va_runSN (As := [.int (nI (Int32.toNatClampNeg x)), .int (nI (Int32.toNatClampNeg y))]) (rest := [.ref (a 21)]) ⟨hx, hb, hml, hown, hts⟩ (c_pair l D cI cZ cJ lo s.heap.size (Int32.toNatClampNeg x) (Int32.toNatClampNeg y)) ⟨va_cnB 2 hts gX5_daysBetween_X8_pair_n26 rfl rfl rfl (hC.nestX5_26) (hts (.initialized RX8) (by decide +kernel)) (by decide +kernel) ⟨(Nat.le_of_ble_eq_true rfl), (Nat.le_of_ble_eq_true rfl)⟩, (hts (.static yX8_pair) (by decide +kernel)), trivial⟩ ⟨Pre.blind, Pre.mk hPc (hDc.weaken (fun _ _ _ h => hAlo _ h)) hC hS hAlo⟩ rfl rfl hl.1 rfl (lv_room (Nat.le_of_ble_eq_true rfl)) dX5_daysBetween_22 ⟨(Nat.le_of_ble_eq_true rfl), (Nat.le_of_ble_eq_true rfl)⟩)) (fun r_9 e_10 => ?_)
      clear hPc hDc
      have e_10 : nI (((Int32.toNatClampNeg x) * 5) + (Int32.toNatClampNeg y)) = r_9 := Eq.symm e_10
      subst e_10
      refine sg_iald hx hb hK hP 1 0 rfl rfl (j := ((Int32.toNatClampNeg x) * 5) + (Int32.toNatClampNeg y)) rfl (by omega) (Nat.le_of_ble_eq_true rfl) dX5_daysBetween_25 ?_
      refine lv_toi (y := P 21 (((Int32.toNatClampNeg x) * 5) + (Int32.toNatClampNeg y))) rfl ?_
      refine lv_goto (tgt := 30) hx hb dX5_daysBetween_26 (by decide) ?_
      exact W.iret (v := (P 21 (((Int32.toNatClampNeg x) * 5) + (Int32.toNatClampNeg y)))) hx hb hr (fun t ht hW => ⟨(P 21 (((Int32.toNatClampNeg x) * 5) + (Int32.toNatClampNeg y))), rfl, (show (P 21 (((Int32.toNatClampNeg x) * 5) + (Int32.toNatClampNeg y)) : Int32) = sg_daysBetween P x y from by rw [sg_daysBetween, if_neg c_3, if_neg c_7]), ht⟩) hL dX5_daysBetween_30

def sg_firstFree_6 (P : sg_Pic) (x : Int32) (y : Int32) (z : Int32) : Nat → Int32
  | 0 => (-1)
  | j6 + 1 => (if (P 40 j6) = x then (if (P 41 j6) = y then (if (P 44 j6) < z then (sg_firstFree_6 P x y z j6) else (if (sg_freeOf P j6) ≤ 0 then (sg_firstFree_6 P x y z j6) else (if (sg_firstFree_6 P x y z j6) = (-1) then (nI j6) else (if ((P 44) (Int32.toNatClampNeg (sg_firstFree_6 P x y z j6))) ≤ (P 44 j6) then (sg_firstFree_6 P x y z j6) else (nI j6))))) else (sg_firstFree_6 P x y z j6)) else (sg_firstFree_6 P x y z j6))

def sg_firstFree (P : sg_Pic) (x : Int32) (y : Int32) (z : Int32) : Int32 := (sg_firstFree_6 P x y z (sg_cn P 3))

theorem sg_firstFree_R (P : sg_Pic) (x y z : Int32) : ∀ j, sg_firstFree_6 P x y z j = -1 ∨ ∃ f, f < j ∧ sg_firstFree_6 P x y z j = nI f
  | 0 => Or.inl rfl
  | j + 1 => by
    have h := sg_firstFree_R P x y z j
    have h1 : sg_firstFree_6 P x y z j = -1 ∨ ∃ f, f < j + 1 ∧ sg_firstFree_6 P x y z j = nI f := by
      rcases h with h | ⟨f, hf, h⟩
      · exact Or.inl h
      · exact Or.inr ⟨f, by omega, h⟩
    rw [sg_firstFree_6]
    repeat' split
    all_goals first | exact h1 | exact Or.inr ⟨j, by omega, rfl⟩
theorem sg_ffin {P : sg_Pic} {x y z v : Int32} {j : Nat} (h : v = sg_firstFree_6 P x y z j) (hj : j ≤ 200) (c : ¬ (v = -1)) : vp_in v 200 := by
  rcases sg_firstFree_R P x y z j with q | ⟨f, hf, q⟩
  · exact absurd (h.trans q) c
  · rw [h, q]
    exact vp_in_nI (by omega) (by decide)

set_option maxHeartbeats 4000000 in
set_option maxRecDepth 100000 in
/-- X1_firstFree -/
theorem c_firstFree (l : Launch) (D : va_G) (cI cZ cJ : ClassId) (lo sz : Nat) (a : Nat → Nat) (P : sg_Pic) (x : Int32) (y : Int32) (z : Int32) (hw : sg_W P) : Met l yX1_firstFree wsX1_firstFree ({ frames := 1, cells := 0, slots := 0, locals := 21 }) (Pre lo D cI cZ cJ [.ref (a 4), .int x, .int y, .int z] sz [(a 4, .inr (1, [.int (P 0 3), .ref (a 40), .ref (a 41), .ref (a 42), .ref (a 43), .ref (a 44)])), (a 40, .inl (cI, 200, .inl (P 40))), (a 41, .inl (cI, 200, .inl (P 41))), (a 42, .inl (cI, 200, .inl (P 42))), (a 43, .inl (cI, 200, .inl (P 43))), (a 44, .inl (cI, 200, .inl (P 44)))]) (vp_Si (fun r => r = sg_firstFree P x y z)) 0 0 (fun _ => False) := by
  refine Met.ofW (cc := cX1_firstFree) (maxL := 6) (ret := (some .int)) (by decide) rfl ?_
  intro p e s m args below meth c s₁ B hml hv
  obtain ⟨rfl, hsz, hP, hD0, hC⟩ := hv
  have hx := B.exec
  have hb := B.bytes
  have hr := B.returns
  have hts := atoms_spec (ws := wsX1_firstFree) B.pre
  have hown : s.vm.findClass RX1 = some m.cls := findClass_of_methodNamed B.named
  have hlocks := B.notSynchronized
  subst hsz
  have hn1 : sg_cn P 1 ≤ 6 := hw.n1
  have hn2 : sg_cn P 2 ≤ 5 := hw.n2
  have hn3 : sg_cn P 3 ≤ 200 := hw.n3
  have hn4 : sg_cn P 4 ≤ 60 := hw.n4
  have hn5 : sg_cn P 5 ≤ 90 := hw.n5
  have hK := hC.K
  have hD := hD0
  have hS : va_S (fun q => lo ≤ q) s.heap s.heap [] := va_S.rf
  have hAlo : ∀ q, (fun q => lo ≤ q) q → lo ≤ q := fun _ h => h
  have hL : ∀ q ∈ ([] : List Loc), (fun _ : Addr => False) q.base := fun q h => by cases h
  have hP : va_P D vwCl [(a 4, .inr (1, [.int (P 0 3), .ref (a 40), .ref (a 41), .ref (a 42), .ref (a 43), .ref (a 44)])), (a 40, .inl (cI, 200, .inl (P 40))), (a 41, .inl (cI, 200, .inl (P 41))), (a 42, .inl (cI, 200, .inl (P 42))), (a 43, .inl (cI, 200, .inl (P 43))), (a 44, .inl (cI, 200, .inl (P 44)))] s.heap := hP
  have hl := lv_entry ([.ref (a 4), .int x, .int y, .int z]) (n := 6) (Nat.le_of_ble_eq_true rfl)
  rw [lg_entry_eq]
  generalize (lg_sl ([.ref (a 4), .int x, .int y, .int z]) ++ List.replicate (6 - (lg_sl ([.ref (a 4), .int x, .int y, .int z])).length) Slot.unset).toArray = ls at hl ⊢
  have hl : lv_has ls 6 [(0, .ref (a 4)), (1, .int x), (2, .int y), (3, .int z)] := hl
  have in1 : ∀ w ∈ u_ws RX1 TX1 6, w ∈ wsX1_firstFree := by decide +kernel
  refine lv_iconst (v := (-1)) hx hb dX1_firstFree_0 (by decide) ?_
  refine lv_istore (lv' := [(4, .int (-1)), (0, .ref (a 4)), (1, .int x), (2, .int y), (3, .int z)]) hx hb dX1_firstFree_1 hl (by decide) rfl (fun ls hl => ?_)
  refine lv_iconst (v := 0) hx hb dX1_firstFree_3 (by decide) ?_
  refine lv_istore (lv' := [(5, .int 0), (4, .int (-1)), (0, .ref (a 4)), (1, .int x), (2, .int y), (3, .int z)]) hx hb dX1_firstFree_4 hl (by decide) rfl (fun ls hl => ?_)
  obtain ⟨j6, h0j6⟩ : ∃ j : Nat, j = 0 := ⟨_, rfl⟩
  obtain ⟨x6_4, hx6_4⟩ : ∃ z9 : Int32, z9 = sg_firstFree_6 P x y z j6 := ⟨_, rfl⟩
  replace hl : lv_has ls 6 [(5, .int (nI j6)), (4, .int x6_4), (0, .ref (a 4)), (1, .int x), (2, .int y), (3, .int z)] := by rw [hx6_4, h0j6]; exact hl
  have hjj6 : j6 ≤ sg_cn P 3 := by omega
  clear h0j6
  obtain ⟨n6, hn6⟩ : ∃ n : Nat, sg_cn P 3 < j6 + n := ⟨sg_cn P 3 + 1, by omega⟩
  revert hl
  revert hn6
  revert hjj6
  revert hx6_4
  revert ls
  revert x6_4
  revert j6
  induction n6 with
  | zero =>
    intro j6 x6_4 ls hx6_4 hjj6 hn6 hl
    exact absurd hn6 (by omega)
  | succ n6 ih6 =>
    intro j6 x6_4 ls hx6_4 hjj6 hn6 hl
    refine lv_iload hx hb dX1_firstFree_6 (lv_at hl 0 rfl) ?_
    refine lv_aload_n hx hb dX1_firstFree_8 rfl (lv_at hl 2 rfl) ?_
    refine va_get (D := D) (ci := 1) (v := .int (P 0 3)) (C := RX1) (T := TX1) (N := 6) hx hb hts in1 hown hK hP 0 rfl rfl 0 (by decide) (hts (.fieldLink RX1 27 "Granary$Lots" "count" "I") (by decide +kernel)) (fun _ h9 => h9) rfl dX1_firstFree_9 ?_
    have hB6 : ((P 0 3) : Int32) = nI (sg_cn P 3) := (hw.e3)
    refine lv_icmp_ge (tgt := 90) hx hb dX1_firstFree_12 (by decide) (fun c_1 => ?_) (fun c_1 => ?_)
    · have hE6 : sg_cn P 3 = j6 := (sg_eq hB6 c_1 hjj6 (by omega)).symm
      clear ih6 hn6
      subst hE6
      subst hx6_4
      refine lv_iload hx hb dX1_firstFree_90 (lv_at hl 1 rfl) ?_
      exact W.iret (v := (sg_firstFree_6 P x y z (sg_cn P 3))) hx hb hr (fun t ht hW => ⟨(sg_firstFree_6 P x y z (sg_cn P 3)), rfl, rfl, ht⟩) hL dX1_firstFree_92
    · have hL6 : j6 < sg_cn P 3 := sg_lt hB6 c_1 (by omega)
      refine lv_aload_n hx hb dX1_firstFree_15 rfl (lv_at hl 2 rfl) ?_
      refine va_get (D := D) (ci := 1) (v := .ref (a 40)) (C := RX1) (T := TX1) (N := 6) hx hb hts in1 hown hK hP 0 rfl rfl 1 (by decide) (hts (.fieldLink RX1 9 "Granary$Lots" "item" "[I") (by decide +kernel)) (fun _ h9 => h9) rfl dX1_firstFree_16 ?_
      refine lv_iload hx hb dX1_firstFree_19 (lv_at hl 0 rfl) ?_
      refine sg_iald hx hb hK hP 1 0 rfl rfl (j := j6) rfl (by omega) (Nat.le_of_ble_eq_true rfl) dX1_firstFree_21 ?_
      refine lv_toi (y := P 40 j6) rfl ?_
      refine lv_iload_n hx hb dX1_firstFree_22 rfl (lv_at hl 3 rfl) ?_
      refine lv_icmp_ne (tgt := 84) hx hb dX1_firstFree_23 (by decide) (fun c_2 => ?_) (fun c_2 => ?_)
      · refine lv_iinc (v := nI (j6 + 1)) (lv' := [(5, .int (nI (j6 + 1))), (4, .int x6_4), (0, .ref (a 4)), (1, .int x), (2, .int y), (3, .int z)]) hx hb dX1_firstFree_84 hl (k := 0) rfl (nI_1 j6) (by decide) rfl (fun ls hl => ?_)
        refine lv_goto (tgt := 6) hx hb dX1_firstFree_87 (by decide) ?_
        have hl8 := hl
        subst hx6_4
        exact ih6 (j6 + 1) (sg_firstFree_6 P x y z j6) _ (show ((sg_firstFree_6 P x y z j6) : Int32) = sg_firstFree_6 P x y z (j6 + 1) from by rw [sg_firstFree_6, if_neg c_2]) (by omega) (by omega) (lv_sub hl8 [0, 1, 2, 3, 4, 5] rfl)
      · refine lv_aload_n hx hb dX1_firstFree_26 rfl (lv_at hl 2 rfl) ?_
        refine va_get (D := D) (ci := 1) (v := .ref (a 41)) (C := RX1) (T := TX1) (N := 6) hx hb hts in1 hown hK hP 0 rfl rfl 2 (by decide) (hts (.fieldLink RX1 15 "Granary$Lots" "site" "[I") (by decide +kernel)) (fun _ h9 => h9) rfl dX1_firstFree_27 ?_
        refine lv_iload hx hb dX1_firstFree_30 (lv_at hl 0 rfl) ?_
        refine sg_iald hx hb hK hP 2 0 rfl rfl (j := j6) rfl (by omega) (Nat.le_of_ble_eq_true rfl) dX1_firstFree_32 ?_
        refine lv_toi (y := P 41 j6) rfl ?_
        refine lv_iload_n hx hb dX1_firstFree_33 rfl (lv_at hl 4 rfl) ?_
        refine lv_icmp_ne (tgt := 84) hx hb dX1_firstFree_34 (by decide) (fun c_3 => ?_) (fun c_3 => ?_)
        · refine lv_iinc (v := nI (j6 + 1)) (lv' := [(5, .int (nI (j6 + 1))), (4, .int x6_4), (0, .ref (a 4)), (1, .int x), (2, .int y), (3, .int z)]) hx hb dX1_firstFree_84 hl (k := 0) rfl (nI_1 j6) (by decide) rfl (fun ls hl => ?_)
          refine lv_goto (tgt := 6) hx hb dX1_firstFree_87 (by decide) ?_
          have hl8 := hl
          subst hx6_4
          exact ih6 (j6 + 1) (sg_firstFree_6 P x y z j6) _ (show ((sg_firstFree_6 P x y z j6) : Int32) = sg_firstFree_6 P x y z (j6 + 1) from by rw [sg_firstFree_6, if_pos c_2, if_neg c_3]) (by omega) (by omega) (lv_sub hl8 [0, 1, 2, 3, 4, 5] rfl)
        · refine lv_aload_n hx hb dX1_firstFree_37 rfl (lv_at hl 2 rfl) ?_
          refine va_get (D := D) (ci := 1) (v := .ref (a 44)) (C := RX1) (T := TX1) (N := 6) hx hb hts in1 hown hK hP 0 rfl rfl 5 (by decide) (hts (.fieldLink RX1 24 "Granary$Lots" "last" "[I") (by decide +kernel)) (fun _ h9 => h9) rfl dX1_firstFree_38 ?_
          refine lv_iload hx hb dX1_firstFree_41 (lv_at hl 0 rfl) ?_
          refine sg_iald hx hb hK hP 5 0 rfl rfl (j := j6) rfl (by omega) (Nat.le_of_ble_eq_true rfl) dX1_firstFree_43 ?_
          refine lv_toi (y := P 44 j6) rfl ?_
          refine lv_iload_n hx hb dX1_firstFree_44 rfl (lv_at hl 5 rfl) ?_
          refine lv_icmp_lt (tgt := 84) hx hb dX1_firstFree_45 (by decide) (fun c_4 => ?_) (fun c_4 => ?_)
          · refine lv_iinc (v := nI (j6 + 1)) (lv' := [(5, .int (nI (j6 + 1))), (4, .int x6_4), (0, .ref (a 4)), (1, .int x), (2, .int y), (3, .int z)]) hx hb dX1_firstFree_84 hl (k := 0) rfl (nI_1 j6) (by decide) rfl (fun ls hl => ?_)
            refine lv_goto (tgt := 6) hx hb dX1_firstFree_87 (by decide) ?_
            have hl8 := hl
            subst hx6_4
            exact ih6 (j6 + 1) (sg_firstFree_6 P x y z j6) _ (show ((sg_firstFree_6 P x y z j6) : Int32) = sg_firstFree_6 P x y z (j6 + 1) from by rw [sg_firstFree_6, if_pos c_2, if_pos c_3, if_pos c_4]) (by omega) (by omega) (lv_sub hl8 [0, 1, 2, 3, 4, 5] rfl)
          · refine lv_aload_n hx hb dX1_firstFree_48 rfl (lv_at hl 2 rfl) ?_
            refine lv_iload hx hb dX1_firstFree_49 (lv_at hl 0 rfl) ?_
            have hPc := hP.sub (ws' := [(a 4, .inr (1, [.int (P 0 3), .ref (a 40), .ref (a 41), .ref (a 42), .ref (a 43), .ref (a 44)])), (a 42, .inl (cI, 200, .inl (P 42))), (a 43, .inl (cI, 200, .inl (P 43)))]) [0, 3, 4] rfl
            have hDc := hD.sub (ws' := [(a 4, .inr (1, [.int (P 0 3), .ref (a 40), .ref (a 41), .ref (a 42), .ref (a 43), .ref (a 44)])), (a 42, .inl (cI, 200, .inl (P 42))), (a 43, .inl (cI, 200, .inl (P 43)))]) [0, 3, 4] (by decide) rfl
            refine vp_callSi (W.runV (As := [.int (nI j6)]) (rest := []) ⟨hx, hb, hml, hown, hts⟩ (c_freeOf l D cI cZ cJ lo s.heap.size a P j6 (by omega)) (cwV 1 hts gX1_firstFree_X1_freeOf rfl rfl rfl (by decide +kernel) ⟨(Nat.le_of_ble_eq_true rfl), (Nat.le_of_ble_eq_true rfl)⟩) ⟨Pre.blind, va_recv hK hP (ci := 1) (q0 := 0) rfl rfl, Pre.mk hPc (hDc.weaken (fun _ _ _ h => hAlo _ h)) hC hS hAlo⟩ rfl rfl hl.1 rfl (lv_room (Nat.le_of_ble_eq_true rfl)) dX1_firstFree_51 ⟨(Nat.le_of_ble_eq_true rfl), (Nat.le_of_ble_eq_true rfl)⟩) (fun r_5 e_6 => ?_)
            clear hPc hDc
            have e_6 : sg_freeOf P j6 = r_5 := Eq.symm e_6
            subst e_6
            refine lv_if_le (tgt := 84) hx hb dX1_firstFree_54 (by decide) (fun c_7 => ?_) (fun c_7 => ?_)
            · refine lv_iinc (v := nI (j6 + 1)) (lv' := [(5, .int (nI (j6 + 1))), (4, .int x6_4), (0, .ref (a 4)), (1, .int x), (2, .int y), (3, .int z)]) hx hb dX1_firstFree_84 hl (k := 0) rfl (nI_1 j6) (by decide) rfl (fun ls hl => ?_)
              refine lv_goto (tgt := 6) hx hb dX1_firstFree_87 (by decide) ?_
              have hl8 := hl
              subst hx6_4
              exact ih6 (j6 + 1) (sg_firstFree_6 P x y z j6) _ (show ((sg_firstFree_6 P x y z j6) : Int32) = sg_firstFree_6 P x y z (j6 + 1) from by rw [sg_firstFree_6, if_pos c_2, if_pos c_3, if_neg c_4, if_pos c_7]) (by omega) (by omega) (lv_sub hl8 [0, 1, 2, 3, 4, 5] rfl)
            · refine lv_iload hx hb dX1_firstFree_57 (lv_at hl 1 rfl) ?_
              refine lv_iconst (v := (-1)) hx hb dX1_firstFree_59 (by decide) ?_
              refine lv_icmp_eq (tgt := 80) hx hb dX1_firstFree_60 (by decide) (fun c_8 => ?_) (fun c_8 => ?_)
              · refine lv_iload hx hb dX1_firstFree_80 (lv_at hl 0 rfl) ?_
                refine lv_istore (lv' := [(4, .int (nI j6)), (5, .int (nI j6)), (0, .ref (a 4)), (1, .int x), (2, .int y), (3, .int z)]) hx hb dX1_firstFree_82 hl (by decide) rfl (fun ls hl => ?_)
                refine lv_iinc (v := nI (j6 + 1)) (lv' := [(5, .int (nI (j6 + 1))), (4, .int (nI j6)), (0, .ref (a 4)), (1, .int x), (2, .int y), (3, .int z)]) hx hb dX1_firstFree_84 hl (k := 1) rfl (nI_1 j6) (by decide) rfl (fun ls hl => ?_)
                refine lv_goto (tgt := 6) hx hb dX1_firstFree_87 (by decide) ?_
                have hl8 := hl
                subst hx6_4
                exact ih6 (j6 + 1) (nI j6) _ (show (nI j6 : Int32) = sg_firstFree_6 P x y z (j6 + 1) from by rw [sg_firstFree_6, if_pos c_2, if_pos c_3, if_neg c_4, if_neg c_7, if_pos c_8]) (by omega) (by omega) (lv_sub hl8 [0, 1, 2, 3, 4, 5] rfl)
              · refine lv_aload_n hx hb dX1_firstFree_63 rfl (lv_at hl 2 rfl) ?_
                refine va_get (D := D) (ci := 1) (v := .ref (a 44)) (C := RX1) (T := TX1) (N := 6) hx hb hts in1 hown hK hP 0 rfl rfl 5 (by decide) (hts (.fieldLink RX1 24 "Granary$Lots" "last" "[I") (by decide +kernel)) (fun _ h9 => h9) rfl dX1_firstFree_64 ?_
                refine lv_iload hx hb dX1_firstFree_67 (lv_at hl 0 rfl) ?_
                refine sg_iald hx hb hK hP 5 0 rfl rfl (j := j6) rfl (by omega) (Nat.le_of_ble_eq_true rfl) dX1_firstFree_69 ?_
                refine lv_toi (y := P 44 j6) rfl ?_
                refine lv_aload_n hx hb dX1_firstFree_70 rfl (lv_at hl 2 rfl) ?_
                refine va_get (D := D) (ci := 1) (v := .ref (a 44)) (C := RX1) (T := TX1) (N := 6) hx hb hts in1 hown hK hP 0 rfl rfl 5 (by decide) (hts (.fieldLink RX1 24 "Granary$Lots" "last" "[I") (by decide +kernel)) (fun _ h9 => h9) rfl dX1_firstFree_71 ?_
                refine lv_iload hx hb dX1_firstFree_74 (lv_at hl 1 rfl) ?_
                refine va_iald hx hb hK hP 5 0 rfl rfl (sg_ffin hx6_4 (by omega) c_8) dX1_firstFree_76 ?_
                refine lv_icmp_ge (tgt := 84) hx hb dX1_firstFree_77 (by decide) (fun c_9 => ?_) (fun c_9 => ?_)
                · refine lv_iinc (v := nI (j6 + 1)) (lv' := [(5, .int (nI (j6 + 1))), (4, .int x6_4), (0, .ref (a 4)), (1, .int x), (2, .int y), (3, .int z)]) hx hb dX1_firstFree_84 hl (k := 0) rfl (nI_1 j6) (by decide) rfl (fun ls hl => ?_)
                  refine lv_goto (tgt := 6) hx hb dX1_firstFree_87 (by decide) ?_
                  have hl8 := hl
                  subst hx6_4
                  exact ih6 (j6 + 1) (sg_firstFree_6 P x y z j6) _ (show ((sg_firstFree_6 P x y z j6) : Int32) = sg_firstFree_6 P x y z (j6 + 1) from by rw [sg_firstFree_6, if_pos c_2, if_pos c_3, if_neg c_4, if_neg c_7, if_neg c_8, if_pos c_9]) (by omega) (by omega) (lv_sub hl8 [0, 1, 2, 3, 4, 5] rfl)
                · refine lv_iload hx hb dX1_firstFree_80 (lv_at hl 0 rfl) ?_
                  refine lv_istore (lv' := [(4, .int (nI j6)), (5, .int (nI j6)), (0, .ref (a 4)), (1, .int x), (2, .int y), (3, .int z)]) hx hb dX1_firstFree_82 hl (by decide) rfl (fun ls hl => ?_)
                  refine lv_iinc (v := nI (j6 + 1)) (lv' := [(5, .int (nI (j6 + 1))), (4, .int (nI j6)), (0, .ref (a 4)), (1, .int x), (2, .int y), (3, .int z)]) hx hb dX1_firstFree_84 hl (k := 1) rfl (nI_1 j6) (by decide) rfl (fun ls hl => ?_)
                  refine lv_goto (tgt := 6) hx hb dX1_firstFree_87 (by decide) ?_
                  have hl8 := hl
                  subst hx6_4
                  exact ih6 (j6 + 1) (nI j6) _ (show (nI j6 : Int32) = sg_firstFree_6 P x y z (j6 + 1) from by rw [sg_firstFree_6, if_pos c_2, if_pos c_3, if_neg c_4, if_neg c_7, if_neg c_8, if_neg c_9]) (by omega) (by omega) (lv_sub hl8 [0, 1, 2, 3, 4, 5] rfl)

theorem sg_ff {P : sg_Pic} {x y z : Int32} (hw : sg_W P) (c : ¬ (sg_firstFree P x y z = -1)) : sg_firstFree P x y z = nI (Int32.toNatClampNeg (sg_firstFree P x y z)) ∧ Int32.toNatClampNeg (sg_firstFree P x y z) < sg_cn P 3 := by
  have h3 := hw.n3
  unfold sg_firstFree at c ⊢
  rcases sg_firstFree_R P x y z (sg_cn P 3) with q | ⟨f, hf, q⟩
  · exact absurd q c
  · rw [q, nI_clamp (by omega)]
    exact ⟨rfl, hf⟩

def sg_ltell (P : sg_Pic) (xl : Nat) (xw : Nat) : Int32 := (if xw = 0 then (P 40 xl) else (if xw = 1 then (P 41 xl) else (if xw = 2 then (P 42 xl) else (if xw = 3 then (P 43 xl) else (P 44 xl)))))

set_option maxHeartbeats 4000000 in
set_option maxRecDepth 100000 in
/-- X1_tell -/
theorem c_ltell (l : Launch) (D : va_G) (cI cZ cJ : ClassId) (lo sz : Nat) (a : Nat → Nat) (P : sg_Pic) (xl : Nat) (xw : Nat) (hl0 : xl < 200) (hx0 : xw < 5) : Met l yX1_tell wsX1_tell ({ frames := 0, cells := 0, slots := 0, locals := 0 }) (Pre lo D cI cZ cJ [.ref (a 4), .int (nI xl), .int (nI xw)] sz [(a 4, .inr (1, [.int (P 0 3), .ref (a 40), .ref (a 41), .ref (a 42), .ref (a 43), .ref (a 44)])), (a 40, .inl (cI, 200, .inl (P 40))), (a 41, .inl (cI, 200, .inl (P 41))), (a 42, .inl (cI, 200, .inl (P 42))), (a 43, .inl (cI, 200, .inl (P 43))), (a 44, .inl (cI, 200, .inl (P 44)))]) (vp_Si (fun r => r = sg_ltell P xl xw)) 0 0 (fun _ => False) := by
  refine Met.ofW (cc := cX1_tell) (maxL := 3) (ret := (some .int)) (by decide) rfl ?_
  intro p e s m args below meth c s₁ B hml hv
  obtain ⟨rfl, hsz, hP, hD0, hC⟩ := hv
  have hx := B.exec
  have hb := B.bytes
  have hr := B.returns
  have hts := atoms_spec (ws := wsX1_tell) B.pre
  have hown : s.vm.findClass RX1 = some m.cls := findClass_of_methodNamed B.named
  have hlocks := B.notSynchronized
  subst hsz
  have hK := hC.K
  have hD := hD0
  have hS : va_S (fun q => lo ≤ q) s.heap s.heap [] := va_S.rf
  have hAlo : ∀ q, (fun q => lo ≤ q) q → lo ≤ q := fun _ h => h
  have hL : ∀ q ∈ ([] : List Loc), (fun _ : Addr => False) q.base := fun q h => by cases h
  have hP : va_P D vwCl [(a 4, .inr (1, [.int (P 0 3), .ref (a 40), .ref (a 41), .ref (a 42), .ref (a 43), .ref (a 44)])), (a 40, .inl (cI, 200, .inl (P 40))), (a 41, .inl (cI, 200, .inl (P 41))), (a 42, .inl (cI, 200, .inl (P 42))), (a 43, .inl (cI, 200, .inl (P 43))), (a 44, .inl (cI, 200, .inl (P 44)))] s.heap := hP
  have hl := lv_entry ([.ref (a 4), .int (nI xl), .int (nI xw)]) (n := 3) (Nat.le_of_ble_eq_true rfl)
  rw [lg_entry_eq]
  generalize (lg_sl ([.ref (a 4), .int (nI xl), .int (nI xw)]) ++ List.replicate (3 - (lg_sl ([.ref (a 4), .int (nI xl), .int (nI xw)])).length) Slot.unset).toArray = ls at hl ⊢
  have hl : lv_has ls 3 [(0, .ref (a 4)), (1, .int (nI xl)), (2, .int (nI xw))] := hl
  have in1 : ∀ w ∈ u_ws RX1 TX1 6, w ∈ wsX1_tell := by decide +kernel
  refine lv_iload_n hx hb dX1_tell_0 rfl (lv_at hl 2 rfl) ?_
  by_cases c_1 : xw = 0
  · refine lv_tableIn (x := nI xw) (tgt := 32) (off := 31) hx hb dX1_tell_1 (by rw [c_1]; decide) (by rw [c_1]; decide) (by rw [c_1]; decide +kernel) (by decide) ?_
    refine lv_aload_n hx hb dX1_tell_32 rfl (lv_at hl 0 rfl) ?_
    refine va_get (D := D) (ci := 1) (v := .ref (a 40)) (C := RX1) (T := TX1) (N := 6) hx hb hts in1 hown hK hP 0 rfl rfl 1 (by decide) (hts (.fieldLink RX1 9 "Granary$Lots" "item" "[I") (by decide +kernel)) (fun _ h9 => h9) rfl dX1_tell_33 ?_
    refine lv_iload_n hx hb dX1_tell_36 rfl (lv_at hl 1 rfl) ?_
    refine sg_iald hx hb hK hP 1 0 rfl rfl (j := xl) rfl (by omega) (Nat.le_of_ble_eq_true rfl) dX1_tell_37 ?_
    refine lv_toi (y := P 40 xl) rfl ?_
    exact W.iret (v := (P 40 xl)) hx hb hr (fun t ht hW => ⟨(P 40 xl), rfl, (show (P 40 xl : Int32) = sg_ltell P xl xw from by rw [sg_ltell, if_pos c_1]), ht⟩) hL dX1_tell_38
  · by_cases c_2 : xw = 1
    · refine lv_tableIn (x := nI xw) (tgt := 39) (off := 38) hx hb dX1_tell_1 (by rw [c_2]; decide) (by rw [c_2]; decide) (by rw [c_2]; decide +kernel) (by decide) ?_
      refine lv_aload_n hx hb dX1_tell_39 rfl (lv_at hl 0 rfl) ?_
      refine va_get (D := D) (ci := 1) (v := .ref (a 41)) (C := RX1) (T := TX1) (N := 6) hx hb hts in1 hown hK hP 0 rfl rfl 2 (by decide) (hts (.fieldLink RX1 15 "Granary$Lots" "site" "[I") (by decide +kernel)) (fun _ h9 => h9) rfl dX1_tell_40 ?_
      refine lv_iload_n hx hb dX1_tell_43 rfl (lv_at hl 1 rfl) ?_
      refine sg_iald hx hb hK hP 2 0 rfl rfl (j := xl) rfl (by omega) (Nat.le_of_ble_eq_true rfl) dX1_tell_44 ?_
      refine lv_toi (y := P 41 xl) rfl ?_
      exact W.iret (v := (P 41 xl)) hx hb hr (fun t ht hW => ⟨(P 41 xl), rfl, (show (P 41 xl : Int32) = sg_ltell P xl xw from by rw [sg_ltell, if_neg c_1, if_pos c_2]), ht⟩) hL dX1_tell_45
    · by_cases c_3 : xw = 2
      · refine lv_tableIn (x := nI xw) (tgt := 46) (off := 45) hx hb dX1_tell_1 (by rw [c_3]; decide) (by rw [c_3]; decide) (by rw [c_3]; decide +kernel) (by decide) ?_
        refine lv_aload_n hx hb dX1_tell_46 rfl (lv_at hl 0 rfl) ?_
        refine va_get (D := D) (ci := 1) (v := .ref (a 42)) (C := RX1) (T := TX1) (N := 6) hx hb hts in1 hown hK hP 0 rfl rfl 3 (by decide) (hts (.fieldLink RX1 18 "Granary$Lots" "units" "[I") (by decide +kernel)) (fun _ h9 => h9) rfl dX1_tell_47 ?_
        refine lv_iload_n hx hb dX1_tell_50 rfl (lv_at hl 1 rfl) ?_
        refine sg_iald hx hb hK hP 3 0 rfl rfl (j := xl) rfl (by omega) (Nat.le_of_ble_eq_true rfl) dX1_tell_51 ?_
        refine lv_toi (y := P 42 xl) rfl ?_
        exact W.iret (v := (P 42 xl)) hx hb hr (fun t ht hW => ⟨(P 42 xl), rfl, (show (P 42 xl : Int32) = sg_ltell P xl xw from by rw [sg_ltell, if_neg c_1, if_neg c_2, if_pos c_3]), ht⟩) hL dX1_tell_52
      · by_cases c_4 : xw = 3
        · refine lv_tableIn (x := nI xw) (tgt := 53) (off := 52) hx hb dX1_tell_1 (by rw [c_4]; decide) (by rw [c_4]; decide) (by rw [c_4]; decide +kernel) (by decide) ?_
          refine lv_aload_n hx hb dX1_tell_53 rfl (lv_at hl 0 rfl) ?_
          refine va_get (D := D) (ci := 1) (v := .ref (a 43)) (C := RX1) (T := TX1) (N := 6) hx hb hts in1 hown hK hP 0 rfl rfl 4 (by decide) (hts (.fieldLink RX1 21 "Granary$Lots" "reserved" "[I") (by decide +kernel)) (fun _ h9 => h9) rfl dX1_tell_54 ?_
          refine lv_iload_n hx hb dX1_tell_57 rfl (lv_at hl 1 rfl) ?_
          refine sg_iald hx hb hK hP 4 0 rfl rfl (j := xl) rfl (by omega) (Nat.le_of_ble_eq_true rfl) dX1_tell_58 ?_
          refine lv_toi (y := P 43 xl) rfl ?_
          exact W.iret (v := (P 43 xl)) hx hb hr (fun t ht hW => ⟨(P 43 xl), rfl, (show (P 43 xl : Int32) = sg_ltell P xl xw from by rw [sg_ltell, if_neg c_1, if_neg c_2, if_neg c_3, if_pos c_4]), ht⟩) hL dX1_tell_59
        · refine lv_tableOut (tgt := 60) hx hb dX1_tell_1 (Or.inr (by rw [nI_toInt (by omega)]; omega)) (by decide) ?_
          refine lv_aload_n hx hb dX1_tell_60 rfl (lv_at hl 0 rfl) ?_
          refine va_get (D := D) (ci := 1) (v := .ref (a 44)) (C := RX1) (T := TX1) (N := 6) hx hb hts in1 hown hK hP 0 rfl rfl 5 (by decide) (hts (.fieldLink RX1 24 "Granary$Lots" "last" "[I") (by decide +kernel)) (fun _ h9 => h9) rfl dX1_tell_61 ?_
          refine lv_iload_n hx hb dX1_tell_64 rfl (lv_at hl 1 rfl) ?_
          refine sg_iald hx hb hK hP 5 0 rfl rfl (j := xl) rfl (by omega) (Nat.le_of_ble_eq_true rfl) dX1_tell_65 ?_
          refine lv_toi (y := P 44 xl) rfl ?_
          exact W.iret (v := (P 44 xl)) hx hb hr (fun t ht hW => ⟨(P 44 xl), rfl, (show (P 44 xl : Int32) = sg_ltell P xl xw from by rw [sg_ltell, if_neg c_1, if_neg c_2, if_neg c_3, if_neg c_4]), ht⟩) hL dX1_tell_66

def sg_otell (P : sg_Pic) (xl : Nat) (xw : Nat) : Int32 := (if xw = 0 then (P 57 xl) else (if xw = 1 then (P 52 xl) else (if xw = 2 then (P 53 xl) else (if xw = 3 then (P 54 xl) else (P 58 xl)))))

set_option maxHeartbeats 4000000 in
set_option maxRecDepth 100000 in
/-- X2_tell -/
theorem c_otell (l : Launch) (D : va_G) (cI cZ cJ : ClassId) (lo sz : Nat) (a : Nat → Nat) (P : sg_Pic) (xl : Nat) (xw : Nat) (hl0 : xl < 60) (hx0 : xw < 5) : Met l yX2_tell wsX2_tell ({ frames := 0, cells := 0, slots := 0, locals := 0 }) (Pre lo D cI cZ cJ [.ref (a 5), .int (nI xl), .int (nI xw)] sz [(a 5, .inr (2, [.int (P 0 4), .ref (a 50), .ref (a 51), .ref (a 52), .ref (a 53), .ref (a 54), .ref (a 55), .ref (a 56), .ref (a 57), .ref (a 58), .ref (a 59)])), (a 50, .inl (cI, 60, .inl (P 50))), (a 51, .inl (cI, 60, .inl (P 51))), (a 52, .inl (cI, 60, .inl (P 52))), (a 53, .inl (cI, 60, .inl (P 53))), (a 54, .inl (cI, 60, .inl (P 54))), (a 55, .inl (cI, 60, .inl (P 55))), (a 56, .inl (cI, 60, .inl (P 56))), (a 57, .inl (cI, 60, .inl (P 57))), (a 58, .inl (cI, 60, .inl (P 58))), (a 59, .inl (cI, 12000, .inl (P 59)))]) (vp_Si (fun r => r = sg_otell P xl xw)) 0 0 (fun _ => False) := by
  refine Met.ofW (cc := cX2_tell) (maxL := 3) (ret := (some .int)) (by decide) rfl ?_
  intro p e s m args below meth c s₁ B hml hv
  obtain ⟨rfl, hsz, hP, hD0, hC⟩ := hv
  have hx := B.exec
  have hb := B.bytes
  have hr := B.returns
  have hts := atoms_spec (ws := wsX2_tell) B.pre
  have hown : s.vm.findClass RX2 = some m.cls := findClass_of_methodNamed B.named
  have hlocks := B.notSynchronized
  subst hsz
  have hK := hC.K
  have hD := hD0
  have hS : va_S (fun q => lo ≤ q) s.heap s.heap [] := va_S.rf
  have hAlo : ∀ q, (fun q => lo ≤ q) q → lo ≤ q := fun _ h => h
  have hL : ∀ q ∈ ([] : List Loc), (fun _ : Addr => False) q.base := fun q h => by cases h
  have hP : va_P D vwCl [(a 5, .inr (2, [.int (P 0 4), .ref (a 50), .ref (a 51), .ref (a 52), .ref (a 53), .ref (a 54), .ref (a 55), .ref (a 56), .ref (a 57), .ref (a 58), .ref (a 59)])), (a 50, .inl (cI, 60, .inl (P 50))), (a 51, .inl (cI, 60, .inl (P 51))), (a 52, .inl (cI, 60, .inl (P 52))), (a 53, .inl (cI, 60, .inl (P 53))), (a 54, .inl (cI, 60, .inl (P 54))), (a 55, .inl (cI, 60, .inl (P 55))), (a 56, .inl (cI, 60, .inl (P 56))), (a 57, .inl (cI, 60, .inl (P 57))), (a 58, .inl (cI, 60, .inl (P 58))), (a 59, .inl (cI, 12000, .inl (P 59)))] s.heap := hP
  have hl := lv_entry ([.ref (a 5), .int (nI xl), .int (nI xw)]) (n := 3) (Nat.le_of_ble_eq_true rfl)
  rw [lg_entry_eq]
  generalize (lg_sl ([.ref (a 5), .int (nI xl), .int (nI xw)]) ++ List.replicate (3 - (lg_sl ([.ref (a 5), .int (nI xl), .int (nI xw)])).length) Slot.unset).toArray = ls at hl ⊢
  have hl : lv_has ls 3 [(0, .ref (a 5)), (1, .int (nI xl)), (2, .int (nI xw))] := hl
  have in2 : ∀ w ∈ u_ws RX2 TX2 11, w ∈ wsX2_tell := by decide +kernel
  refine lv_iload_n hx hb dX2_tell_0 rfl (lv_at hl 2 rfl) ?_
  by_cases c_1 : xw = 0
  · refine lv_tableIn (x := nI xw) (tgt := 32) (off := 31) hx hb dX2_tell_1 (by rw [c_1]; decide) (by rw [c_1]; decide) (by rw [c_1]; decide +kernel) (by decide) ?_
    refine lv_aload_n hx hb dX2_tell_32 rfl (lv_at hl 0 rfl) ?_
    refine va_get (D := D) (ci := 2) (v := .ref (a 57)) (C := RX2) (T := TX2) (N := 11) hx hb hts in2 hown hK hP 0 rfl rfl 8 (by decide) (hts (.fieldLink RX2 33 "Granary$Orders" "state" "[I") (by decide +kernel)) (fun _ h9 => h9) rfl dX2_tell_33 ?_
    refine lv_iload_n hx hb dX2_tell_36 rfl (lv_at hl 1 rfl) ?_
    refine sg_iald hx hb hK hP 8 0 rfl rfl (j := xl) rfl (by omega) (Nat.le_of_ble_eq_true rfl) dX2_tell_37 ?_
    refine lv_toi (y := P 57 xl) rfl ?_
    exact W.iret (v := (P 57 xl)) hx hb hr (fun t ht hW => ⟨(P 57 xl), rfl, (show (P 57 xl : Int32) = sg_otell P xl xw from by rw [sg_otell, if_pos c_1]), ht⟩) hL dX2_tell_38
  · by_cases c_2 : xw = 1
    · refine lv_tableIn (x := nI xw) (tgt := 39) (off := 38) hx hb dX2_tell_1 (by rw [c_2]; decide) (by rw [c_2]; decide) (by rw [c_2]; decide +kernel) (by decide) ?_
      refine lv_aload_n hx hb dX2_tell_39 rfl (lv_at hl 0 rfl) ?_
      refine va_get (D := D) (ci := 2) (v := .ref (a 52)) (C := RX2) (T := TX2) (N := 11) hx hb hts in2 hown hK hP 0 rfl rfl 3 (by decide) (hts (.fieldLink RX2 18 "Granary$Orders" "units" "[I") (by decide +kernel)) (fun _ h9 => h9) rfl dX2_tell_40 ?_
      refine lv_iload_n hx hb dX2_tell_43 rfl (lv_at hl 1 rfl) ?_
      refine sg_iald hx hb hK hP 3 0 rfl rfl (j := xl) rfl (by omega) (Nat.le_of_ble_eq_true rfl) dX2_tell_44 ?_
      refine lv_toi (y := P 52 xl) rfl ?_
      exact W.iret (v := (P 52 xl)) hx hb hr (fun t ht hW => ⟨(P 52 xl), rfl, (show (P 52 xl : Int32) = sg_otell P xl xw from by rw [sg_otell, if_neg c_1, if_pos c_2]), ht⟩) hL dX2_tell_45
    · by_cases c_3 : xw = 2
      · refine lv_tableIn (x := nI xw) (tgt := 46) (off := 45) hx hb dX2_tell_1 (by rw [c_3]; decide) (by rw [c_3]; decide) (by rw [c_3]; decide +kernel) (by decide) ?_
        refine lv_aload_n hx hb dX2_tell_46 rfl (lv_at hl 0 rfl) ?_
        refine va_get (D := D) (ci := 2) (v := .ref (a 53)) (C := RX2) (T := TX2) (N := 11) hx hb hts in2 hown hK hP 0 rfl rfl 4 (by decide) (hts (.fieldLink RX2 21 "Granary$Orders" "reserved" "[I") (by decide +kernel)) (fun _ h9 => h9) rfl dX2_tell_47 ?_
        refine lv_iload_n hx hb dX2_tell_50 rfl (lv_at hl 1 rfl) ?_
        refine sg_iald hx hb hK hP 4 0 rfl rfl (j := xl) rfl (by omega) (Nat.le_of_ble_eq_true rfl) dX2_tell_51 ?_
        refine lv_toi (y := P 53 xl) rfl ?_
        exact W.iret (v := (P 53 xl)) hx hb hr (fun t ht hW => ⟨(P 53 xl), rfl, (show (P 53 xl : Int32) = sg_otell P xl xw from by rw [sg_otell, if_neg c_1, if_neg c_2, if_pos c_3]), ht⟩) hL dX2_tell_52
      · by_cases c_4 : xw = 3
        · refine lv_tableIn (x := nI xw) (tgt := 53) (off := 52) hx hb dX2_tell_1 (by rw [c_4]; decide) (by rw [c_4]; decide) (by rw [c_4]; decide +kernel) (by decide) ?_
          refine lv_aload_n hx hb dX2_tell_53 rfl (lv_at hl 0 rfl) ?_
          refine va_get (D := D) (ci := 2) (v := .ref (a 54)) (C := RX2) (T := TX2) (N := 11) hx hb hts in2 hown hK hP 0 rfl rfl 5 (by decide) (hts (.fieldLink RX2 24 "Granary$Orders" "due" "[I") (by decide +kernel)) (fun _ h9 => h9) rfl dX2_tell_54 ?_
          refine lv_iload_n hx hb dX2_tell_57 rfl (lv_at hl 1 rfl) ?_
          refine sg_iald hx hb hK hP 5 0 rfl rfl (j := xl) rfl (by omega) (Nat.le_of_ble_eq_true rfl) dX2_tell_58 ?_
          refine lv_toi (y := P 54 xl) rfl ?_
          exact W.iret (v := (P 54 xl)) hx hb hr (fun t ht hW => ⟨(P 54 xl), rfl, (show (P 54 xl : Int32) = sg_otell P xl xw from by rw [sg_otell, if_neg c_1, if_neg c_2, if_neg c_3, if_pos c_4]), ht⟩) hL dX2_tell_59
        · refine lv_tableOut (tgt := 60) hx hb dX2_tell_1 (Or.inr (by rw [nI_toInt (by omega)]; omega)) (by decide) ?_
          refine lv_aload_n hx hb dX2_tell_60 rfl (lv_at hl 0 rfl) ?_
          refine va_get (D := D) (ci := 2) (v := .ref (a 58)) (C := RX2) (T := TX2) (N := 11) hx hb hts in2 hown hK hP 0 rfl rfl 9 (by decide) (hts (.fieldLink RX2 36 "Granary$Orders" "shipDay" "[I") (by decide +kernel)) (fun _ h9 => h9) rfl dX2_tell_61 ?_
          refine lv_iload_n hx hb dX2_tell_64 rfl (lv_at hl 1 rfl) ?_
          refine sg_iald hx hb hK hP 9 0 rfl rfl (j := xl) rfl (by omega) (Nat.le_of_ble_eq_true rfl) dX2_tell_65 ?_
          refine lv_toi (y := P 58 xl) rfl ?_
          exact W.iret (v := (P 58 xl)) hx hb hr (fun t ht hW => ⟨(P 58 xl), rfl, (show (P 58 xl : Int32) = sg_otell P xl xw from by rw [sg_otell, if_neg c_1, if_neg c_2, if_neg c_3, if_neg c_4]), ht⟩) hL dX2_tell_66

def sg_ttell (P : sg_Pic) (xl : Nat) (xw : Nat) : Int32 := (if xw = 0 then (P 60 xl) else (if xw = 1 then (P 61 xl) else (if xw = 2 then (P 62 xl) else (if xw = 3 then (P 63 xl) else (if xw = 4 then (P 64 xl) else (P 65 xl))))))

set_option maxHeartbeats 4000000 in
set_option maxRecDepth 100000 in
/-- X7_tell -/
theorem c_ttell (l : Launch) (D : va_G) (cI cZ cJ : ClassId) (lo sz : Nat) (a : Nat → Nat) (P : sg_Pic) (xl : Nat) (xw : Nat) (hl0 : xl < 90) (hx0 : xw < 6) : Met l yX7_tell wsX7_tell ({ frames := 0, cells := 0, slots := 0, locals := 0 }) (Pre lo D cI cZ cJ [.ref (a 6), .int (nI xl), .int (nI xw)] sz [(a 6, .inr (7, [.int (P 0 5), .ref (a 60), .ref (a 61), .ref (a 62), .ref (a 63), .ref (a 64), .ref (a 65)])), (a 60, .inl (cI, 90, .inl (P 60))), (a 61, .inl (cI, 90, .inl (P 61))), (a 62, .inl (cI, 90, .inl (P 62))), (a 63, .inl (cI, 90, .inl (P 63))), (a 64, .inl (cI, 90, .inl (P 64))), (a 65, .inl (cI, 90, .inl (P 65)))]) (vp_Si (fun r => r = sg_ttell P xl xw)) 0 0 (fun _ => False) := by
  refine Met.ofW (cc := cX7_tell) (maxL := 3) (ret := (some .int)) (by decide) rfl ?_
  intro p e s m args below meth c s₁ B hml hv
  obtain ⟨rfl, hsz, hP, hD0, hC⟩ := hv
  have hx := B.exec
  have hb := B.bytes
  have hr := B.returns
  have hts := atoms_spec (ws := wsX7_tell) B.pre
  have hown : s.vm.findClass RX7 = some m.cls := findClass_of_methodNamed B.named
  have hlocks := B.notSynchronized
  subst hsz
  have hK := hC.K
  have hD := hD0
  have hS : va_S (fun q => lo ≤ q) s.heap s.heap [] := va_S.rf
  have hAlo : ∀ q, (fun q => lo ≤ q) q → lo ≤ q := fun _ h => h
  have hL : ∀ q ∈ ([] : List Loc), (fun _ : Addr => False) q.base := fun q h => by cases h
  have hP : va_P D vwCl [(a 6, .inr (7, [.int (P 0 5), .ref (a 60), .ref (a 61), .ref (a 62), .ref (a 63), .ref (a 64), .ref (a 65)])), (a 60, .inl (cI, 90, .inl (P 60))), (a 61, .inl (cI, 90, .inl (P 61))), (a 62, .inl (cI, 90, .inl (P 62))), (a 63, .inl (cI, 90, .inl (P 63))), (a 64, .inl (cI, 90, .inl (P 64))), (a 65, .inl (cI, 90, .inl (P 65)))] s.heap := hP
  have hl := lv_entry ([.ref (a 6), .int (nI xl), .int (nI xw)]) (n := 3) (Nat.le_of_ble_eq_true rfl)
  rw [lg_entry_eq]
  generalize (lg_sl ([.ref (a 6), .int (nI xl), .int (nI xw)]) ++ List.replicate (3 - (lg_sl ([.ref (a 6), .int (nI xl), .int (nI xw)])).length) Slot.unset).toArray = ls at hl ⊢
  have hl : lv_has ls 3 [(0, .ref (a 6)), (1, .int (nI xl)), (2, .int (nI xw))] := hl
  have in7 : ∀ w ∈ u_ws RX7 TX7 7, w ∈ wsX7_tell := by decide +kernel
  refine lv_iload_n hx hb dX7_tell_0 rfl (lv_at hl 2 rfl) ?_
  by_cases c_1 : xw = 0
  · refine lv_tableIn (x := nI xw) (tgt := 36) (off := 35) hx hb dX7_tell_1 (by rw [c_1]; decide) (by rw [c_1]; decide) (by rw [c_1]; decide +kernel) (by decide) ?_
    refine lv_aload_n hx hb dX7_tell_36 rfl (lv_at hl 0 rfl) ?_
    refine va_get (D := D) (ci := 7) (v := .ref (a 60)) (C := RX7) (T := TX7) (N := 7) hx hb hts in7 hown hK hP 0 rfl rfl 1 (by decide) (hts (.fieldLink RX7 9 "Granary$Transports" "item" "[I") (by decide +kernel)) (fun _ h9 => h9) rfl dX7_tell_37 ?_
    refine lv_iload_n hx hb dX7_tell_40 rfl (lv_at hl 1 rfl) ?_
    refine sg_iald hx hb hK hP 1 0 rfl rfl (j := xl) rfl (by omega) (Nat.le_of_ble_eq_true rfl) dX7_tell_41 ?_
    refine lv_toi (y := P 60 xl) rfl ?_
    exact W.iret (v := (P 60 xl)) hx hb hr (fun t ht hW => ⟨(P 60 xl), rfl, (show (P 60 xl : Int32) = sg_ttell P xl xw from by rw [sg_ttell, if_pos c_1]), ht⟩) hL dX7_tell_42
  · by_cases c_2 : xw = 1
    · refine lv_tableIn (x := nI xw) (tgt := 43) (off := 42) hx hb dX7_tell_1 (by rw [c_2]; decide) (by rw [c_2]; decide) (by rw [c_2]; decide +kernel) (by decide) ?_
      refine lv_aload_n hx hb dX7_tell_43 rfl (lv_at hl 0 rfl) ?_
      refine va_get (D := D) (ci := 7) (v := .ref (a 61)) (C := RX7) (T := TX7) (N := 7) hx hb hts in7 hown hK hP 0 rfl rfl 2 (by decide) (hts (.fieldLink RX7 15 "Granary$Transports" "site" "[I") (by decide +kernel)) (fun _ h9 => h9) rfl dX7_tell_44 ?_
      refine lv_iload_n hx hb dX7_tell_47 rfl (lv_at hl 1 rfl) ?_
      refine sg_iald hx hb hK hP 2 0 rfl rfl (j := xl) rfl (by omega) (Nat.le_of_ble_eq_true rfl) dX7_tell_48 ?_
      refine lv_toi (y := P 61 xl) rfl ?_
      exact W.iret (v := (P 61 xl)) hx hb hr (fun t ht hW => ⟨(P 61 xl), rfl, (show (P 61 xl : Int32) = sg_ttell P xl xw from by rw [sg_ttell, if_neg c_1, if_pos c_2]), ht⟩) hL dX7_tell_49
    · by_cases c_3 : xw = 2
      · refine lv_tableIn (x := nI xw) (tgt := 50) (off := 49) hx hb dX7_tell_1 (by rw [c_3]; decide) (by rw [c_3]; decide) (by rw [c_3]; decide +kernel) (by decide) ?_
        refine lv_aload_n hx hb dX7_tell_50 rfl (lv_at hl 0 rfl) ?_
        refine va_get (D := D) (ci := 7) (v := .ref (a 62)) (C := RX7) (T := TX7) (N := 7) hx hb hts in7 hown hK hP 0 rfl rfl 3 (by decide) (hts (.fieldLink RX7 18 "Granary$Transports" "units" "[I") (by decide +kernel)) (fun _ h9 => h9) rfl dX7_tell_51 ?_
        refine lv_iload_n hx hb dX7_tell_54 rfl (lv_at hl 1 rfl) ?_
        refine sg_iald hx hb hK hP 3 0 rfl rfl (j := xl) rfl (by omega) (Nat.le_of_ble_eq_true rfl) dX7_tell_55 ?_
        refine lv_toi (y := P 62 xl) rfl ?_
        exact W.iret (v := (P 62 xl)) hx hb hr (fun t ht hW => ⟨(P 62 xl), rfl, (show (P 62 xl : Int32) = sg_ttell P xl xw from by rw [sg_ttell, if_neg c_1, if_neg c_2, if_pos c_3]), ht⟩) hL dX7_tell_56
      · by_cases c_4 : xw = 3
        · refine lv_tableIn (x := nI xw) (tgt := 57) (off := 56) hx hb dX7_tell_1 (by rw [c_4]; decide) (by rw [c_4]; decide) (by rw [c_4]; decide +kernel) (by decide) ?_
          refine lv_aload_n hx hb dX7_tell_57 rfl (lv_at hl 0 rfl) ?_
          refine va_get (D := D) (ci := 7) (v := .ref (a 63)) (C := RX7) (T := TX7) (N := 7) hx hb hts in7 hown hK hP 0 rfl rfl 4 (by decide) (hts (.fieldLink RX7 21 "Granary$Transports" "arrival" "[I") (by decide +kernel)) (fun _ h9 => h9) rfl dX7_tell_58 ?_
          refine lv_iload_n hx hb dX7_tell_61 rfl (lv_at hl 1 rfl) ?_
          refine sg_iald hx hb hK hP 4 0 rfl rfl (j := xl) rfl (by omega) (Nat.le_of_ble_eq_true rfl) dX7_tell_62 ?_
          refine lv_toi (y := P 63 xl) rfl ?_
          exact W.iret (v := (P 63 xl)) hx hb hr (fun t ht hW => ⟨(P 63 xl), rfl, (show (P 63 xl : Int32) = sg_ttell P xl xw from by rw [sg_ttell, if_neg c_1, if_neg c_2, if_neg c_3, if_pos c_4]), ht⟩) hL dX7_tell_63
        · by_cases c_5 : xw = 4
          · refine lv_tableIn (x := nI xw) (tgt := 64) (off := 63) hx hb dX7_tell_1 (by rw [c_5]; decide) (by rw [c_5]; decide) (by rw [c_5]; decide +kernel) (by decide) ?_
            refine lv_aload_n hx hb dX7_tell_64 rfl (lv_at hl 0 rfl) ?_
            refine va_get (D := D) (ci := 7) (v := .ref (a 64)) (C := RX7) (T := TX7) (N := 7) hx hb hts in7 hown hK hP 0 rfl rfl 5 (by decide) (hts (.fieldLink RX7 24 "Granary$Transports" "last" "[I") (by decide +kernel)) (fun _ h9 => h9) rfl dX7_tell_65 ?_
            refine lv_iload_n hx hb dX7_tell_68 rfl (lv_at hl 1 rfl) ?_
            refine sg_iald hx hb hK hP 5 0 rfl rfl (j := xl) rfl (by omega) (Nat.le_of_ble_eq_true rfl) dX7_tell_69 ?_
            refine lv_toi (y := P 64 xl) rfl ?_
            exact W.iret (v := (P 64 xl)) hx hb hr (fun t ht hW => ⟨(P 64 xl), rfl, (show (P 64 xl : Int32) = sg_ttell P xl xw from by rw [sg_ttell, if_neg c_1, if_neg c_2, if_neg c_3, if_neg c_4, if_pos c_5]), ht⟩) hL dX7_tell_70
          · refine lv_tableOut (tgt := 71) hx hb dX7_tell_1 (Or.inr (by rw [nI_toInt (by omega)]; omega)) (by decide) ?_
            refine lv_aload_n hx hb dX7_tell_71 rfl (lv_at hl 0 rfl) ?_
            refine va_get (D := D) (ci := 7) (v := .ref (a 65)) (C := RX7) (T := TX7) (N := 7) hx hb hts in7 hown hK hP 0 rfl rfl 6 (by decide) (hts (.fieldLink RX7 27 "Granary$Transports" "moving" "[I") (by decide +kernel)) (fun _ h9 => h9) rfl dX7_tell_72 ?_
            refine lv_iload_n hx hb dX7_tell_75 rfl (lv_at hl 1 rfl) ?_
            refine sg_iald hx hb hK hP 6 0 rfl rfl (j := xl) rfl (by omega) (Nat.le_of_ble_eq_true rfl) dX7_tell_76 ?_
            refine lv_toi (y := P 65 xl) rfl ?_
            exact W.iret (v := (P 65 xl)) hx hb hr (fun t ht hW => ⟨(P 65 xl), rfl, (show (P 65 xl : Int32) = sg_ttell P xl xw from by rw [sg_ttell, if_neg c_1, if_neg c_2, if_neg c_3, if_neg c_4, if_neg c_5]), ht⟩) hL dX7_tell_77

def sg_roomAt (P : sg_Pic) (x : Int32) : Int32 := (if (sg_X5_has P x) = 0 then 0 else ((P 20 (Int32.toNatClampNeg x)) - (sg_allUnitsAt P (nI (Int32.toNatClampNeg x)))))

set_option maxHeartbeats 4000000 in
set_option maxRecDepth 100000 in
/-- X6_roomAt -/
theorem c_roomAt (l : Launch) (D : va_G) (cI cZ cJ : ClassId) (lo sz : Nat) (a : Nat → Nat) (P : sg_Pic) (x : Int32) (hw : sg_W P) : Met l yX6_roomAt wsX6_roomAt ({ frames := 1, cells := 0, slots := 0, locals := 23 }) (Pre lo D cI cZ cJ [.ref (a 0), .int x] sz [(a 0, .inr (6, [.int (P 0 0), .ref (a 1), .ref (a 2), .ref (a 3), .ref (a 4), .ref (a 5), .ref (a 6), .ref (a 70), .ref (a 71)])), (a 2, .inr (5, [.int (P 0 2), .ref (a 20), .ref (a 21)])), (a 4, .inr (1, [.int (P 0 3), .ref (a 40), .ref (a 41), .ref (a 42), .ref (a 43), .ref (a 44)])), (a 20, .inl (cI, 5, .inl (P 20))), (a 21, .inl (cI, 25, .inl (P 21))), (a 40, .inl (cI, 200, .inl (P 40))), (a 41, .inl (cI, 200, .inl (P 41))), (a 42, .inl (cI, 200, .inl (P 42))), (a 43, .inl (cI, 200, .inl (P 43))), (a 44, .inl (cI, 200, .inl (P 44)))]) (vp_Si (fun r => r = sg_roomAt P x)) 0 0 (fun _ => False) := by
  refine Met.ofW (cc := cX6_roomAt) (maxL := 2) (ret := (some .int)) (by decide) rfl ?_
  intro p e s m args below meth c s₁ B hml hv
  obtain ⟨rfl, hsz, hP, hD0, hC⟩ := hv
  have hx := B.exec
  have hb := B.bytes
  have hr := B.returns
  have hts := atoms_spec (ws := wsX6_roomAt) B.pre
  have hown : s.vm.findClass RX6 = some m.cls := findClass_of_methodNamed B.named
  have hlocks := B.notSynchronized
  subst hsz
  have hn1 : sg_cn P 1 ≤ 6 := hw.n1
  have hn2 : sg_cn P 2 ≤ 5 := hw.n2
  have hn3 : sg_cn P 3 ≤ 200 := hw.n3
  have hn4 : sg_cn P 4 ≤ 60 := hw.n4
  have hn5 : sg_cn P 5 ≤ 90 := hw.n5
  have hK := hC.K
  have hD := hD0
  have hS : va_S (fun q => lo ≤ q) s.heap s.heap [] := va_S.rf
  have hAlo : ∀ q, (fun q => lo ≤ q) q → lo ≤ q := fun _ h => h
  have hL : ∀ q ∈ ([] : List Loc), (fun _ : Addr => False) q.base := fun q h => by cases h
  have hP : va_P D vwCl [(a 0, .inr (6, [.int (P 0 0), .ref (a 1), .ref (a 2), .ref (a 3), .ref (a 4), .ref (a 5), .ref (a 6), .ref (a 70), .ref (a 71)])), (a 2, .inr (5, [.int (P 0 2), .ref (a 20), .ref (a 21)])), (a 4, .inr (1, [.int (P 0 3), .ref (a 40), .ref (a 41), .ref (a 42), .ref (a 43), .ref (a 44)])), (a 20, .inl (cI, 5, .inl (P 20))), (a 21, .inl (cI, 25, .inl (P 21))), (a 40, .inl (cI, 200, .inl (P 40))), (a 41, .inl (cI, 200, .inl (P 41))), (a 42, .inl (cI, 200, .inl (P 42))), (a 43, .inl (cI, 200, .inl (P 43))), (a 44, .inl (cI, 200, .inl (P 44)))] s.heap := hP
  have hl := lv_entry ([.ref (a 0), .int x]) (n := 2) (Nat.le_of_ble_eq_true rfl)
  rw [lg_entry_eq]
  generalize (lg_sl ([.ref (a 0), .int x]) ++ List.replicate (2 - (lg_sl ([.ref (a 0), .int x])).length) Slot.unset).toArray = ls at hl ⊢
  have hl : lv_has ls 2 [(0, .ref (a 0)), (1, .int x)] := hl
  have in5 : ∀ w ∈ u_ws RX5 TX5 3, w ∈ wsX6_roomAt := by decide +kernel
  have in6 : ∀ w ∈ u_ws RX6 TX6 9, w ∈ wsX6_roomAt := by decide +kernel
  refine lv_aload_n hx hb dX6_roomAt_0 rfl (lv_at hl 0 rfl) ?_
  refine va_get (D := D) (ci := 6) (v := .ref (a 2)) (C := RX6) (T := TX6) (N := 9) hx hb hts in6 hown hK hP 0 rfl rfl 2 (by decide) (hts (.fieldLink RX6 21 "Granary$Stock" "sites" "LGranary$Sites;") (by decide +kernel)) (fun _ h9 => h9) rfl dX6_roomAt_1 ?_
  refine lv_iload_n hx hb dX6_roomAt_4 rfl (lv_at hl 1 rfl) ?_
  have hPc := hP.sub (ws' := [(a 2, .inr (5, [.int (P 0 2), .ref (a 20), .ref (a 21)]))]) [1] rfl
  have hDc := hD.sub (ws' := [(a 2, .inr (5, [.int (P 0 2), .ref (a 20), .ref (a 21)]))]) [1] (by decide) rfl
  refine vp_callSi (W.runV (As := [.int x]) (rest := []) ⟨hx, hb, hml, hown, hts⟩ (c_X5_has l D cI cZ cJ lo s.heap.size a P x) (cwV 1 hts gX6_roomAt_X5_has rfl rfl rfl (by decide +kernel) ⟨(Nat.le_of_ble_eq_true rfl), (Nat.le_of_ble_eq_true rfl)⟩) ⟨Pre.blind, va_recv hK hP (ci := 5) (q0 := 1) rfl rfl, Pre.mk hPc (hDc.weaken (fun _ _ _ h => hAlo _ h)) hC hS hAlo⟩ rfl rfl hl.1 rfl (lv_room (Nat.le_of_ble_eq_true rfl)) dX6_roomAt_5 ⟨(Nat.le_of_ble_eq_true rfl), (Nat.le_of_ble_eq_true rfl)⟩) (fun r_1 e_2 => ?_)
  clear hPc hDc
  have e_2 : sg_X5_has P x = r_1 := Eq.symm e_2
  subst e_2
  refine lv_if_eq (tgt := 32) hx hb dX6_roomAt_8 (by decide) (fun c_3 => ?_) (fun c_3 => ?_)
  · refine lv_iconst (v := 0) hx hb dX6_roomAt_32 (by decide) ?_
    exact W.iret (v := 0) hx hb hr (fun t ht hW => ⟨0, rfl, (show (0 : Int32) = sg_roomAt P x from by rw [sg_roomAt, if_pos c_3]), ht⟩) hL dX6_roomAt_33
  · obtain ⟨e_4, le_4⟩ := sg_hasS hw c_3
    have e_4 : (x : Int32) = nI (Int32.toNatClampNeg x) := e_4
    have le_4 : Int32.toNatClampNeg x < sg_cn P 2 := le_4
    replace hl : lv_has ls 2 [(0, .ref (a 0)), (1, .int (nI (Int32.toNatClampNeg x)))] := by rw [← e_4]; exact hl
    refine lv_aload_n hx hb dX6_roomAt_11 rfl (lv_at hl 0 rfl) ?_
    refine va_get (D := D) (ci := 6) (v := .ref (a 2)) (C := RX6) (T := TX6) (N := 9) hx hb hts in6 hown hK hP 0 rfl rfl 2 (by decide) (hts (.fieldLink RX6 21 "Granary$Stock" "sites" "LGranary$Sites;") (by decide +kernel)) (fun _ h9 => h9) rfl dX6_roomAt_12 ?_
    refine va_get (D := D) (ci := 5) (v := .ref (a 20)) (C := RX5) (T := TX5) (N := 3) hx hb hts in5 hown hK hP 1 rfl rfl 1 (by decide) (hts (.fieldLink RX6 93 "Granary$Sites" "room" "[I") (by decide +kernel)) (fun _ h9 => h9) rfl dX6_roomAt_15 ?_
    refine lv_iload_n hx hb dX6_roomAt_18 rfl (lv_at hl 1 rfl) ?_
    refine sg_iald hx hb hK hP 3 0 rfl rfl (j := Int32.toNatClampNeg x) rfl (by omega) (Nat.le_of_ble_eq_true rfl) dX6_roomAt_19 ?_
    refine lv_toi (y := P 20 (Int32.toNatClampNeg x)) rfl ?_
    refine lv_aload_n hx hb dX6_roomAt_20 rfl (lv_at hl 0 rfl) ?_
    refine va_get (D := D) (ci := 6) (v := .ref (a 4)) (C := RX6) (T := TX6) (N := 9) hx hb hts in6 hown hK hP 0 rfl rfl 4 (by decide) (hts (.fieldLink RX6 35 "Granary$Stock" "lots" "LGranary$Lots;") (by decide +kernel)) (fun _ h9 => h9) rfl dX6_roomAt_21 ?_
    refine lv_iload_n hx hb dX6_roomAt_24 rfl (lv_at hl 1 rfl) ?_
    have hPc := hP.sub (ws' := [(a 4, .inr (1, [.int (P 0 3), .ref (a 40), .ref (a 41), .ref (a 42), .ref (a 43), .ref (a 44)])), (a 40, .inl (cI, 200, .inl (P 40))), (a 41, .inl (cI, 200, .inl (P 41))), (a 42, .inl (cI, 200, .inl (P 42))), (a 43, .inl (cI, 200, .inl (P 43))), (a 44, .inl (cI, 200, .inl (P 44)))]) [2, 5, 6, 7, 8, 9] rfl
    have hDc := hD.sub (ws' := [(a 4, .inr (1, [.int (P 0 3), .ref (a 40), .ref (a 41), .ref (a 42), .ref (a 43), .ref (a 44)])), (a 40, .inl (cI, 200, .inl (P 40))), (a 41, .inl (cI, 200, .inl (P 41))), (a 42, .inl (cI, 200, .inl (P 42))), (a 43, .inl (cI, 200, .inl (P 43))), (a 44, .inl (cI, 200, .inl (P 44)))]) [2, 5, 6, 7, 8, 9] (by decide) rfl
    refine vp_callSi (W.runV (As := [.int (nI (Int32.toNatClampNeg x))]) (rest := [.int (P 20 (Int32.toNatClampNeg x))]) ⟨hx, hb, hml, hown, hts⟩ (c_allUnitsAt l D cI cZ cJ lo s.heap.size a P (nI (Int32.toNatClampNeg x)) hw) (cwV 1 hts gX6_roomAt_X1_allUnitsAt rfl rfl rfl (by decide +kernel) ⟨(Nat.le_of_ble_eq_true rfl), (Nat.le_of_ble_eq_true rfl)⟩) ⟨Pre.blind, va_recv hK hP (ci := 1) (q0 := 2) rfl rfl, Pre.mk hPc (hDc.weaken (fun _ _ _ h => hAlo _ h)) hC hS hAlo⟩ rfl rfl hl.1 rfl (lv_room (Nat.le_of_ble_eq_true rfl)) dX6_roomAt_25 ⟨(Nat.le_of_ble_eq_true rfl), (Nat.le_of_ble_eq_true rfl)⟩) (fun r_5 e_6 => ?_)
    clear hPc hDc
    have e_6 : sg_allUnitsAt P (nI (Int32.toNatClampNeg x)) = r_5 := Eq.symm e_6
    subst e_6
    refine lv_isub hx hb dX6_roomAt_28 ?_
    refine lv_goto (tgt := 33) hx hb dX6_roomAt_29 (by decide) ?_
    exact W.iret (v := ((P 20 (Int32.toNatClampNeg x)) - (sg_allUnitsAt P (nI (Int32.toNatClampNeg x))))) hx hb hr (fun t ht hW => ⟨((P 20 (Int32.toNatClampNeg x)) - (sg_allUnitsAt P (nI (Int32.toNatClampNeg x)))), rfl, (show ((P 20 (Int32.toNatClampNeg x)) - (sg_allUnitsAt P (nI (Int32.toNatClampNeg x))) : Int32) = sg_roomAt P x from by rw [sg_roomAt, if_neg c_3]), ht⟩) hL dX6_roomAt_33

def sg_positionAt (P : sg_Pic) (x : Int32) (y : Int32) : Int32 := (((sg_unitsAt P x y) + (sg_unitsTo P x y)) - (sg_openUnitsFrom P x y))

set_option maxHeartbeats 4000000 in
set_option maxRecDepth 100000 in
/-- X6_positionAt -/
theorem c_positionAt (l : Launch) (D : va_G) (cI cZ cJ : ClassId) (lo sz : Nat) (a : Nat → Nat) (P : sg_Pic) (x : Int32) (y : Int32) (hw : sg_W P) : Met l yX6_positionAt wsX6_positionAt ({ frames := 2, cells := 0, slots := 0, locals := 47 }) (Pre lo D cI cZ cJ [.ref (a 0), .int x, .int y] sz [(a 0, .inr (6, [.int (P 0 0), .ref (a 1), .ref (a 2), .ref (a 3), .ref (a 4), .ref (a 5), .ref (a 6), .ref (a 70), .ref (a 71)])), (a 4, .inr (1, [.int (P 0 3), .ref (a 40), .ref (a 41), .ref (a 42), .ref (a 43), .ref (a 44)])), (a 5, .inr (2, [.int (P 0 4), .ref (a 50), .ref (a 51), .ref (a 52), .ref (a 53), .ref (a 54), .ref (a 55), .ref (a 56), .ref (a 57), .ref (a 58), .ref (a 59)])), (a 6, .inr (7, [.int (P 0 5), .ref (a 60), .ref (a 61), .ref (a 62), .ref (a 63), .ref (a 64), .ref (a 65)])), (a 40, .inl (cI, 200, .inl (P 40))), (a 41, .inl (cI, 200, .inl (P 41))), (a 42, .inl (cI, 200, .inl (P 42))), (a 43, .inl (cI, 200, .inl (P 43))), (a 44, .inl (cI, 200, .inl (P 44))), (a 50, .inl (cI, 60, .inl (P 50))), (a 51, .inl (cI, 60, .inl (P 51))), (a 52, .inl (cI, 60, .inl (P 52))), (a 53, .inl (cI, 60, .inl (P 53))), (a 54, .inl (cI, 60, .inl (P 54))), (a 55, .inl (cI, 60, .inl (P 55))), (a 56, .inl (cI, 60, .inl (P 56))), (a 57, .inl (cI, 60, .inl (P 57))), (a 58, .inl (cI, 60, .inl (P 58))), (a 59, .inl (cI, 12000, .inl (P 59))), (a 60, .inl (cI, 90, .inl (P 60))), (a 61, .inl (cI, 90, .inl (P 61))), (a 62, .inl (cI, 90, .inl (P 62))), (a 63, .inl (cI, 90, .inl (P 63))), (a 64, .inl (cI, 90, .inl (P 64))), (a 65, .inl (cI, 90, .inl (P 65)))]) (vp_Si (fun r => r = sg_positionAt P x y)) 0 0 (fun _ => False) := by
  refine Met.ofW (cc := cX6_positionAt) (maxL := 3) (ret := (some .int)) (by decide) rfl ?_
  intro p e s m args below meth c s₁ B hml hv
  obtain ⟨rfl, hsz, hP, hD0, hC⟩ := hv
  have hx := B.exec
  have hb := B.bytes
  have hr := B.returns
  have hts := atoms_spec (ws := wsX6_positionAt) B.pre
  have hown : s.vm.findClass RX6 = some m.cls := findClass_of_methodNamed B.named
  have hlocks := B.notSynchronized
  subst hsz
  have hn1 : sg_cn P 1 ≤ 6 := hw.n1
  have hn2 : sg_cn P 2 ≤ 5 := hw.n2
  have hn3 : sg_cn P 3 ≤ 200 := hw.n3
  have hn4 : sg_cn P 4 ≤ 60 := hw.n4
  have hn5 : sg_cn P 5 ≤ 90 := hw.n5
  have hK := hC.K
  have hD := hD0
  have hS : va_S (fun q => lo ≤ q) s.heap s.heap [] := va_S.rf
  have hAlo : ∀ q, (fun q => lo ≤ q) q → lo ≤ q := fun _ h => h
  have hL : ∀ q ∈ ([] : List Loc), (fun _ : Addr => False) q.base := fun q h => by cases h
  have hP : va_P D vwCl [(a 0, .inr (6, [.int (P 0 0), .ref (a 1), .ref (a 2), .ref (a 3), .ref (a 4), .ref (a 5), .ref (a 6), .ref (a 70), .ref (a 71)])), (a 4, .inr (1, [.int (P 0 3), .ref (a 40), .ref (a 41), .ref (a 42), .ref (a 43), .ref (a 44)])), (a 5, .inr (2, [.int (P 0 4), .ref (a 50), .ref (a 51), .ref (a 52), .ref (a 53), .ref (a 54), .ref (a 55), .ref (a 56), .ref (a 57), .ref (a 58), .ref (a 59)])), (a 6, .inr (7, [.int (P 0 5), .ref (a 60), .ref (a 61), .ref (a 62), .ref (a 63), .ref (a 64), .ref (a 65)])), (a 40, .inl (cI, 200, .inl (P 40))), (a 41, .inl (cI, 200, .inl (P 41))), (a 42, .inl (cI, 200, .inl (P 42))), (a 43, .inl (cI, 200, .inl (P 43))), (a 44, .inl (cI, 200, .inl (P 44))), (a 50, .inl (cI, 60, .inl (P 50))), (a 51, .inl (cI, 60, .inl (P 51))), (a 52, .inl (cI, 60, .inl (P 52))), (a 53, .inl (cI, 60, .inl (P 53))), (a 54, .inl (cI, 60, .inl (P 54))), (a 55, .inl (cI, 60, .inl (P 55))), (a 56, .inl (cI, 60, .inl (P 56))), (a 57, .inl (cI, 60, .inl (P 57))), (a 58, .inl (cI, 60, .inl (P 58))), (a 59, .inl (cI, 12000, .inl (P 59))), (a 60, .inl (cI, 90, .inl (P 60))), (a 61, .inl (cI, 90, .inl (P 61))), (a 62, .inl (cI, 90, .inl (P 62))), (a 63, .inl (cI, 90, .inl (P 63))), (a 64, .inl (cI, 90, .inl (P 64))), (a 65, .inl (cI, 90, .inl (P 65)))] s.heap := hP
  have hl := lv_entry ([.ref (a 0), .int x, .int y]) (n := 3) (Nat.le_of_ble_eq_true rfl)
  rw [lg_entry_eq]
  generalize (lg_sl ([.ref (a 0), .int x, .int y]) ++ List.replicate (3 - (lg_sl ([.ref (a 0), .int x, .int y])).length) Slot.unset).toArray = ls at hl ⊢
  have hl : lv_has ls 3 [(0, .ref (a 0)), (1, .int x), (2, .int y)] := hl
  have in6 : ∀ w ∈ u_ws RX6 TX6 9, w ∈ wsX6_positionAt := by decide +kernel
  refine lv_aload_n hx hb dX6_positionAt_0 rfl (lv_at hl 0 rfl) ?_
  refine va_get (D := D) (ci := 6) (v := .ref (a 4)) (C := RX6) (T := TX6) (N := 9) hx hb hts in6 hown hK hP 0 rfl rfl 4 (by decide) (hts (.fieldLink RX6 35 "Granary$Stock" "lots" "LGranary$Lots;") (by decide +kernel)) (fun _ h9 => h9) rfl dX6_positionAt_1 ?_
  refine lv_iload_n hx hb dX6_positionAt_4 rfl (lv_at hl 1 rfl) ?_
  refine lv_iload_n hx hb dX6_positionAt_5 rfl (lv_at hl 2 rfl) ?_
  have hPc := hP.sub (ws' := [(a 4, .inr (1, [.int (P 0 3), .ref (a 40), .ref (a 41), .ref (a 42), .ref (a 43), .ref (a 44)])), (a 40, .inl (cI, 200, .inl (P 40))), (a 41, .inl (cI, 200, .inl (P 41))), (a 42, .inl (cI, 200, .inl (P 42))), (a 43, .inl (cI, 200, .inl (P 43))), (a 44, .inl (cI, 200, .inl (P 44)))]) [1, 4, 5, 6, 7, 8] rfl
  have hDc := hD.sub (ws' := [(a 4, .inr (1, [.int (P 0 3), .ref (a 40), .ref (a 41), .ref (a 42), .ref (a 43), .ref (a 44)])), (a 40, .inl (cI, 200, .inl (P 40))), (a 41, .inl (cI, 200, .inl (P 41))), (a 42, .inl (cI, 200, .inl (P 42))), (a 43, .inl (cI, 200, .inl (P 43))), (a 44, .inl (cI, 200, .inl (P 44)))]) [1, 4, 5, 6, 7, 8] (by decide) rfl
  refine vp_callSi (W.runV (As := [.int x, .int y]) (rest := []) ⟨hx, hb, hml, hown, hts⟩ (c_unitsAt l D cI cZ cJ lo s.heap.size a P x y hw) (cwV 2 hts gX6_positionAt_X1_unitsAt rfl rfl rfl (by decide +kernel) ⟨(Nat.le_of_ble_eq_true rfl), (Nat.le_of_ble_eq_true rfl)⟩) ⟨Pre.blind, va_recv hK hP (ci := 1) (q0 := 1) rfl rfl, Pre.mk hPc (hDc.weaken (fun _ _ _ h => hAlo _ h)) hC hS hAlo⟩ rfl rfl hl.1 rfl (lv_room (Nat.le_of_ble_eq_true rfl)) dX6_positionAt_6 ⟨(Nat.le_of_ble_eq_true rfl), (Nat.le_of_ble_eq_true rfl)⟩) (fun r_1 e_2 => ?_)
  clear hPc hDc
  have e_2 : sg_unitsAt P x y = r_1 := Eq.symm e_2
  subst e_2
  refine lv_aload_n hx hb dX6_positionAt_9 rfl (lv_at hl 0 rfl) ?_
  refine va_get (D := D) (ci := 6) (v := .ref (a 6)) (C := RX6) (T := TX6) (N := 9) hx hb hts in6 hown hK hP 0 rfl rfl 6 (by decide) (hts (.fieldLink RX6 49 "Granary$Stock" "transports" "LGranary$Transports;") (by decide +kernel)) (fun _ h9 => h9) rfl dX6_positionAt_10 ?_
  refine lv_iload_n hx hb dX6_positionAt_13 rfl (lv_at hl 1 rfl) ?_
  refine lv_iload_n hx hb dX6_positionAt_14 rfl (lv_at hl 2 rfl) ?_
  have hPc := hP.sub (ws' := [(a 6, .inr (7, [.int (P 0 5), .ref (a 60), .ref (a 61), .ref (a 62), .ref (a 63), .ref (a 64), .ref (a 65)])), (a 60, .inl (cI, 90, .inl (P 60))), (a 61, .inl (cI, 90, .inl (P 61))), (a 62, .inl (cI, 90, .inl (P 62))), (a 63, .inl (cI, 90, .inl (P 63))), (a 64, .inl (cI, 90, .inl (P 64))), (a 65, .inl (cI, 90, .inl (P 65)))]) [3, 19, 20, 21, 22, 23, 24] rfl
  have hDc := hD.sub (ws' := [(a 6, .inr (7, [.int (P 0 5), .ref (a 60), .ref (a 61), .ref (a 62), .ref (a 63), .ref (a 64), .ref (a 65)])), (a 60, .inl (cI, 90, .inl (P 60))), (a 61, .inl (cI, 90, .inl (P 61))), (a 62, .inl (cI, 90, .inl (P 62))), (a 63, .inl (cI, 90, .inl (P 63))), (a 64, .inl (cI, 90, .inl (P 64))), (a 65, .inl (cI, 90, .inl (P 65)))]) [3, 19, 20, 21, 22, 23, 24] (by decide) rfl
  refine vp_callSi (W.runV (As := [.int x, .int y]) (rest := [.int (sg_unitsAt P x y)]) ⟨hx, hb, hml, hown, hts⟩ (c_unitsTo l D cI cZ cJ lo s.heap.size a P x y hw) (cwV 2 hts gX6_positionAt_X7_unitsTo rfl rfl rfl (by decide +kernel) ⟨(Nat.le_of_ble_eq_true rfl), (Nat.le_of_ble_eq_true rfl)⟩) ⟨Pre.blind, va_recv hK hP (ci := 7) (q0 := 3) rfl rfl, Pre.mk hPc (hDc.weaken (fun _ _ _ h => hAlo _ h)) hC hS hAlo⟩ rfl rfl hl.1 rfl (lv_room (Nat.le_of_ble_eq_true rfl)) dX6_positionAt_15 ⟨(Nat.le_of_ble_eq_true rfl), (Nat.le_of_ble_eq_true rfl)⟩) (fun r_3 e_4 => ?_)
  clear hPc hDc
  have e_4 : sg_unitsTo P x y = r_3 := Eq.symm e_4
  subst e_4
  refine lv_iadd hx hb dX6_positionAt_18 ?_
  refine lv_aload_n hx hb dX6_positionAt_19 rfl (lv_at hl 0 rfl) ?_
  refine va_get (D := D) (ci := 6) (v := .ref (a 5)) (C := RX6) (T := TX6) (N := 9) hx hb hts in6 hown hK hP 0 rfl rfl 5 (by decide) (hts (.fieldLink RX6 42 "Granary$Stock" "orders" "LGranary$Orders;") (by decide +kernel)) (fun _ h9 => h9) rfl dX6_positionAt_20 ?_
  refine lv_iload_n hx hb dX6_positionAt_23 rfl (lv_at hl 1 rfl) ?_
  refine lv_iload_n hx hb dX6_positionAt_24 rfl (lv_at hl 2 rfl) ?_
  have hPc := hP.sub (ws' := [(a 5, .inr (2, [.int (P 0 4), .ref (a 50), .ref (a 51), .ref (a 52), .ref (a 53), .ref (a 54), .ref (a 55), .ref (a 56), .ref (a 57), .ref (a 58), .ref (a 59)])), (a 50, .inl (cI, 60, .inl (P 50))), (a 51, .inl (cI, 60, .inl (P 51))), (a 52, .inl (cI, 60, .inl (P 52))), (a 53, .inl (cI, 60, .inl (P 53))), (a 54, .inl (cI, 60, .inl (P 54))), (a 55, .inl (cI, 60, .inl (P 55))), (a 56, .inl (cI, 60, .inl (P 56))), (a 57, .inl (cI, 60, .inl (P 57))), (a 58, .inl (cI, 60, .inl (P 58))), (a 59, .inl (cI, 12000, .inl (P 59)))]) [2, 9, 10, 11, 12, 13, 14, 15, 16, 17, 18] rfl
  have hDc := hD.sub (ws' := [(a 5, .inr (2, [.int (P 0 4), .ref (a 50), .ref (a 51), .ref (a 52), .ref (a 53), .ref (a 54), .ref (a 55), .ref (a 56), .ref (a 57), .ref (a 58), .ref (a 59)])), (a 50, .inl (cI, 60, .inl (P 50))), (a 51, .inl (cI, 60, .inl (P 51))), (a 52, .inl (cI, 60, .inl (P 52))), (a 53, .inl (cI, 60, .inl (P 53))), (a 54, .inl (cI, 60, .inl (P 54))), (a 55, .inl (cI, 60, .inl (P 55))), (a 56, .inl (cI, 60, .inl (P 56))), (a 57, .inl (cI, 60, .inl (P 57))), (a 58, .inl (cI, 60, .inl (P 58))), (a 59, .inl (cI, 12000, .inl (P 59)))]) [2, 9, 10, 11, 12, 13, 14, 15, 16, 17, 18] (by decide) rfl
  refine vp_callSi (W.runV (As := [.int x, .int y]) (rest := [.int ((sg_unitsAt P x y) + (sg_unitsTo P x y))]) ⟨hx, hb, hml, hown, hts⟩ (c_openUnitsFrom l D cI cZ cJ lo s.heap.size a P x y hw) (cwV 2 hts gX6_positionAt_X2_openUnitsFrom rfl rfl rfl (by decide +kernel) ⟨(Nat.le_of_ble_eq_true rfl), (Nat.le_of_ble_eq_true rfl)⟩) ⟨Pre.blind, va_recv hK hP (ci := 2) (q0 := 2) rfl rfl, Pre.mk hPc (hDc.weaken (fun _ _ _ h => hAlo _ h)) hC hS hAlo⟩ rfl rfl hl.1 rfl (lv_room (Nat.le_of_ble_eq_true rfl)) dX6_positionAt_25 ⟨(Nat.le_of_ble_eq_true rfl), (Nat.le_of_ble_eq_true rfl)⟩) (fun r_5 e_6 => ?_)
  clear hPc hDc
  have e_6 : sg_openUnitsFrom P x y = r_5 := Eq.symm e_6
  subst e_6
  refine lv_isub hx hb dX6_positionAt_28 ?_
  exact W.iret (v := (((sg_unitsAt P x y) + (sg_unitsTo P x y)) - (sg_openUnitsFrom P x y))) hx hb hr (fun t ht hW => ⟨(((sg_unitsAt P x y) + (sg_unitsTo P x y)) - (sg_openUnitsFrom P x y)), rfl, rfl, ht⟩) hL dX6_positionAt_29

def sg_lackAt (P : sg_Pic) (xi : Nat) (xs : Nat) : Int32 := (if (sg_stands P xi xs) = 0 then 0 else (if 0 < ((P 31 ((xi * 5) + xs)) - (sg_positionAt P (nI xi) (nI xs))) then ((P 31 ((xi * 5) + xs)) - (sg_positionAt P (nI xi) (nI xs))) else 0))

set_option maxHeartbeats 4000000 in
set_option maxRecDepth 100000 in
/-- X6_lackAt -/
theorem c_lackAt (l : Launch) (D : va_G) (cI cZ cJ : ClassId) (lo sz : Nat) (a : Nat → Nat) (P : sg_Pic) (xi : Nat) (xs : Nat) (hw : sg_W P) (hi : xi < 6) (hs : xs < 5) : Met l yX6_lackAt wsX6_lackAt ({ frames := 3, cells := 0, slots := 0, locals := 69 }) (Pre lo D cI cZ cJ [.ref (a 0), .int (nI xi), .int (nI xs)] sz [(a 0, .inr (6, [.int (P 0 0), .ref (a 1), .ref (a 2), .ref (a 3), .ref (a 4), .ref (a 5), .ref (a 6), .ref (a 70), .ref (a 71)])), (a 3, .inr (4, [.ref (a 30), .ref (a 31), .ref (a 32), .ref (a 33), .ref (a 34)])), (a 4, .inr (1, [.int (P 0 3), .ref (a 40), .ref (a 41), .ref (a 42), .ref (a 43), .ref (a 44)])), (a 5, .inr (2, [.int (P 0 4), .ref (a 50), .ref (a 51), .ref (a 52), .ref (a 53), .ref (a 54), .ref (a 55), .ref (a 56), .ref (a 57), .ref (a 58), .ref (a 59)])), (a 6, .inr (7, [.int (P 0 5), .ref (a 60), .ref (a 61), .ref (a 62), .ref (a 63), .ref (a 64), .ref (a 65)])), (a 30, .inl (cZ, 30, .inl (P 30))), (a 31, .inl (cI, 30, .inl (P 31))), (a 32, .inl (cI, 30, .inl (P 32))), (a 33, .inl (cI, 30, .inl (P 33))), (a 34, .inl (cI, 30, .inl (P 34))), (a 40, .inl (cI, 200, .inl (P 40))), (a 41, .inl (cI, 200, .inl (P 41))), (a 42, .inl (cI, 200, .inl (P 42))), (a 43, .inl (cI, 200, .inl (P 43))), (a 44, .inl (cI, 200, .inl (P 44))), (a 50, .inl (cI, 60, .inl (P 50))), (a 51, .inl (cI, 60, .inl (P 51))), (a 52, .inl (cI, 60, .inl (P 52))), (a 53, .inl (cI, 60, .inl (P 53))), (a 54, .inl (cI, 60, .inl (P 54))), (a 55, .inl (cI, 60, .inl (P 55))), (a 56, .inl (cI, 60, .inl (P 56))), (a 57, .inl (cI, 60, .inl (P 57))), (a 58, .inl (cI, 60, .inl (P 58))), (a 59, .inl (cI, 12000, .inl (P 59))), (a 60, .inl (cI, 90, .inl (P 60))), (a 61, .inl (cI, 90, .inl (P 61))), (a 62, .inl (cI, 90, .inl (P 62))), (a 63, .inl (cI, 90, .inl (P 63))), (a 64, .inl (cI, 90, .inl (P 64))), (a 65, .inl (cI, 90, .inl (P 65)))]) (vp_Si (fun r => r = sg_lackAt P xi xs)) 0 0 (fun _ => False) := by
  refine Met.ofW (cc := cX6_lackAt) (maxL := 3) (ret := (some .int)) (by decide) rfl ?_
  intro p e s m args below meth c s₁ B hml hv
  obtain ⟨rfl, hsz, hP, hD0, hC⟩ := hv
  have hx := B.exec
  have hb := B.bytes
  have hr := B.returns
  have hts := atoms_spec (ws := wsX6_lackAt) B.pre
  have hown : s.vm.findClass RX6 = some m.cls := findClass_of_methodNamed B.named
  have hlocks := B.notSynchronized
  subst hsz
  have hn1 : sg_cn P 1 ≤ 6 := hw.n1
  have hn2 : sg_cn P 2 ≤ 5 := hw.n2
  have hn3 : sg_cn P 3 ≤ 200 := hw.n3
  have hn4 : sg_cn P 4 ≤ 60 := hw.n4
  have hn5 : sg_cn P 5 ≤ 90 := hw.n5
  have hK := hC.K
  have hD := hD0
  have hS : va_S (fun q => lo ≤ q) s.heap s.heap [] := va_S.rf
  have hAlo : ∀ q, (fun q => lo ≤ q) q → lo ≤ q := fun _ h => h
  have hL : ∀ q ∈ ([] : List Loc), (fun _ : Addr => False) q.base := fun q h => by cases h
  have hP : va_P D vwCl [(a 0, .inr (6, [.int (P 0 0), .ref (a 1), .ref (a 2), .ref (a 3), .ref (a 4), .ref (a 5), .ref (a 6), .ref (a 70), .ref (a 71)])), (a 3, .inr (4, [.ref (a 30), .ref (a 31), .ref (a 32), .ref (a 33), .ref (a 34)])), (a 4, .inr (1, [.int (P 0 3), .ref (a 40), .ref (a 41), .ref (a 42), .ref (a 43), .ref (a 44)])), (a 5, .inr (2, [.int (P 0 4), .ref (a 50), .ref (a 51), .ref (a 52), .ref (a 53), .ref (a 54), .ref (a 55), .ref (a 56), .ref (a 57), .ref (a 58), .ref (a 59)])), (a 6, .inr (7, [.int (P 0 5), .ref (a 60), .ref (a 61), .ref (a 62), .ref (a 63), .ref (a 64), .ref (a 65)])), (a 30, .inl (cZ, 30, .inl (P 30))), (a 31, .inl (cI, 30, .inl (P 31))), (a 32, .inl (cI, 30, .inl (P 32))), (a 33, .inl (cI, 30, .inl (P 33))), (a 34, .inl (cI, 30, .inl (P 34))), (a 40, .inl (cI, 200, .inl (P 40))), (a 41, .inl (cI, 200, .inl (P 41))), (a 42, .inl (cI, 200, .inl (P 42))), (a 43, .inl (cI, 200, .inl (P 43))), (a 44, .inl (cI, 200, .inl (P 44))), (a 50, .inl (cI, 60, .inl (P 50))), (a 51, .inl (cI, 60, .inl (P 51))), (a 52, .inl (cI, 60, .inl (P 52))), (a 53, .inl (cI, 60, .inl (P 53))), (a 54, .inl (cI, 60, .inl (P 54))), (a 55, .inl (cI, 60, .inl (P 55))), (a 56, .inl (cI, 60, .inl (P 56))), (a 57, .inl (cI, 60, .inl (P 57))), (a 58, .inl (cI, 60, .inl (P 58))), (a 59, .inl (cI, 12000, .inl (P 59))), (a 60, .inl (cI, 90, .inl (P 60))), (a 61, .inl (cI, 90, .inl (P 61))), (a 62, .inl (cI, 90, .inl (P 62))), (a 63, .inl (cI, 90, .inl (P 63))), (a 64, .inl (cI, 90, .inl (P 64))), (a 65, .inl (cI, 90, .inl (P 65)))] s.heap := hP
  have hl := lv_entry ([.ref (a 0), .int (nI xi), .int (nI xs)]) (n := 3) (Nat.le_of_ble_eq_true rfl)
  rw [lg_entry_eq]
  generalize (lg_sl ([.ref (a 0), .int (nI xi), .int (nI xs)]) ++ List.replicate (3 - (lg_sl ([.ref (a 0), .int (nI xi), .int (nI xs)])).length) Slot.unset).toArray = ls at hl ⊢
  have hl : lv_has ls 3 [(0, .ref (a 0)), (1, .int (nI xi)), (2, .int (nI xs))] := hl
  have in4 : ∀ w ∈ u_ws RX4 TX4 5, w ∈ wsX6_lackAt := by decide +kernel
  have in6 : ∀ w ∈ u_ws RX6 TX6 9, w ∈ wsX6_lackAt := by decide +kernel
  refine lv_aload_n hx hb dX6_lackAt_0 rfl (lv_at hl 0 rfl) ?_
  refine va_get (D := D) (ci := 6) (v := .ref (a 3)) (C := RX6) (T := TX6) (N := 9) hx hb hts in6 hown hK hP 0 rfl rfl 3 (by decide) (hts (.fieldLink RX6 28 "Granary$Stock" "policies" "LGranary$Policies;") (by decide +kernel)) (fun _ h9 => h9) rfl dX6_lackAt_1 ?_
  refine lv_iload_n hx hb dX6_lackAt_4 rfl (lv_at hl 1 rfl) ?_
  refine lv_iload_n hx hb dX6_lackAt_5 rfl (lv_at hl 2 rfl) ?_
  have hPc := hP.sub (ws' := [(a 3, .inr (4, [.ref (a 30), .ref (a 31), .ref (a 32), .ref (a 33), .ref (a 34)])), (a 30, .inl (cZ, 30, .inl (P 30)))]) [1, 5] rfl
  have hDc := hD.sub (ws' := [(a 3, .inr (4, [.ref (a 30), .ref (a 31), .ref (a 32), .ref (a 33), .ref (a 34)])), (a 30, .inl (cZ, 30, .inl (P 30)))]) [1, 5] (by decide) rfl
  refine vp_callSi (W.runV (As := [.int (nI xi), .int (nI xs)]) (rest := []) ⟨hx, hb, hml, hown, hts⟩ (c_stands l D cI cZ cJ lo s.heap.size a P xi xs hw (by omega) (by omega)) (cwV 2 hts gX6_lackAt_X4_stands rfl rfl rfl (by decide +kernel) ⟨(Nat.le_of_ble_eq_true rfl), (Nat.le_of_ble_eq_true rfl)⟩) ⟨Pre.blind, va_recv hK hP (ci := 4) (q0 := 1) rfl rfl, Pre.mk hPc (hDc.weaken (fun _ _ _ h => hAlo _ h)) hC hS hAlo⟩ rfl rfl hl.1 rfl (lv_room (Nat.le_of_ble_eq_true rfl)) dX6_lackAt_6 ⟨(Nat.le_of_ble_eq_true rfl), (Nat.le_of_ble_eq_true rfl)⟩) (fun r_1 e_2 => ?_)
  clear hPc hDc
  have e_2 : sg_stands P xi xs = r_1 := Eq.symm e_2
  subst e_2
  refine lv_if_ne (tgt := 14) hx hb dX6_lackAt_9 (by decide) (fun c_3 => ?_) (fun c_3 => ?_)
  · refine lv_iconst (v := 0) hx hb dX6_lackAt_14 (by decide) ?_
    refine lv_aload_n hx hb dX6_lackAt_15 rfl (lv_at hl 0 rfl) ?_
    refine va_get (D := D) (ci := 6) (v := .ref (a 3)) (C := RX6) (T := TX6) (N := 9) hx hb hts in6 hown hK hP 0 rfl rfl 3 (by decide) (hts (.fieldLink RX6 28 "Granary$Stock" "policies" "LGranary$Policies;") (by decide +kernel)) (fun _ h9 => h9) rfl dX6_lackAt_16 ?_
    refine va_get (D := D) (ci := 4) (v := .ref (a 31)) (C := RX4) (T := TX4) (N := 5) hx hb hts in4 hown hK hP 1 rfl rfl 1 (by decide) (hts (.fieldLink RX6 114 "Granary$Policies" "point" "[I") (by decide +kernel)) (fun _ h9 => h9) rfl dX6_lackAt_19 ?_
    refine lv_iload_n hx hb dX6_lackAt_22 rfl (lv_at hl 1 rfl) ?_
    refine lv_iload_n hx hb dX6_lackAt_23 rfl (lv_at hl 2 rfl) ?_
    have hPc := hP.sub (ws' := []) [] rfl
    have hDc := hD.sub (ws' := []) [] (by decide) rfl
    refine vp_callSi (sg_dr (va_runSN (As := [.int (nI xi), .int (nI xs)]) (rest := [.ref (a 31), .int 0]) ⟨hx, hb, hml, hown, hts⟩ (c_pair l D cI cZ cJ lo s.heap.size xi xs) ⟨va_cnB 2 hts gX6_lackAt_X8_pair_n117 rfl rfl rfl (hC.nestX6_117) (hts (.initialized RX8) (by decide +kernel)) (by decide +kernel) ⟨(Nat.le_of_ble_eq_true rfl), (Nat.le_of_ble_eq_true rfl)⟩, (hts (.static yX8_pair) (by decide +kernel)), trivial⟩ ⟨Pre.blind, Pre.mk hPc (hDc.weaken (fun _ _ _ h => hAlo _ h)) hC hS hAlo⟩ rfl rfl hl.1 rfl (lv_room (Nat.le_of_ble_eq_true rfl)) dX6_lackAt_24 ⟨(Nat.le_of_ble_eq_true rfl), (Nat.le_of_ble_eq_true rfl)⟩)) (fun r_4 e_5 => ?_)
    clear hPc hDc
    have e_5 : nI ((xi * 5) + xs) = r_4 := Eq.symm e_5
    subst e_5
    refine sg_iald hx hb hK hP 6 0 rfl rfl (j := (xi * 5) + xs) rfl (by omega) (Nat.le_of_ble_eq_true rfl) dX6_lackAt_27 ?_
    refine lv_toi (y := P 31 ((xi * 5) + xs)) rfl ?_
    refine lv_aload_n hx hb dX6_lackAt_28 rfl (lv_at hl 0 rfl) ?_
    refine lv_iload_n hx hb dX6_lackAt_29 rfl (lv_at hl 1 rfl) ?_
    refine lv_iload_n hx hb dX6_lackAt_30 rfl (lv_at hl 2 rfl) ?_
    have hPc := hP.sub (ws' := [(a 0, .inr (6, [.int (P 0 0), .ref (a 1), .ref (a 2), .ref (a 3), .ref (a 4), .ref (a 5), .ref (a 6), .ref (a 70), .ref (a 71)])), (a 4, .inr (1, [.int (P 0 3), .ref (a 40), .ref (a 41), .ref (a 42), .ref (a 43), .ref (a 44)])), (a 5, .inr (2, [.int (P 0 4), .ref (a 50), .ref (a 51), .ref (a 52), .ref (a 53), .ref (a 54), .ref (a 55), .ref (a 56), .ref (a 57), .ref (a 58), .ref (a 59)])), (a 6, .inr (7, [.int (P 0 5), .ref (a 60), .ref (a 61), .ref (a 62), .ref (a 63), .ref (a 64), .ref (a 65)])), (a 40, .inl (cI, 200, .inl (P 40))), (a 41, .inl (cI, 200, .inl (P 41))), (a 42, .inl (cI, 200, .inl (P 42))), (a 43, .inl (cI, 200, .inl (P 43))), (a 44, .inl (cI, 200, .inl (P 44))), (a 50, .inl (cI, 60, .inl (P 50))), (a 51, .inl (cI, 60, .inl (P 51))), (a 52, .inl (cI, 60, .inl (P 52))), (a 53, .inl (cI, 60, .inl (P 53))), (a 54, .inl (cI, 60, .inl (P 54))), (a 55, .inl (cI, 60, .inl (P 55))), (a 56, .inl (cI, 60, .inl (P 56))), (a 57, .inl (cI, 60, .inl (P 57))), (a 58, .inl (cI, 60, .inl (P 58))), (a 59, .inl (cI, 12000, .inl (P 59))), (a 60, .inl (cI, 90, .inl (P 60))), (a 61, .inl (cI, 90, .inl (P 61))), (a 62, .inl (cI, 90, .inl (P 62))), (a 63, .inl (cI, 90, .inl (P 63))), (a 64, .inl (cI, 90, .inl (P 64))), (a 65, .inl (cI, 90, .inl (P 65)))]) [0, 2, 3, 4, 10, 11, 12, 13, 14, 15, 16, 17, 18, 19, 20, 21, 22, 23, 24, 25, 26, 27, 28, 29, 30] rfl
    have hDc := hD.sub (ws' := [(a 0, .inr (6, [.int (P 0 0), .ref (a 1), .ref (a 2), .ref (a 3), .ref (a 4), .ref (a 5), .ref (a 6), .ref (a 70), .ref (a 71)])), (a 4, .inr (1, [.int (P 0 3), .ref (a 40), .ref (a 41), .ref (a 42), .ref (a 43), .ref (a 44)])), (a 5, .inr (2, [.int (P 0 4), .ref (a 50), .ref (a 51), .ref (a 52), .ref (a 53), .ref (a 54), .ref (a 55), .ref (a 56), .ref (a 57), .ref (a 58), .ref (a 59)])), (a 6, .inr (7, [.int (P 0 5), .ref (a 60), .ref (a 61), .ref (a 62), .ref (a 63), .ref (a 64), .ref (a 65)])), (a 40, .inl (cI, 200, .inl (P 40))), (a 41, .inl (cI, 200, .inl (P 41))), (a 42, .inl (cI, 200, .inl (P 42))), (a 43, .inl (cI, 200, .inl (P 43))), (a 44, .inl (cI, 200, .inl (P 44))), (a 50, .inl (cI, 60, .inl (P 50))), (a 51, .inl (cI, 60, .inl (P 51))), (a 52, .inl (cI, 60, .inl (P 52))), (a 53, .inl (cI, 60, .inl (P 53))), (a 54, .inl (cI, 60, .inl (P 54))), (a 55, .inl (cI, 60, .inl (P 55))), (a 56, .inl (cI, 60, .inl (P 56))), (a 57, .inl (cI, 60, .inl (P 57))), (a 58, .inl (cI, 60, .inl (P 58))), (a 59, .inl (cI, 12000, .inl (P 59))), (a 60, .inl (cI, 90, .inl (P 60))), (a 61, .inl (cI, 90, .inl (P 61))), (a 62, .inl (cI, 90, .inl (P 62))), (a 63, .inl (cI, 90, .inl (P 63))), (a 64, .inl (cI, 90, .inl (P 64))), (a 65, .inl (cI, 90, .inl (P 65)))]) [0, 2, 3, 4, 10, 11, 12, 13, 14, 15, 16, 17, 18, 19, 20, 21, 22, 23, 24, 25, 26, 27, 28, 29, 30] (by decide) rfl
    refine vp_callSi (W.runV (As := [.int (nI xi), .int (nI xs)]) (rest := [.int (P 31 ((xi * 5) + xs)), .int 0]) ⟨hx, hb, hml, hown, hts⟩ (c_positionAt l D cI cZ cJ lo s.heap.size a P (nI xi) (nI xs) hw) (cwV 2 hts gX6_lackAt_X6_positionAt rfl rfl rfl (by decide +kernel) ⟨(Nat.le_of_ble_eq_true rfl), (Nat.le_of_ble_eq_true rfl)⟩) ⟨Pre.blind, va_recv hK hP (ci := 6) (q0 := 0) rfl rfl, Pre.mk hPc (hDc.weaken (fun _ _ _ h => hAlo _ h)) hC hS hAlo⟩ rfl rfl hl.1 rfl (lv_room (Nat.le_of_ble_eq_true rfl)) dX6_lackAt_31 ⟨(Nat.le_of_ble_eq_true rfl), (Nat.le_of_ble_eq_true rfl)⟩) (fun r_6 e_7 => ?_)
    clear hPc hDc
    have e_7 : sg_positionAt P (nI xi) (nI xs) = r_6 := Eq.symm e_7
    subst e_7
    refine lv_isub hx hb dX6_lackAt_34 ?_
    refine va_mmax hx hb (hml.trans hl.1.symm) hown (hts (.methodLink RX6 123 Lib.Math.max.name) (by decide +kernel)) (hts (.static Lib.Math.max.name) (by decide +kernel)) (hts (.initialized "java/lang/Math") (by decide +kernel)) (hts (.code Lib.Math.max.name Lib.Math.max.code 2 (some .int)) (by decide +kernel)) (Nat.le_of_ble_eq_true rfl) (Nat.le_of_ble_eq_true rfl) (Nat.le_of_ble_eq_true rfl) (Nat.le_of_ble_eq_true rfl) dX6_lackAt_35 ?_
    exact W.iret (v := (if 0 < ((P 31 ((xi * 5) + xs)) - (sg_positionAt P (nI xi) (nI xs))) then ((P 31 ((xi * 5) + xs)) - (sg_positionAt P (nI xi) (nI xs))) else 0)) hx hb hr (fun t ht hW => ⟨(if 0 < ((P 31 ((xi * 5) + xs)) - (sg_positionAt P (nI xi) (nI xs))) then ((P 31 ((xi * 5) + xs)) - (sg_positionAt P (nI xi) (nI xs))) else 0), rfl, (show (if 0 < ((P 31 ((xi * 5) + xs)) - (sg_positionAt P (nI xi) (nI xs))) then ((P 31 ((xi * 5) + xs)) - (sg_positionAt P (nI xi) (nI xs))) else 0 : Int32) = sg_lackAt P xi xs from by rw [sg_lackAt, if_neg c_3]), ht⟩) hL dX6_lackAt_38
  · refine lv_iconst (v := 0) hx hb dX6_lackAt_12 (by decide) ?_
    exact W.iret (v := 0) hx hb hr (fun t ht hW => ⟨0, rfl, (show (0 : Int32) = sg_lackAt P xi xs from by rw [sg_lackAt, if_pos c_3]), ht⟩) hL dX6_lackAt_13

def sg_spareAt (P : sg_Pic) (xi : Nat) (xs : Nat) : Int32 := (if (sg_stands P xi xs) = 0 then 0 else (if 0 < (if (sg_freeAt P (nI xi) (nI xs)) < ((sg_positionAt P (nI xi) (nI xs)) - (P 32 ((xi * 5) + xs))) then (sg_freeAt P (nI xi) (nI xs)) else ((sg_positionAt P (nI xi) (nI xs)) - (P 32 ((xi * 5) + xs)))) then (if (sg_freeAt P (nI xi) (nI xs)) < ((sg_positionAt P (nI xi) (nI xs)) - (P 32 ((xi * 5) + xs))) then (sg_freeAt P (nI xi) (nI xs)) else ((sg_positionAt P (nI xi) (nI xs)) - (P 32 ((xi * 5) + xs)))) else 0))

set_option maxHeartbeats 4000000 in
set_option maxRecDepth 100000 in
/-- X6_spareAt -/
theorem c_spareAt (l : Launch) (D : va_G) (cI cZ cJ : ClassId) (lo sz : Nat) (a : Nat → Nat) (P : sg_Pic) (xi : Nat) (xs : Nat) (hw : sg_W P) (hi : xi < 6) (hs : xs < 5) : Met l yX6_spareAt wsX6_spareAt ({ frames := 3, cells := 0, slots := 0, locals := 69 }) (Pre lo D cI cZ cJ [.ref (a 0), .int (nI xi), .int (nI xs)] sz [(a 0, .inr (6, [.int (P 0 0), .ref (a 1), .ref (a 2), .ref (a 3), .ref (a 4), .ref (a 5), .ref (a 6), .ref (a 70), .ref (a 71)])), (a 3, .inr (4, [.ref (a 30), .ref (a 31), .ref (a 32), .ref (a 33), .ref (a 34)])), (a 4, .inr (1, [.int (P 0 3), .ref (a 40), .ref (a 41), .ref (a 42), .ref (a 43), .ref (a 44)])), (a 5, .inr (2, [.int (P 0 4), .ref (a 50), .ref (a 51), .ref (a 52), .ref (a 53), .ref (a 54), .ref (a 55), .ref (a 56), .ref (a 57), .ref (a 58), .ref (a 59)])), (a 6, .inr (7, [.int (P 0 5), .ref (a 60), .ref (a 61), .ref (a 62), .ref (a 63), .ref (a 64), .ref (a 65)])), (a 30, .inl (cZ, 30, .inl (P 30))), (a 31, .inl (cI, 30, .inl (P 31))), (a 32, .inl (cI, 30, .inl (P 32))), (a 33, .inl (cI, 30, .inl (P 33))), (a 34, .inl (cI, 30, .inl (P 34))), (a 40, .inl (cI, 200, .inl (P 40))), (a 41, .inl (cI, 200, .inl (P 41))), (a 42, .inl (cI, 200, .inl (P 42))), (a 43, .inl (cI, 200, .inl (P 43))), (a 44, .inl (cI, 200, .inl (P 44))), (a 50, .inl (cI, 60, .inl (P 50))), (a 51, .inl (cI, 60, .inl (P 51))), (a 52, .inl (cI, 60, .inl (P 52))), (a 53, .inl (cI, 60, .inl (P 53))), (a 54, .inl (cI, 60, .inl (P 54))), (a 55, .inl (cI, 60, .inl (P 55))), (a 56, .inl (cI, 60, .inl (P 56))), (a 57, .inl (cI, 60, .inl (P 57))), (a 58, .inl (cI, 60, .inl (P 58))), (a 59, .inl (cI, 12000, .inl (P 59))), (a 60, .inl (cI, 90, .inl (P 60))), (a 61, .inl (cI, 90, .inl (P 61))), (a 62, .inl (cI, 90, .inl (P 62))), (a 63, .inl (cI, 90, .inl (P 63))), (a 64, .inl (cI, 90, .inl (P 64))), (a 65, .inl (cI, 90, .inl (P 65)))]) (vp_Si (fun r => r = sg_spareAt P xi xs)) 0 0 (fun _ => False) := by
  refine Met.ofW (cc := cX6_spareAt) (maxL := 4) (ret := (some .int)) (by decide) rfl ?_
  intro p e s m args below meth c s₁ B hml hv
  obtain ⟨rfl, hsz, hP, hD0, hC⟩ := hv
  have hx := B.exec
  have hb := B.bytes
  have hr := B.returns
  have hts := atoms_spec (ws := wsX6_spareAt) B.pre
  have hown : s.vm.findClass RX6 = some m.cls := findClass_of_methodNamed B.named
  have hlocks := B.notSynchronized
  subst hsz
  have hn1 : sg_cn P 1 ≤ 6 := hw.n1
  have hn2 : sg_cn P 2 ≤ 5 := hw.n2
  have hn3 : sg_cn P 3 ≤ 200 := hw.n3
  have hn4 : sg_cn P 4 ≤ 60 := hw.n4
  have hn5 : sg_cn P 5 ≤ 90 := hw.n5
  have hK := hC.K
  have hD := hD0
  have hS : va_S (fun q => lo ≤ q) s.heap s.heap [] := va_S.rf
  have hAlo : ∀ q, (fun q => lo ≤ q) q → lo ≤ q := fun _ h => h
  have hL : ∀ q ∈ ([] : List Loc), (fun _ : Addr => False) q.base := fun q h => by cases h
  have hP : va_P D vwCl [(a 0, .inr (6, [.int (P 0 0), .ref (a 1), .ref (a 2), .ref (a 3), .ref (a 4), .ref (a 5), .ref (a 6), .ref (a 70), .ref (a 71)])), (a 3, .inr (4, [.ref (a 30), .ref (a 31), .ref (a 32), .ref (a 33), .ref (a 34)])), (a 4, .inr (1, [.int (P 0 3), .ref (a 40), .ref (a 41), .ref (a 42), .ref (a 43), .ref (a 44)])), (a 5, .inr (2, [.int (P 0 4), .ref (a 50), .ref (a 51), .ref (a 52), .ref (a 53), .ref (a 54), .ref (a 55), .ref (a 56), .ref (a 57), .ref (a 58), .ref (a 59)])), (a 6, .inr (7, [.int (P 0 5), .ref (a 60), .ref (a 61), .ref (a 62), .ref (a 63), .ref (a 64), .ref (a 65)])), (a 30, .inl (cZ, 30, .inl (P 30))), (a 31, .inl (cI, 30, .inl (P 31))), (a 32, .inl (cI, 30, .inl (P 32))), (a 33, .inl (cI, 30, .inl (P 33))), (a 34, .inl (cI, 30, .inl (P 34))), (a 40, .inl (cI, 200, .inl (P 40))), (a 41, .inl (cI, 200, .inl (P 41))), (a 42, .inl (cI, 200, .inl (P 42))), (a 43, .inl (cI, 200, .inl (P 43))), (a 44, .inl (cI, 200, .inl (P 44))), (a 50, .inl (cI, 60, .inl (P 50))), (a 51, .inl (cI, 60, .inl (P 51))), (a 52, .inl (cI, 60, .inl (P 52))), (a 53, .inl (cI, 60, .inl (P 53))), (a 54, .inl (cI, 60, .inl (P 54))), (a 55, .inl (cI, 60, .inl (P 55))), (a 56, .inl (cI, 60, .inl (P 56))), (a 57, .inl (cI, 60, .inl (P 57))), (a 58, .inl (cI, 60, .inl (P 58))), (a 59, .inl (cI, 12000, .inl (P 59))), (a 60, .inl (cI, 90, .inl (P 60))), (a 61, .inl (cI, 90, .inl (P 61))), (a 62, .inl (cI, 90, .inl (P 62))), (a 63, .inl (cI, 90, .inl (P 63))), (a 64, .inl (cI, 90, .inl (P 64))), (a 65, .inl (cI, 90, .inl (P 65)))] s.heap := hP
  have hl := lv_entry ([.ref (a 0), .int (nI xi), .int (nI xs)]) (n := 4) (Nat.le_of_ble_eq_true rfl)
  rw [lg_entry_eq]
  generalize (lg_sl ([.ref (a 0), .int (nI xi), .int (nI xs)]) ++ List.replicate (4 - (lg_sl ([.ref (a 0), .int (nI xi), .int (nI xs)])).length) Slot.unset).toArray = ls at hl ⊢
  have hl : lv_has ls 4 [(0, .ref (a 0)), (1, .int (nI xi)), (2, .int (nI xs))] := hl
  have in4 : ∀ w ∈ u_ws RX4 TX4 5, w ∈ wsX6_spareAt := by decide +kernel
  have in6 : ∀ w ∈ u_ws RX6 TX6 9, w ∈ wsX6_spareAt := by decide +kernel
  refine lv_aload_n hx hb dX6_spareAt_0 rfl (lv_at hl 0 rfl) ?_
  refine va_get (D := D) (ci := 6) (v := .ref (a 3)) (C := RX6) (T := TX6) (N := 9) hx hb hts in6 hown hK hP 0 rfl rfl 3 (by decide) (hts (.fieldLink RX6 28 "Granary$Stock" "policies" "LGranary$Policies;") (by decide +kernel)) (fun _ h9 => h9) rfl dX6_spareAt_1 ?_
  refine lv_iload_n hx hb dX6_spareAt_4 rfl (lv_at hl 1 rfl) ?_
  refine lv_iload_n hx hb dX6_spareAt_5 rfl (lv_at hl 2 rfl) ?_
  have hPc := hP.sub (ws' := [(a 3, .inr (4, [.ref (a 30), .ref (a 31), .ref (a 32), .ref (a 33), .ref (a 34)])), (a 30, .inl (cZ, 30, .inl (P 30)))]) [1, 5] rfl
  have hDc := hD.sub (ws' := [(a 3, .inr (4, [.ref (a 30), .ref (a 31), .ref (a 32), .ref (a 33), .ref (a 34)])), (a 30, .inl (cZ, 30, .inl (P 30)))]) [1, 5] (by decide) rfl
  refine vp_callSi (W.runV (As := [.int (nI xi), .int (nI xs)]) (rest := []) ⟨hx, hb, hml, hown, hts⟩ (c_stands l D cI cZ cJ lo s.heap.size a P xi xs hw (by omega) (by omega)) (cwV 2 hts gX6_spareAt_X4_stands rfl rfl rfl (by decide +kernel) ⟨(Nat.le_of_ble_eq_true rfl), (Nat.le_of_ble_eq_true rfl)⟩) ⟨Pre.blind, va_recv hK hP (ci := 4) (q0 := 1) rfl rfl, Pre.mk hPc (hDc.weaken (fun _ _ _ h => hAlo _ h)) hC hS hAlo⟩ rfl rfl hl.1 rfl (lv_room (Nat.le_of_ble_eq_true rfl)) dX6_spareAt_6 ⟨(Nat.le_of_ble_eq_true rfl), (Nat.le_of_ble_eq_true rfl)⟩) (fun r_1 e_2 => ?_)
  clear hPc hDc
  have e_2 : sg_stands P xi xs = r_1 := Eq.symm e_2
  subst e_2
  refine lv_if_ne (tgt := 14) hx hb dX6_spareAt_9 (by decide) (fun c_3 => ?_) (fun c_3 => ?_)
  · refine lv_aload_n hx hb dX6_spareAt_14 rfl (lv_at hl 0 rfl) ?_
    refine lv_iload_n hx hb dX6_spareAt_15 rfl (lv_at hl 1 rfl) ?_
    refine lv_iload_n hx hb dX6_spareAt_16 rfl (lv_at hl 2 rfl) ?_
    have hPc := hP.sub (ws' := [(a 0, .inr (6, [.int (P 0 0), .ref (a 1), .ref (a 2), .ref (a 3), .ref (a 4), .ref (a 5), .ref (a 6), .ref (a 70), .ref (a 71)])), (a 4, .inr (1, [.int (P 0 3), .ref (a 40), .ref (a 41), .ref (a 42), .ref (a 43), .ref (a 44)])), (a 5, .inr (2, [.int (P 0 4), .ref (a 50), .ref (a 51), .ref (a 52), .ref (a 53), .ref (a 54), .ref (a 55), .ref (a 56), .ref (a 57), .ref (a 58), .ref (a 59)])), (a 6, .inr (7, [.int (P 0 5), .ref (a 60), .ref (a 61), .ref (a 62), .ref (a 63), .ref (a 64), .ref (a 65)])), (a 40, .inl (cI, 200, .inl (P 40))), (a 41, .inl (cI, 200, .inl (P 41))), (a 42, .inl (cI, 200, .inl (P 42))), (a 43, .inl (cI, 200, .inl (P 43))), (a 44, .inl (cI, 200, .inl (P 44))), (a 50, .inl (cI, 60, .inl (P 50))), (a 51, .inl (cI, 60, .inl (P 51))), (a 52, .inl (cI, 60, .inl (P 52))), (a 53, .inl (cI, 60, .inl (P 53))), (a 54, .inl (cI, 60, .inl (P 54))), (a 55, .inl (cI, 60, .inl (P 55))), (a 56, .inl (cI, 60, .inl (P 56))), (a 57, .inl (cI, 60, .inl (P 57))), (a 58, .inl (cI, 60, .inl (P 58))), (a 59, .inl (cI, 12000, .inl (P 59))), (a 60, .inl (cI, 90, .inl (P 60))), (a 61, .inl (cI, 90, .inl (P 61))), (a 62, .inl (cI, 90, .inl (P 62))), (a 63, .inl (cI, 90, .inl (P 63))), (a 64, .inl (cI, 90, .inl (P 64))), (a 65, .inl (cI, 90, .inl (P 65)))]) [0, 2, 3, 4, 10, 11, 12, 13, 14, 15, 16, 17, 18, 19, 20, 21, 22, 23, 24, 25, 26, 27, 28, 29, 30] rfl
    have hDc := hD.sub (ws' := [(a 0, .inr (6, [.int (P 0 0), .ref (a 1), .ref (a 2), .ref (a 3), .ref (a 4), .ref (a 5), .ref (a 6), .ref (a 70), .ref (a 71)])), (a 4, .inr (1, [.int (P 0 3), .ref (a 40), .ref (a 41), .ref (a 42), .ref (a 43), .ref (a 44)])), (a 5, .inr (2, [.int (P 0 4), .ref (a 50), .ref (a 51), .ref (a 52), .ref (a 53), .ref (a 54), .ref (a 55), .ref (a 56), .ref (a 57), .ref (a 58), .ref (a 59)])), (a 6, .inr (7, [.int (P 0 5), .ref (a 60), .ref (a 61), .ref (a 62), .ref (a 63), .ref (a 64), .ref (a 65)])), (a 40, .inl (cI, 200, .inl (P 40))), (a 41, .inl (cI, 200, .inl (P 41))), (a 42, .inl (cI, 200, .inl (P 42))), (a 43, .inl (cI, 200, .inl (P 43))), (a 44, .inl (cI, 200, .inl (P 44))), (a 50, .inl (cI, 60, .inl (P 50))), (a 51, .inl (cI, 60, .inl (P 51))), (a 52, .inl (cI, 60, .inl (P 52))), (a 53, .inl (cI, 60, .inl (P 53))), (a 54, .inl (cI, 60, .inl (P 54))), (a 55, .inl (cI, 60, .inl (P 55))), (a 56, .inl (cI, 60, .inl (P 56))), (a 57, .inl (cI, 60, .inl (P 57))), (a 58, .inl (cI, 60, .inl (P 58))), (a 59, .inl (cI, 12000, .inl (P 59))), (a 60, .inl (cI, 90, .inl (P 60))), (a 61, .inl (cI, 90, .inl (P 61))), (a 62, .inl (cI, 90, .inl (P 62))), (a 63, .inl (cI, 90, .inl (P 63))), (a 64, .inl (cI, 90, .inl (P 64))), (a 65, .inl (cI, 90, .inl (P 65)))]) [0, 2, 3, 4, 10, 11, 12, 13, 14, 15, 16, 17, 18, 19, 20, 21, 22, 23, 24, 25, 26, 27, 28, 29, 30] (by decide) rfl
    refine vp_callSi (W.runV (As := [.int (nI xi), .int (nI xs)]) (rest := []) ⟨hx, hb, hml, hown, hts⟩ (c_positionAt l D cI cZ cJ lo s.heap.size a P (nI xi) (nI xs) hw) (cwV 2 hts gX6_spareAt_X6_positionAt rfl rfl rfl (by decide +kernel) ⟨(Nat.le_of_ble_eq_true rfl), (Nat.le_of_ble_eq_true rfl)⟩) ⟨Pre.blind, va_recv hK hP (ci := 6) (q0 := 0) rfl rfl, Pre.mk hPc (hDc.weaken (fun _ _ _ h => hAlo _ h)) hC hS hAlo⟩ rfl rfl hl.1 rfl (lv_room (Nat.le_of_ble_eq_true rfl)) dX6_spareAt_17 ⟨(Nat.le_of_ble_eq_true rfl), (Nat.le_of_ble_eq_true rfl)⟩) (fun r_4 e_5 => ?_)
    clear hPc hDc
    have e_5 : sg_positionAt P (nI xi) (nI xs) = r_4 := Eq.symm e_5
    subst e_5
    refine lv_aload_n hx hb dX6_spareAt_20 rfl (lv_at hl 0 rfl) ?_
    refine va_get (D := D) (ci := 6) (v := .ref (a 3)) (C := RX6) (T := TX6) (N := 9) hx hb hts in6 hown hK hP 0 rfl rfl 3 (by decide) (hts (.fieldLink RX6 28 "Granary$Stock" "policies" "LGranary$Policies;") (by decide +kernel)) (fun _ h9 => h9) rfl dX6_spareAt_21 ?_
    refine va_get (D := D) (ci := 4) (v := .ref (a 32)) (C := RX4) (T := TX4) (N := 5) hx hb hts in4 hown hK hP 1 rfl rfl 2 (by decide) (hts (.fieldLink RX6 128 "Granary$Policies" "top" "[I") (by decide +kernel)) (fun _ h9 => h9) rfl dX6_spareAt_24 ?_
    refine lv_iload_n hx hb dX6_spareAt_27 rfl (lv_at hl 1 rfl) ?_
    refine lv_iload_n hx hb dX6_spareAt_28 rfl (lv_at hl 2 rfl) ?_
    have hPc := hP.sub (ws' := []) [] rfl
    have hDc := hD.sub (ws' := []) [] (by decide) rfl
    refine vp_callSi (sg_dr (va_runSN (As := [.int (nI xi), .int (nI xs)]) (rest := [.ref (a 32), .int (sg_positionAt P (nI xi) (nI xs))]) ⟨hx, hb, hml, hown, hts⟩ (c_pair l D cI cZ cJ lo s.heap.size xi xs) ⟨va_cnB 2 hts gX6_spareAt_X8_pair_n117 rfl rfl rfl (hC.nestX6_117) (hts (.initialized RX8) (by decide +kernel)) (by decide +kernel) ⟨(Nat.le_of_ble_eq_true rfl), (Nat.le_of_ble_eq_true rfl)⟩, (hts (.static yX8_pair) (by decide +kernel)), trivial⟩ ⟨Pre.blind, Pre.mk hPc (hDc.weaken (fun _ _ _ h => hAlo _ h)) hC hS hAlo⟩ rfl rfl hl.1 rfl (lv_room (Nat.le_of_ble_eq_true rfl)) dX6_spareAt_29 ⟨(Nat.le_of_ble_eq_true rfl), (Nat.le_of_ble_eq_true rfl)⟩)) (fun r_6 e_7 => ?_)
    clear hPc hDc
    have e_7 : nI ((xi * 5) + xs) = r_6 := Eq.symm e_7
    subst e_7
    refine sg_iald hx hb hK hP 7 0 rfl rfl (j := (xi * 5) + xs) rfl (by omega) (Nat.le_of_ble_eq_true rfl) dX6_spareAt_32 ?_
    refine lv_toi (y := P 32 ((xi * 5) + xs)) rfl ?_
    refine lv_isub hx hb dX6_spareAt_33 ?_
    refine lv_istore_n (lv' := [(3, .int ((sg_positionAt P (nI xi) (nI xs)) - (P 32 ((xi * 5) + xs)))), (0, .ref (a 0)), (1, .int (nI xi)), (2, .int (nI xs))]) hx hb dX6_spareAt_34 rfl hl (by decide) rfl (fun ls hl => ?_)
    refine lv_iconst (v := 0) hx hb dX6_spareAt_35 (by decide) ?_
    refine lv_iload_n hx hb dX6_spareAt_36 rfl (lv_at hl 0 rfl) ?_
    refine lv_aload_n hx hb dX6_spareAt_37 rfl (lv_at hl 1 rfl) ?_
    refine va_get (D := D) (ci := 6) (v := .ref (a 4)) (C := RX6) (T := TX6) (N := 9) hx hb hts in6 hown hK hP 0 rfl rfl 4 (by decide) (hts (.fieldLink RX6 35 "Granary$Stock" "lots" "LGranary$Lots;") (by decide +kernel)) (fun _ h9 => h9) rfl dX6_spareAt_38 ?_
    refine lv_iload_n hx hb dX6_spareAt_41 rfl (lv_at hl 2 rfl) ?_
    refine lv_iload_n hx hb dX6_spareAt_42 rfl (lv_at hl 3 rfl) ?_
    have hPc := hP.sub (ws' := [(a 4, .inr (1, [.int (P 0 3), .ref (a 40), .ref (a 41), .ref (a 42), .ref (a 43), .ref (a 44)])), (a 40, .inl (cI, 200, .inl (P 40))), (a 41, .inl (cI, 200, .inl (P 41))), (a 42, .inl (cI, 200, .inl (P 42))), (a 43, .inl (cI, 200, .inl (P 43))), (a 44, .inl (cI, 200, .inl (P 44)))]) [2, 10, 11, 12, 13, 14] rfl
    have hDc := hD.sub (ws' := [(a 4, .inr (1, [.int (P 0 3), .ref (a 40), .ref (a 41), .ref (a 42), .ref (a 43), .ref (a 44)])), (a 40, .inl (cI, 200, .inl (P 40))), (a 41, .inl (cI, 200, .inl (P 41))), (a 42, .inl (cI, 200, .inl (P 42))), (a 43, .inl (cI, 200, .inl (P 43))), (a 44, .inl (cI, 200, .inl (P 44)))]) [2, 10, 11, 12, 13, 14] (by decide) rfl
    refine vp_callSi (W.runV (As := [.int (nI xi), .int (nI xs)]) (rest := [.int ((sg_positionAt P (nI xi) (nI xs)) - (P 32 ((xi * 5) + xs))), .int 0]) ⟨hx, hb, hml, hown, hts⟩ (c_freeAt l D cI cZ cJ lo s.heap.size a P (nI xi) (nI xs) hw) (cwV 2 hts gX6_spareAt_X1_freeAt rfl rfl rfl (by decide +kernel) ⟨(Nat.le_of_ble_eq_true rfl), (Nat.le_of_ble_eq_true rfl)⟩) ⟨Pre.blind, va_recv hK hP (ci := 1) (q0 := 2) rfl rfl, Pre.mk hPc (hDc.weaken (fun _ _ _ h => hAlo _ h)) hC hS hAlo⟩ rfl rfl hl.1 rfl (lv_room (Nat.le_of_ble_eq_true rfl)) dX6_spareAt_43 ⟨(Nat.le_of_ble_eq_true rfl), (Nat.le_of_ble_eq_true rfl)⟩) (fun r_8 e_9 => ?_)
    clear hPc hDc
    have e_9 : sg_freeAt P (nI xi) (nI xs) = r_8 := Eq.symm e_9
    subst e_9
    refine va_mmin hx hb (hml.trans hl.1.symm) hown (hts (.methodLink RX6 134 Lib.Math.min.name) (by decide +kernel)) (hts (.static Lib.Math.min.name) (by decide +kernel)) (hts (.initialized "java/lang/Math") (by decide +kernel)) (hts (.code Lib.Math.min.name Lib.Math.min.code 2 (some .int)) (by decide +kernel)) (Nat.le_of_ble_eq_true rfl) (Nat.le_of_ble_eq_true rfl) (Nat.le_of_ble_eq_true rfl) (Nat.le_of_ble_eq_true rfl) dX6_spareAt_46 ?_
    refine va_mmax hx hb (hml.trans hl.1.symm) hown (hts (.methodLink RX6 123 Lib.Math.max.name) (by decide +kernel)) (hts (.static Lib.Math.max.name) (by decide +kernel)) (hts (.initialized "java/lang/Math") (by decide +kernel)) (hts (.code Lib.Math.max.name Lib.Math.max.code 2 (some .int)) (by decide +kernel)) (Nat.le_of_ble_eq_true rfl) (Nat.le_of_ble_eq_true rfl) (Nat.le_of_ble_eq_true rfl) (Nat.le_of_ble_eq_true rfl) dX6_spareAt_49 ?_
    exact W.iret (v := (if 0 < (if (sg_freeAt P (nI xi) (nI xs)) < ((sg_positionAt P (nI xi) (nI xs)) - (P 32 ((xi * 5) + xs))) then (sg_freeAt P (nI xi) (nI xs)) else ((sg_positionAt P (nI xi) (nI xs)) - (P 32 ((xi * 5) + xs)))) then (if (sg_freeAt P (nI xi) (nI xs)) < ((sg_positionAt P (nI xi) (nI xs)) - (P 32 ((xi * 5) + xs))) then (sg_freeAt P (nI xi) (nI xs)) else ((sg_positionAt P (nI xi) (nI xs)) - (P 32 ((xi * 5) + xs)))) else 0)) hx hb hr (fun t ht hW => ⟨(if 0 < (if (sg_freeAt P (nI xi) (nI xs)) < ((sg_positionAt P (nI xi) (nI xs)) - (P 32 ((xi * 5) + xs))) then (sg_freeAt P (nI xi) (nI xs)) else ((sg_positionAt P (nI xi) (nI xs)) - (P 32 ((xi * 5) + xs)))) then (if (sg_freeAt P (nI xi) (nI xs)) < ((sg_positionAt P (nI xi) (nI xs)) - (P 32 ((xi * 5) + xs))) then (sg_freeAt P (nI xi) (nI xs)) else ((sg_positionAt P (nI xi) (nI xs)) - (P 32 ((xi * 5) + xs)))) else 0), rfl, (show (if 0 < (if (sg_freeAt P (nI xi) (nI xs)) < ((sg_positionAt P (nI xi) (nI xs)) - (P 32 ((xi * 5) + xs))) then (sg_freeAt P (nI xi) (nI xs)) else ((sg_positionAt P (nI xi) (nI xs)) - (P 32 ((xi * 5) + xs)))) then (if (sg_freeAt P (nI xi) (nI xs)) < ((sg_positionAt P (nI xi) (nI xs)) - (P 32 ((xi * 5) + xs))) then (sg_freeAt P (nI xi) (nI xs)) else ((sg_positionAt P (nI xi) (nI xs)) - (P 32 ((xi * 5) + xs)))) else 0 : Int32) = sg_spareAt P xi xs from by rw [sg_spareAt, if_neg c_3]), ht⟩) hL dX6_spareAt_52
  · refine lv_iconst (v := 0) hx hb dX6_spareAt_12 (by decide) ?_
    exact W.iret (v := 0) hx hb hr (fun t ht hW => ⟨0, rfl, (show (0 : Int32) = sg_spareAt P xi xs from by rw [sg_spareAt, if_pos c_3]), ht⟩) hL dX6_spareAt_13

def sg_rateOver (P : sg_Pic) (x : Int32) (y : Int32) (z : Int32) : Int32 := (sg_useWithin P x y (((P 0 0) - z) + 1) (P 0 0))

set_option maxHeartbeats 4000000 in
set_option maxRecDepth 100000 in
/-- X6_rateOver -/
theorem c_rateOver (l : Launch) (D : va_G) (cI cZ cJ : ClassId) (lo sz : Nat) (a : Nat → Nat) (P : sg_Pic) (x : Int32) (y : Int32) (z : Int32) (hw : sg_W P) : Met l yX6_rateOver wsX6_rateOver ({ frames := 2, cells := 0, slots := 0, locals := 49 }) (Pre lo D cI cZ cJ [.ref (a 0), .int x, .int y, .int z] sz [(a 0, .inr (6, [.int (P 0 0), .ref (a 1), .ref (a 2), .ref (a 3), .ref (a 4), .ref (a 5), .ref (a 6), .ref (a 70), .ref (a 71)])), (a 5, .inr (2, [.int (P 0 4), .ref (a 50), .ref (a 51), .ref (a 52), .ref (a 53), .ref (a 54), .ref (a 55), .ref (a 56), .ref (a 57), .ref (a 58), .ref (a 59)])), (a 50, .inl (cI, 60, .inl (P 50))), (a 51, .inl (cI, 60, .inl (P 51))), (a 52, .inl (cI, 60, .inl (P 52))), (a 53, .inl (cI, 60, .inl (P 53))), (a 54, .inl (cI, 60, .inl (P 54))), (a 55, .inl (cI, 60, .inl (P 55))), (a 56, .inl (cI, 60, .inl (P 56))), (a 57, .inl (cI, 60, .inl (P 57))), (a 58, .inl (cI, 60, .inl (P 58))), (a 59, .inl (cI, 12000, .inl (P 59)))]) (vp_Si (fun r => r = sg_rateOver P x y z)) 0 0 (fun _ => False) := by
  refine Met.ofW (cc := cX6_rateOver) (maxL := 4) (ret := (some .int)) (by decide) rfl ?_
  intro p e s m args below meth c s₁ B hml hv
  obtain ⟨rfl, hsz, hP, hD0, hC⟩ := hv
  have hx := B.exec
  have hb := B.bytes
  have hr := B.returns
  have hts := atoms_spec (ws := wsX6_rateOver) B.pre
  have hown : s.vm.findClass RX6 = some m.cls := findClass_of_methodNamed B.named
  have hlocks := B.notSynchronized
  subst hsz
  have hn1 : sg_cn P 1 ≤ 6 := hw.n1
  have hn2 : sg_cn P 2 ≤ 5 := hw.n2
  have hn3 : sg_cn P 3 ≤ 200 := hw.n3
  have hn4 : sg_cn P 4 ≤ 60 := hw.n4
  have hn5 : sg_cn P 5 ≤ 90 := hw.n5
  have hK := hC.K
  have hD := hD0
  have hS : va_S (fun q => lo ≤ q) s.heap s.heap [] := va_S.rf
  have hAlo : ∀ q, (fun q => lo ≤ q) q → lo ≤ q := fun _ h => h
  have hL : ∀ q ∈ ([] : List Loc), (fun _ : Addr => False) q.base := fun q h => by cases h
  have hP : va_P D vwCl [(a 0, .inr (6, [.int (P 0 0), .ref (a 1), .ref (a 2), .ref (a 3), .ref (a 4), .ref (a 5), .ref (a 6), .ref (a 70), .ref (a 71)])), (a 5, .inr (2, [.int (P 0 4), .ref (a 50), .ref (a 51), .ref (a 52), .ref (a 53), .ref (a 54), .ref (a 55), .ref (a 56), .ref (a 57), .ref (a 58), .ref (a 59)])), (a 50, .inl (cI, 60, .inl (P 50))), (a 51, .inl (cI, 60, .inl (P 51))), (a 52, .inl (cI, 60, .inl (P 52))), (a 53, .inl (cI, 60, .inl (P 53))), (a 54, .inl (cI, 60, .inl (P 54))), (a 55, .inl (cI, 60, .inl (P 55))), (a 56, .inl (cI, 60, .inl (P 56))), (a 57, .inl (cI, 60, .inl (P 57))), (a 58, .inl (cI, 60, .inl (P 58))), (a 59, .inl (cI, 12000, .inl (P 59)))] s.heap := hP
  have hl := lv_entry ([.ref (a 0), .int x, .int y, .int z]) (n := 4) (Nat.le_of_ble_eq_true rfl)
  rw [lg_entry_eq]
  generalize (lg_sl ([.ref (a 0), .int x, .int y, .int z]) ++ List.replicate (4 - (lg_sl ([.ref (a 0), .int x, .int y, .int z])).length) Slot.unset).toArray = ls at hl ⊢
  have hl : lv_has ls 4 [(0, .ref (a 0)), (1, .int x), (2, .int y), (3, .int z)] := hl
  have in6 : ∀ w ∈ u_ws RX6 TX6 9, w ∈ wsX6_rateOver := by decide +kernel
  refine lv_aload_n hx hb dX6_rateOver_0 rfl (lv_at hl 0 rfl) ?_
  refine va_get (D := D) (ci := 6) (v := .ref (a 5)) (C := RX6) (T := TX6) (N := 9) hx hb hts in6 hown hK hP 0 rfl rfl 5 (by decide) (hts (.fieldLink RX6 42 "Granary$Stock" "orders" "LGranary$Orders;") (by decide +kernel)) (fun _ h9 => h9) rfl dX6_rateOver_1 ?_
  refine lv_iload_n hx hb dX6_rateOver_4 rfl (lv_at hl 1 rfl) ?_
  refine lv_iload_n hx hb dX6_rateOver_5 rfl (lv_at hl 2 rfl) ?_
  refine lv_aload_n hx hb dX6_rateOver_6 rfl (lv_at hl 0 rfl) ?_
  refine va_get (D := D) (ci := 6) (v := .int (P 0 0)) (C := RX6) (T := TX6) (N := 9) hx hb hts in6 hown hK hP 0 rfl rfl 0 (by decide) (hts (.fieldLink RX6 60 "Granary$Stock" "day" "I") (by decide +kernel)) (fun _ h9 => h9) rfl dX6_rateOver_7 ?_
  refine lv_iload_n hx hb dX6_rateOver_10 rfl (lv_at hl 3 rfl) ?_
  refine lv_isub hx hb dX6_rateOver_11 ?_
  refine lv_iconst (v := 1) hx hb dX6_rateOver_12 (by decide) ?_
  refine lv_iadd hx hb dX6_rateOver_13 ?_
  refine lv_aload_n hx hb dX6_rateOver_14 rfl (lv_at hl 0 rfl) ?_
  refine va_get (D := D) (ci := 6) (v := .int (P 0 0)) (C := RX6) (T := TX6) (N := 9) hx hb hts in6 hown hK hP 0 rfl rfl 0 (by decide) (hts (.fieldLink RX6 60 "Granary$Stock" "day" "I") (by decide +kernel)) (fun _ h9 => h9) rfl dX6_rateOver_15 ?_
  have hPc := hP.sub (ws' := [(a 5, .inr (2, [.int (P 0 4), .ref (a 50), .ref (a 51), .ref (a 52), .ref (a 53), .ref (a 54), .ref (a 55), .ref (a 56), .ref (a 57), .ref (a 58), .ref (a 59)])), (a 50, .inl (cI, 60, .inl (P 50))), (a 51, .inl (cI, 60, .inl (P 51))), (a 52, .inl (cI, 60, .inl (P 52))), (a 53, .inl (cI, 60, .inl (P 53))), (a 54, .inl (cI, 60, .inl (P 54))), (a 55, .inl (cI, 60, .inl (P 55))), (a 56, .inl (cI, 60, .inl (P 56))), (a 57, .inl (cI, 60, .inl (P 57))), (a 58, .inl (cI, 60, .inl (P 58))), (a 59, .inl (cI, 12000, .inl (P 59)))]) [1, 2, 3, 4, 5, 6, 7, 8, 9, 10, 11] rfl
  have hDc := hD.sub (ws' := [(a 5, .inr (2, [.int (P 0 4), .ref (a 50), .ref (a 51), .ref (a 52), .ref (a 53), .ref (a 54), .ref (a 55), .ref (a 56), .ref (a 57), .ref (a 58), .ref (a 59)])), (a 50, .inl (cI, 60, .inl (P 50))), (a 51, .inl (cI, 60, .inl (P 51))), (a 52, .inl (cI, 60, .inl (P 52))), (a 53, .inl (cI, 60, .inl (P 53))), (a 54, .inl (cI, 60, .inl (P 54))), (a 55, .inl (cI, 60, .inl (P 55))), (a 56, .inl (cI, 60, .inl (P 56))), (a 57, .inl (cI, 60, .inl (P 57))), (a 58, .inl (cI, 60, .inl (P 58))), (a 59, .inl (cI, 12000, .inl (P 59)))]) [1, 2, 3, 4, 5, 6, 7, 8, 9, 10, 11] (by decide) rfl
  refine vp_callSi (W.runV (As := [.int x, .int y, .int (((P 0 0) - z) + 1), .int (P 0 0)]) (rest := []) ⟨hx, hb, hml, hown, hts⟩ (c_useWithin l D cI cZ cJ lo s.heap.size a P x y (((P 0 0) - z) + 1) (P 0 0) hw) (cwV 4 hts gX6_rateOver_X2_useWithin rfl rfl rfl (by decide +kernel) ⟨(Nat.le_of_ble_eq_true rfl), (Nat.le_of_ble_eq_true rfl)⟩) ⟨Pre.blind, va_recv hK hP (ci := 2) (q0 := 1) rfl rfl, Pre.mk hPc (hDc.weaken (fun _ _ _ h => hAlo _ h)) hC hS hAlo⟩ rfl rfl hl.1 rfl (lv_room (Nat.le_of_ble_eq_true rfl)) dX6_rateOver_18 ⟨(Nat.le_of_ble_eq_true rfl), (Nat.le_of_ble_eq_true rfl)⟩) (fun r_1 e_2 => ?_)
  clear hPc hDc
  have e_2 : sg_useWithin P x y (((P 0 0) - z) + 1) (P 0 0) = r_1 := Eq.symm e_2
  subst e_2
  exact W.iret (v := (sg_useWithin P x y (((P 0 0) - z) + 1) (P 0 0))) hx hb hr (fun t ht hW => ⟨(sg_useWithin P x y (((P 0 0) - z) + 1) (P 0 0)), rfl, rfl, ht⟩) hL dX6_rateOver_21

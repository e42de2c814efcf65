def sg_sendUnits_33 (P : sg_Pic) (x : Int32) (y : Int32) (z : Int32) (v : Int32) : Nat → Int32 → sg_Pic → Int32 × sg_Pic
  | 0, x33_7, P33 => (x33_7, P33)
  | n33 + 1, x33_7, P33 => (if v ≤ x33_7 then (x33_7, P33) else (if (sg_full P33) = 0 then (if (sg_firstFree P33 x y (((P 0 0) + (sg_daysBetween P y z)) + 1)) = (-1) then (x33_7, P33) else (sg_sendUnits_33 P x y z v n33 (x33_7 + (if (sg_freeOf P33 (Int32.toNatClampNeg (sg_firstFree P33 x y (((P 0 0) + (sg_daysBetween P y z)) + 1)))) < (v - x33_7) then (sg_freeOf P33 (Int32.toNatClampNeg (sg_firstFree P33 x y (((P 0 0) + (sg_daysBetween P y z)) + 1)))) else (v - x33_7))) (sg_up (sg_tadd P33 x z (if (sg_freeOf P33 (Int32.toNatClampNeg (sg_firstFree P33 x y (((P 0 0) + (sg_daysBetween P y z)) + 1)))) < (v - x33_7) then (sg_freeOf P33 (Int32.toNatClampNeg (sg_firstFree P33 x y (((P 0 0) + (sg_daysBetween P y z)) + 1)))) else (v - x33_7)) ((P 0 0) + (sg_daysBetween P y z)) (P33 44 (Int32.toNatClampNeg (sg_firstFree P33 x y (((P 0 0) + (sg_daysBetween P y z)) + 1))))) 42 (Int32.toNatClampNeg (sg_firstFree P33 x y (((P 0 0) + (sg_daysBetween P y z)) + 1))) (((sg_tadd P33 x z (if (sg_freeOf P33 (Int32.toNatClampNeg (sg_firstFree P33 x y (((P 0 0) + (sg_daysBetween P y z)) + 1)))) < (v - x33_7) then (sg_freeOf P33 (Int32.toNatClampNeg (sg_firstFree P33 x y (((P 0 0) + (sg_daysBetween P y z)) + 1)))) else (v - x33_7)) ((P 0 0) + (sg_daysBetween P y z)) (P33 44 (Int32.toNatClampNeg (sg_firstFree P33 x y (((P 0 0) + (sg_daysBetween P y z)) + 1))))) 42 (Int32.toNatClampNeg (sg_firstFree P33 x y (((P 0 0) + (sg_daysBetween P y z)) + 1)))) - (if (sg_freeOf P33 (Int32.toNatClampNeg (sg_firstFree P33 x y (((P 0 0) + (sg_daysBetween P y z)) + 1)))) < (v - x33_7) then (sg_freeOf P33 (Int32.toNatClampNeg (sg_firstFree P33 x y (((P 0 0) + (sg_daysBetween P y z)) + 1)))) else (v - x33_7)))))) else (x33_7, P33)))
theorem sg_sendUnits_33_K (P : sg_Pic) (x : Int32) (y : Int32) (z : Int32) (v : Int32) : ∀ (n : Nat) (x33_7 : Int32) (P33 : sg_Pic), sg_K5 ((sg_sendUnits_33 P x y z v n x33_7 P33).2) P33
  | 0, x33_7, P33 => by
    rw [sg_sendUnits_33]
    exact sg_K5.of ⟨rfl, rfl⟩
  | n + 1, x33_7, P33 => by
    rw [sg_sendUnits_33]
    repeat' split
    all_goals first | exact sg_K5.of ⟨rfl, rfl⟩ | exact sg_K5.trans (sg_sendUnits_33_K P x y z v n _ _) (by first | exact sg_K5.of ⟨rfl, rfl⟩ | exact sg_K5.trans (sg_K5.of ⟨rfl, rfl⟩) (sg_tadd_K _ _ _ _ _ _))

def sg_sendUnits_r (P : sg_Pic) (x : Int32) (y : Int32) (z : Int32) (v : Int32) : Int32 := (if (sg_daysBetween P y z) = 0 then 0 else (((sg_sendUnits_33 P x y z v 90 0 P)).1))

def sg_sendUnits (P : sg_Pic) (x : Int32) (y : Int32) (z : Int32) (v : Int32) : sg_Pic := (if (sg_daysBetween P y z) = 0 then P else (((sg_sendUnits_33 P x y z v 90 0 P)).2))

theorem sg_sendUnits_K (P : sg_Pic) (x : Int32) (y : Int32) (z : Int32) (v : Int32) : sg_K5 (sg_sendUnits P x y z v) P := by
  unfold sg_sendUnits
  repeat' split
  all_goals first | exact sg_K5.of ⟨rfl, rfl⟩ | exact sg_sendUnits_33_K _ _ _ _ _ _ _ _
theorem sg_sendUnits_W {P : sg_Pic} {x : Int32} {y : Int32} {z : Int32} {v : Int32} (hw : sg_W P) : sg_W (sg_sendUnits P x y z v) := (sg_sendUnits_K P x y z v).W hw

set_option maxHeartbeats 4000000 in
set_option maxRecDepth 100000 in
/-- X6_sendUnits -/
theorem c_sendUnits (l : Launch) (D : va_G) (cI cZ cJ : ClassId) (lo sz : Nat) (a : Nat → Nat) (P : sg_Pic) (q : Nat → Int32) (x : Int32) (y : Int32) (z : Int32) (v : Int32) (hw : sg_W P) : Met l yX6_sendUnits wsX6_sendUnits ({ frames := 2, cells := 0, slots := 0, locals := 46 }) (Pre lo D cI cZ cJ [.ref (a 0), .int x, .int y, .int z, .int v] sz (sg_St cI cZ a P q)) (va_Qi (fun (r : Int32) (_ : Unit) => r = sg_sendUnits_r P x y z v) (fun _ t => va_P D vwCl (sg_St cI cZ a (sg_sendUnits P x y z v) q) t.heap ∧ va_D (va_A (sg_St cI cZ a P q) sz) (sg_St cI cZ a (sg_sendUnits P x y z v) q)) (va_A (sg_St cI cZ a P q) sz)) 0 0 (va_A (sg_St cI cZ a P q) sz) := by
  refine Met.ofW (cc := cX6_sendUnits) (maxL := 11) (ret := (some .int)) (by decide) rfl ?_
  intro p e s m args below meth c s₁ B hml hv
  obtain ⟨rfl, hsz, hP, hD0, hC⟩ := hv
  have hx := B.exec
  have hb := B.bytes
  have hr := B.returns
  have hts := atoms_spec (ws := wsX6_sendUnits) B.pre
  have hown : s.vm.findClass RX6 = some m.cls := findClass_of_methodNamed B.named
  have hlocks := B.notSynchronized
  subst hsz
  have hn1 : sg_cn P 1 ≤ 6 := hw.n1
  have hn2 : sg_cn P 2 ≤ 5 := hw.n2
  have hn3 : sg_cn P 3 ≤ 200 := hw.n3
  have hn4 : sg_cn P 4 ≤ 60 := hw.n4
  have hn5 : sg_cn P 5 ≤ 90 := hw.n5
  have hK := hC.K
  have hD := hD0.self (sz := s.heap.size)
  have hAlo0 := va_A_lo hD0 hC.1
  generalize hAe : va_A (sg_St cI cZ a P q) s.heap.size = A at hD hAlo0 ⊢
  have hA : ∀ q : Nat, s.heap.size ≤ q → A q := fun q h => by rw [← hAe]; exact Or.inr h
  have hAlo : ∀ q, A q → lo ≤ q := hAlo0
  have hS : va_S A s.heap s.heap [] := va_S.rf
  have hP : va_P D vwCl (sg_St cI cZ a P q) s.heap := hP
  have hl := lv_entry ([.ref (a 0), .int x, .int y, .int z, .int v]) (n := 11) (Nat.le_of_ble_eq_true rfl)
  rw [lg_entry_eq]
  generalize (lg_sl ([.ref (a 0), .int x, .int y, .int z, .int v]) ++ List.replicate (11 - (lg_sl ([.ref (a 0), .int x, .int y, .int z, .int v])).length) Slot.unset).toArray = ls at hl ⊢
  have hl : lv_has ls 11 [(0, .ref (a 0)), (1, .int x), (2, .int y), (3, .int z), (4, .int v)] := hl
  have in1 : ∀ w ∈ u_ws RX1 TX1 6, w ∈ wsX6_sendUnits := by decide +kernel
  have in6 : ∀ w ∈ u_ws RX6 TX6 9, w ∈ wsX6_sendUnits := by decide +kernel
  refine lv_aload_n hx hb dX6_sendUnits_0 rfl (lv_at hl 0 rfl) ?_
  refine va_get (D := D) (ci := 6) (v := .ref (a 2)) (C := RX6) (T := TX6) (N := 9) hx hb hts in6 hown hK hP 0 rfl rfl 2 (by decide) (hts (.fieldLink RX6 21 "Granary$Stock" "sites" "LGranary$Sites;") (by decide +kernel)) (fun _ h9 => h9) rfl dX6_sendUnits_1 ?_
  refine lv_iload_n hx hb dX6_sendUnits_4 rfl (lv_at hl 2 rfl) ?_
  refine lv_iload_n hx hb dX6_sendUnits_5 rfl (lv_at hl 3 rfl) ?_
  have hPc := hP.sub (ws' := [(a 2, .inr (5, [.int (P 0 2), .ref (a 20), .ref (a 21)])), (a 21, .inl (cI, 25, .inl (P 21)))]) [2, 12] rfl
  have hDc := hD.sub (ws' := [(a 2, .inr (5, [.int (P 0 2), .ref (a 20), .ref (a 21)])), (a 21, .inl (cI, 25, .inl (P 21)))]) [2, 12] (by decide) rfl
  refine vp_callSi (W.runV (As := [.int y, .int z]) (rest := []) ⟨hx, hb, hml, hown, hts⟩ (c_daysBetween l D cI cZ cJ lo s.heap.size a P y z hw) (cwV 2 hts gX6_sendUnits_X5_daysBetween rfl rfl rfl (by decide +kernel) ⟨(Nat.le_of_ble_eq_true rfl), (Nat.le_of_ble_eq_true rfl)⟩) ⟨Pre.blind, va_recv hK hP (ci := 5) (q0 := 2) rfl rfl, Pre.mk hPc (hDc.weaken (fun _ _ _ h => hAlo _ h)) hC hS hAlo⟩ rfl rfl hl.1 rfl (lv_room (Nat.le_of_ble_eq_true rfl)) dX6_sendUnits_6 ⟨(Nat.le_of_ble_eq_true rfl), (Nat.le_of_ble_eq_true rfl)⟩) (fun r_1 e_2 => ?_)
  clear hPc hDc
  have e_2 : sg_daysBetween P y z = r_1 := Eq.symm e_2
  subst e_2
  refine lv_istore (lv' := [(5, .int (sg_daysBetween P y z)), (0, .ref (a 0)), (1, .int x), (2, .int y), (3, .int z), (4, .int v)]) hx hb dX6_sendUnits_9 hl (by decide) rfl (fun ls hl => ?_)
  refine lv_iload hx hb dX6_sendUnits_11 (lv_at hl 0 rfl) ?_
  refine lv_if_ne (tgt := 18) hx hb dX6_sendUnits_13 (by decide) (fun c_3 => ?_) (fun c_3 => ?_)
  · refine lv_aload_n hx hb dX6_sendUnits_18 rfl (lv_at hl 1 rfl) ?_
    refine va_get (D := D) (ci := 6) (v := .int (P 0 0)) (C := RX6) (T := TX6) (N := 9) hx hb hts in6 hown hK hP 0 rfl rfl 0 (by decide) (hts (.fieldLink RX6 60 "Granary$Stock" "day" "I") (by decide +kernel)) (fun _ h9 => h9) rfl dX6_sendUnits_19 ?_
    refine lv_iload hx hb dX6_sendUnits_22 (lv_at hl 0 rfl) ?_
    refine lv_iadd hx hb dX6_sendUnits_24 ?_
    refine lv_istore (lv' := [(6, .int ((P 0 0) + (sg_daysBetween P y z))), (5, .int (sg_daysBetween P y z)), (0, .ref (a 0)), (1, .int x), (2, .int y), (3, .int z), (4, .int v)]) hx hb dX6_sendUnits_25 hl (by decide) rfl (fun ls hl => ?_)
    refine lv_iconst (v := 0) hx hb dX6_sendUnits_27 (by decide) ?_
    refine lv_istore (lv' := [(7, .int 0), (6, .int ((P 0 0) + (sg_daysBetween P y z))), (5, .int (sg_daysBetween P y z)), (0, .ref (a 0)), (1, .int x), (2, .int y), (3, .int z), (4, .int v)]) hx hb dX6_sendUnits_28 hl (by decide) rfl (fun ls hl => ?_)
    refine lv_iconst (v := 0) hx hb dX6_sendUnits_30 (by decide) ?_
    refine lv_istore (lv' := [(8, .int 0), (7, .int 0), (6, .int ((P 0 0) + (sg_daysBetween P y z))), (5, .int (sg_daysBetween P y z)), (0, .ref (a 0)), (1, .int x), (2, .int y), (3, .int z), (4, .int v)]) hx hb dX6_sendUnits_31 hl (by decide) rfl (fun ls hl => ?_)
    obtain ⟨H, hH9⟩ : ∃ z : Heap, z = s.heap := ⟨_, rfl⟩
    replace hS : va_S A s.heap H [] := by rw [hH9]; exact va_S.rf
    replace hP : va_P D vwCl (sg_St cI cZ a P q) H := by rw [hH9]; exact hP
    rw [← hH9]
    clear hH9
    generalize ([] : List Loc) = locs at hS ⊢
    obtain ⟨T33, hTT33⟩ : ∃ z9 : Int32 × sg_Pic, z9 = sg_sendUnits_33 P x y z v 90 0 P := ⟨_, rfl⟩
    obtain ⟨x33_7, hx33_7⟩ : ∃ z9 : Int32, z9 = 0 := ⟨_, rfl⟩
    obtain ⟨P33, hP33⟩ : ∃ z9 : sg_Pic, z9 = P := ⟨_, rfl⟩
    obtain ⟨j33, h0j33⟩ : ∃ j : Nat, j = 0 := ⟨_, rfl⟩
    obtain ⟨n33, hn33⟩ : ∃ n : Nat, n = 90 := ⟨_, rfl⟩
    replace hl : lv_has ls 11 [(8, .int (nI j33)), (7, .int x33_7), (6, .int ((P 0 0) + (sg_daysBetween P y z))), (5, .int (sg_daysBetween P y z)), (0, .ref (a 0)), (1, .int x), (2, .int y), (3, .int z), (4, .int v)] := by rw [h0j33, hx33_7]; exact hl
    replace hP : va_P D vwCl (sg_St cI cZ a P33 q) H := by rw [hP33]; exact hP
    replace hD : va_D A (sg_St cI cZ a P33 q) := by rw [hP33]; exact hD
    have hF33 : sg_sendUnits_33 P x y z v n33 x33_7 P33 = T33 := by rw [hx33_7, hP33, hn33, hTT33]
    have hw33 : sg_W P33 := by rw [hP33]; exact hw
    have hjj33 : j33 + n33 = 90 := by omega
    clear h0j33 hn33
    clear hx33_7
    clear hP33
    revert hP
    revert hD
    revert hS
    revert hl
    revert hF33
    revert hjj33
    revert hw33
    revert ls
    revert locs
    revert H
    revert P33
    revert x33_7
    revert j33
    induction n33 with
    | zero =>
      intro j33 x33_7 P33 H locs ls hw33 hjj33 hF33 hl hS hD hP
      refine lv_iload hx hb dX6_sendUnits_33 (lv_at hl 0 rfl) ?_
      refine lv_bipush (v := 90) hx hb dX6_sendUnits_35 (by decide) ?_
      have c_4 : (90 : Int32) ≤ nI j33 := sg_geN (show (90 : Int32) = nI (90) from rfl) (by omega) (by omega)
      refine lv_icmp_ge (tgt := 151) hx hb dX6_sendUnits_37 (by decide) (fun _ => ?_) (fun c9 => absurd c_4 c9)
      rw [sg_sendUnits_33] at hF33
      replace hl : lv_has ls 11 [(7, .int ((T33).1)), (6, .int ((P 0 0) + (sg_daysBetween P y z))), (5, .int (sg_daysBetween P y z)), (0, .ref (a 0)), (1, .int x), (2, .int y), (3, .int z), (4, .int v)] := by rw [← hF33]; exact lv_sub hl [1, 2, 3, 4, 5, 6, 7, 8] rfl
      replace hP : va_P D vwCl (sg_St cI cZ a ((T33).2) q) H := by rw [← hF33]; exact hP
      replace hD : va_D A (sg_St cI cZ a ((T33).2) q) := by rw [← hF33]; exact hD
      clear hF33
      subst hTT33
      refine lv_iload hx hb dX6_sendUnits_151 (lv_at hl 0 rfl) ?_
      refine W.widen (k := 0) (n := 0) (by omega) (by omega) ?_
      have e9 : sg_sendUnits P x y z v = ((sg_sendUnits_33 P x y z v 90 0 P)).2 := by rw [sg_sendUnits, if_neg c_3]
      have hP9 : va_P D vwCl (sg_St cI cZ a (sg_sendUnits P x y z v) q) H := by rw [e9]; exact hP
      have hD9 : va_D A (sg_St cI cZ a (sg_sendUnits P x y z v) q) := by rw [e9]; exact hD
      exact W.iret (v := (((sg_sendUnits_33 P x y z v 90 0 P)).1)) hx hb hr (fun t ht hW => ⟨⟨(((sg_sendUnits_33 P x y z v 90 0 P)).1), (), rfl, (show (((sg_sendUnits_33 P x y z v 90 0 P)).1 : Int32) = sg_sendUnits_r P x y z v from by rw [sg_sendUnits_r, if_neg c_3]), by rw [ht]; exact hP9, hD9⟩, hS.F ht⟩) hS.2.2 dX6_sendUnits_153
    | succ n33 ih33 =>
      intro j33 x33_7 P33 H locs ls hw33 hjj33 hF33 hl hS hD hP
      refine lv_iload hx hb dX6_sendUnits_33 (lv_at hl 0 rfl) ?_
      refine lv_bipush (v := 90) hx hb dX6_sendUnits_35 (by decide) ?_
      have c_5 : ¬ ((90 : Int32) ≤ nI j33) := sg_nge (show (90 : Int32) = nI (90) from rfl) (by omega) (by omega)
      refine lv_icmp_ge (tgt := 151) hx hb dX6_sendUnits_37 (by decide) (fun c9 => absurd c9 c_5) (fun _ => ?_)
      refine lv_iload hx hb dX6_sendUnits_40 (lv_at hl 1 rfl) ?_
      refine lv_iload hx hb dX6_sendUnits_42 (lv_at hl 8 rfl) ?_
      refine lv_icmp_ge (tgt := 151) hx hb dX6_sendUnits_44 (by decide) (fun c_6 => ?_) (fun c_6 => ?_)
      · rw [sg_sendUnits_33, if_pos c_6] at hF33
        replace hl : lv_has ls 11 [(7, .int ((T33).1)), (6, .int ((P 0 0) + (sg_daysBetween P y z))), (5, .int (sg_daysBetween P y z)), (0, .ref (a 0)), (1, .int x), (2, .int y), (3, .int z), (4, .int v)] := by rw [← hF33]; exact lv_sub hl [1, 2, 3, 4, 5, 6, 7, 8] rfl
        replace hP : va_P D vwCl (sg_St cI cZ a ((T33).2) q) H := by rw [← hF33]; exact hP
        replace hD : va_D A (sg_St cI cZ a ((T33).2) q) := by rw [← hF33]; exact hD
        clear hF33 ih33
        subst hTT33
        refine lv_iload hx hb dX6_sendUnits_151 (lv_at hl 0 rfl) ?_
        refine W.widen (k := 0) (n := 0) (by omega) (by omega) ?_
        have e9 : sg_sendUnits P x y z v = ((sg_sendUnits_33 P x y z v 90 0 P)).2 := by rw [sg_sendUnits, if_neg c_3]
        have hP9 : va_P D vwCl (sg_St cI cZ a (sg_sendUnits P x y z v) q) H := by rw [e9]; exact hP
        have hD9 : va_D A (sg_St cI cZ a (sg_sendUnits P x y z v) q) := by rw [e9]; exact hD
        exact W.iret (v := (((sg_sendUnits_33 P x y z v 90 0 P)).1)) hx hb hr (fun t ht hW => ⟨⟨(((sg_sendUnits_33 P x y z v 90 0 P)).1), (), rfl, (show (((sg_sendUnits_33 P x y z v 90 0 P)).1 : Int32) = sg_sendUnits_r P x y z v from by rw [sg_sendUnits_r, if_neg c_3]), by rw [ht]; exact hP9, hD9⟩, hS.F ht⟩) hS.2.2 dX6_sendUnits_153
      · refine lv_aload_n hx hb dX6_sendUnits_47 rfl (lv_at hl 4 rfl) ?_
        refine va_get (D := D) (ci := 6) (v := .ref (a 6)) (C := RX6) (T := TX6) (N := 9) hx hb hts in6 hown hK hP 0 rfl rfl 6 (by decide) (hts (.fieldLink RX6 49 "Granary$Stock" "transports" "LGranary$Transports;") (by decide +kernel)) (fun _ h9 => h9) rfl dX6_sendUnits_48 ?_
        have hPc := hP.sub (ws' := [(a 6, .inr (7, [.int (P33 0 5), .ref (a 60), .ref (a 61), .ref (a 62), .ref (a 63), .ref (a 64), .ref (a 65)]))]) [6] rfl
        have hDc := hD.sub (ws' := [(a 6, .inr (7, [.int (P33 0 5), .ref (a 60), .ref (a 61), .ref (a 62), .ref (a 63), .ref (a 64), .ref (a 65)]))]) [6] (by decide) rfl
        refine vp_callSi (W.runV (As := []) (rest := []) ⟨hx, hb, hml, hown, hts⟩ (c_full l D cI cZ cJ lo H.size a P33) (cwV 0 hts gX6_sendUnits_X7_full rfl rfl rfl (by decide +kernel) ⟨(Nat.le_of_ble_eq_true rfl), (Nat.le_of_ble_eq_true rfl)⟩) ⟨Pre.blind, va_recv hK hP (ci := 7) (q0 := 6) rfl rfl, Pre.mk hPc (hDc.weaken (fun _ _ _ h => hAlo _ h)) hC hS hAlo⟩ rfl rfl hl.1 rfl (lv_room (Nat.le_of_ble_eq_true rfl)) dX6_sendUnits_51 ⟨(Nat.le_of_ble_eq_true rfl), (Nat.le_of_ble_eq_true rfl)⟩) (fun r_7 e_8 => ?_)
        clear hPc hDc
        have e_8 : sg_full P33 = r_7 := Eq.symm e_8
        subst e_8
        refine lv_if_ne (tgt := 151) hx hb dX6_sendUnits_54 (by decide) (fun c_9 => ?_) (fun c_9 => ?_)
        · rw [sg_sendUnits_33, if_neg c_6, if_neg c_9] at hF33
          replace hl : lv_has ls 11 [(7, .int ((T33).1)), (6, .int ((P 0 0) + (sg_daysBetween P y z))), (5, .int (sg_daysBetween P y z)), (0, .ref (a 0)), (1, .int x), (2, .int y), (3, .int z), (4, .int v)] := by rw [← hF33]; exact lv_sub hl [1, 2, 3, 4, 5, 6, 7, 8] rfl
          replace hP : va_P D vwCl (sg_St cI cZ a ((T33).2) q) H := by rw [← hF33]; exact hP
          replace hD : va_D A (sg_St cI cZ a ((T33).2) q) := by rw [← hF33]; exact hD
          clear hF33 ih33
          subst hTT33
          refine lv_iload hx hb dX6_sendUnits_151 (lv_at hl 0 rfl) ?_
          refine W.widen (k := 0) (n := 0) (by omega) (by omega) ?_
          have e9 : sg_sendUnits P x y z v = ((sg_sendUnits_33 P x y z v 90 0 P)).2 := by rw [sg_sendUnits, if_neg c_3]
          have hP9 : va_P D vwCl (sg_St cI cZ a (sg_sendUnits P x y z v) q) H := by rw [e9]; exact hP
          have hD9 : va_D A (sg_St cI cZ a (sg_sendUnits P x y z v) q) := by rw [e9]; exact hD
          exact W.iret (v := (((sg_sendUnits_33 P x y z v 90 0 P)).1)) hx hb hr (fun t ht hW => ⟨⟨(((sg_sendUnits_33 P x y z v 90 0 P)).1), (), rfl, (show (((sg_sendUnits_33 P x y z v 90 0 P)).1 : Int32) = sg_sendUnits_r P x y z v from by rw [sg_sendUnits_r, if_neg c_3]), by rw [ht]; exact hP9, hD9⟩, hS.F ht⟩) hS.2.2 dX6_sendUnits_153
        · refine lv_aload_n hx hb dX6_sendUnits_57 rfl (lv_at hl 4 rfl) ?_
          refine va_get (D := D) (ci := 6) (v := .ref (a 4)) (C := RX6) (T := TX6) (N := 9) hx hb hts in6 hown hK hP 0 rfl rfl 4 (by decide) (hts (.fieldLink RX6 35 "Granary$Stock" "lots" "LGranary$Lots;") (by decide +kernel)) (fun _ h9 => h9) rfl dX6_sendUnits_58 ?_
          refine lv_iload_n hx hb dX6_sendUnits_61 rfl (lv_at hl 5 rfl) ?_
          refine lv_iload_n hx hb dX6_sendUnits_62 rfl (lv_at hl 6 rfl) ?_
          refine lv_iload hx hb dX6_sendUnits_63 (lv_at hl 2 rfl) ?_
          refine lv_iconst (v := 1) hx hb dX6_sendUnits_65 (by decide) ?_
          refine lv_iadd hx hb dX6_sendUnits_66 ?_
          have hPc := hP.sub (ws' := [(a 4, .inr (1, [.int (P33 0 3), .ref (a 40), .ref (a 41), .ref (a 42), .ref (a 43), .ref (a 44)])), (a 40, .inl (cI, 200, .inl (P33 40))), (a 41, .inl (cI, 200, .inl (P33 41))), (a 42, .inl (cI, 200, .inl (P33 42))), (a 43, .inl (cI, 200, .inl (P33 43))), (a 44, .inl (cI, 200, .inl (P33 44)))]) [4, 18, 19, 20, 21, 22] rfl
          have hDc := hD.sub (ws' := [(a 4, .inr (1, [.int (P33 0 3), .ref (a 40), .ref (a 41), .ref (a 42), .ref (a 43), .ref (a 44)])), (a 40, .inl (cI, 200, .inl (P33 40))), (a 41, .inl (cI, 200, .inl (P33 41))), (a 42, .inl (cI, 200, .inl (P33 42))), (a 43, .inl (cI, 200, .inl (P33 43))), (a 44, .inl (cI, 200, .inl (P33 44)))]) [4, 18, 19, 20, 21, 22] (by decide) rfl
          refine vp_callSi (W.runV (As := [.int x, .int y, .int (((P 0 0) + (sg_daysBetween P y z)) + 1)]) (rest := []) ⟨hx, hb, hml, hown, hts⟩ (c_firstFree l D cI cZ cJ lo H.size a P33 x y (((P 0 0) + (sg_daysBetween P y z)) + 1) hw33) (cwV 3 hts gX6_sendUnits_X1_firstFree rfl rfl rfl (by decide +kernel) ⟨(Nat.le_of_ble_eq_true rfl), (Nat.le_of_ble_eq_true rfl)⟩) ⟨Pre.blind, va_recv hK hP (ci := 1) (q0 := 4) rfl rfl, Pre.mk hPc (hDc.weaken (fun _ _ _ h => hAlo _ h)) hC hS hAlo⟩ rfl rfl hl.1 rfl (lv_room (Nat.le_of_ble_eq_true rfl)) dX6_sendUnits_67 ⟨(Nat.le_of_ble_eq_true rfl), (Nat.le_of_ble_eq_true rfl)⟩) (fun r_10 e_11 => ?_)
          clear hPc hDc
          have e_11 : sg_firstFree P33 x y (((P 0 0) + (sg_daysBetween P y z)) + 1) = r_10 := Eq.symm e_11
          subst e_11
          refine lv_istore (lv' := [(9, .int (sg_firstFree P33 x y (((P 0 0) + (sg_daysBetween P y z)) + 1))), (8, .int (nI j33)), (7, .int x33_7), (6, .int ((P 0 0) + (sg_daysBetween P y z))), (5, .int (sg_daysBetween P y z)), (0, .ref (a 0)), (1, .int x), (2, .int y), (3, .int z), (4, .int v)]) hx hb dX6_sendUnits_70 hl (by decide) rfl (fun ls hl => ?_)
          refine lv_iload hx hb dX6_sendUnits_72 (lv_at hl 0 rfl) ?_
          refine lv_iconst (v := (-1)) hx hb dX6_sendUnits_74 (by decide) ?_
          refine lv_icmp_ne (tgt := 81) hx hb dX6_sendUnits_75 (by decide) (fun c_12 => ?_) (fun c_12 => ?_)
          · obtain ⟨e_13, le_13⟩ := sg_ff hw33 c_12
            have e_13 : (sg_firstFree P33 x y (((P 0 0) + (sg_daysBetween P y z)) + 1) : Int32) = nI (Int32.toNatClampNeg (sg_firstFree P33 x y (((P 0 0) + (sg_daysBetween P y z)) + 1))) := e_13
            have le_13 : Int32.toNatClampNeg (sg_firstFree P33 x y (((P 0 0) + (sg_daysBetween P y z)) + 1)) < sg_cn P33 3 := le_13
            replace hl : lv_has ls 11 [(9, .int (nI (Int32.toNatClampNeg (sg_firstFree P33 x y (((P 0 0) + (sg_daysBetween P y z)) + 1))))), (8, .int (nI j33)), (7, .int x33_7), (6, .int ((P 0 0) + (sg_daysBetween P y z))), (5, .int (sg_daysBetween P y z)), (0, .ref (a 0)), (1, .int x), (2, .int y), (3, .int z), (4, .int v)] := by rw [← e_13]; exact hl
            have hn33_3 : sg_cn P33 3 ≤ 200 := hw33.n3
            refine lv_iload hx hb dX6_sendUnits_81 (lv_at hl 9 rfl) ?_
            refine lv_iload hx hb dX6_sendUnits_83 (lv_at hl 2 rfl) ?_
            refine lv_isub hx hb dX6_sendUnits_85 ?_
            refine lv_aload_n hx hb dX6_sendUnits_86 rfl (lv_at hl 5 rfl) ?_
            refine va_get (D := D) (ci := 6) (v := .ref (a 4)) (C := RX6) (T := TX6) (N := 9) hx hb hts in6 hown hK hP 0 rfl rfl 4 (by decide) (hts (.fieldLink RX6 35 "Granary$Stock" "lots" "LGranary$Lots;") (by decide +kernel)) (fun _ h9 => h9) rfl dX6_sendUnits_87 ?_
            refine lv_iload hx hb dX6_sendUnits_90 (lv_at hl 0 rfl) ?_
            have hPc := hP.sub (ws' := [(a 4, .inr (1, [.int (P33 0 3), .ref (a 40), .ref (a 41), .ref (a 42), .ref (a 43), .ref (a 44)])), (a 42, .inl (cI, 200, .inl (P33 42))), (a 43, .inl (cI, 200, .inl (P33 43)))]) [4, 20, 21] rfl
            have hDc := hD.sub (ws' := [(a 4, .inr (1, [.int (P33 0 3), .ref (a 40), .ref (a 41), .ref (a 42), .ref (a 43), .ref (a 44)])), (a 42, .inl (cI, 200, .inl (P33 42))), (a 43, .inl (cI, 200, .inl (P33 43)))]) [4, 20, 21] (by decide) rfl
            refine vp_callSi (W.runV (As := [.int (nI (Int32.toNatClampNeg (sg_firstFree P33 x y (((P 0 0) + (sg_daysBetween P y z)) + 1))))]) (rest := [.int (v - x33_7)]) ⟨hx, hb, hml, hown, hts⟩ (c_freeOf l D cI cZ cJ lo H.size a P33 (Int32.toNatClampNeg (sg_firstFree P33 x y (((P 0 0) + (sg_daysBetween P y z)) + 1))) (by omega)) (cwV 1 hts gX6_sendUnits_X1_freeOf rfl rfl rfl (by decide +kernel) ⟨(Nat.le_of_ble_eq_true rfl), (Nat.le_of_ble_eq_true rfl)⟩) ⟨Pre.blind, va_recv hK hP (ci := 1) (q0 := 4) rfl rfl, Pre.mk hPc (hDc.weaken (fun _ _ _ h => hAlo _ h)) hC hS hAlo⟩ rfl rfl hl.1 rfl (lv_room (Nat.le_of_ble_eq_true rfl)) dX6_sendUnits_92 ⟨(Nat.le_of_ble_eq_true rfl), (Nat.le_of_ble_eq_true rfl)⟩) (fun r_14 e_15 => ?_)
            clear hPc hDc
            have e_15 : sg_freeOf P33 (Int32.toNatClampNeg (sg_firstFree P33 x y (((P 0 0) + (sg_daysBetween P y z)) + 1))) = r_14 := Eq.symm e_15
            subst e_15
            refine va_mmin hx hb (hml.trans hl.1.symm) hown (hts (.methodLink RX6 134 Lib.Math.min.name) (by decide +kernel)) (hts (.static Lib.Math.min.name) (by decide +kernel)) (hts (.initialized "java/lang/Math") (by decide +kernel)) (hts (.code Lib.Math.min.name Lib.Math.min.code 2 (some .int)) (by decide +kernel)) (Nat.le_of_ble_eq_true rfl) (Nat.le_of_ble_eq_true rfl) (Nat.le_of_ble_eq_true rfl) (Nat.le_of_ble_eq_true rfl) dX6_sendUnits_95 ?_
            refine lv_istore (lv' := [(10, .int (if (sg_freeOf P33 (Int32.toNatClampNeg (sg_firstFree P33 x y (((P 0 0) + (sg_daysBetween P y z)) + 1)))) < (v - x33_7) then (sg_freeOf P33 (Int32.toNatClampNeg (sg_firstFree P33 x y (((P 0 0) + (sg_daysBetween P y z)) + 1)))) else (v - x33_7))), (9, .int (nI (Int32.toNatClampNeg (sg_firstFree P33 x y (((P 0 0) + (sg_daysBetween P y z)) + 1))))), (8, .int (nI j33)), (7, .int x33_7), (6, .int ((P 0 0) + (sg_daysBetween P y z))), (5, .int (sg_daysBetween P y z)), (0, .ref (a 0)), (1, .int x), (2, .int y), (3, .int z), (4, .int v)]) hx hb dX6_sendUnits_98 hl (by decide) rfl (fun ls hl => ?_)
            refine lv_aload_n hx hb dX6_sendUnits_100 rfl (lv_at hl 6 rfl) ?_
            refine va_get (D := D) (ci := 6) (v := .ref (a 6)) (C := RX6) (T := TX6) (N := 9) hx hb hts in6 hown hK hP 0 rfl rfl 6 (by decide) (hts (.fieldLink RX6 49 "Granary$Stock" "transports" "LGranary$Transports;") (by decide +kernel)) (fun _ h9 => h9) rfl dX6_sendUnits_101 ?_
            refine lv_iload_n hx hb dX6_sendUnits_104 rfl (lv_at hl 7 rfl) ?_
            refine lv_iload_n hx hb dX6_sendUnits_105 rfl (lv_at hl 9 rfl) ?_
            refine lv_iload hx hb dX6_sendUnits_106 (lv_at hl 0 rfl) ?_
            refine lv_iload hx hb dX6_sendUnits_108 (lv_at hl 4 rfl) ?_
            refine lv_aload_n hx hb dX6_sendUnits_110 rfl (lv_at hl 6 rfl) ?_
            refine va_get (D := D) (ci := 6) (v := .ref (a 4)) (C := RX6) (T := TX6) (N := 9) hx hb hts in6 hown hK hP 0 rfl rfl 4 (by decide) (hts (.fieldLink RX6 35 "Granary$Stock" "lots" "LGranary$Lots;") (by decide +kernel)) (fun _ h9 => h9) rfl dX6_sendUnits_111 ?_
            refine va_get (D := D) (ci := 1) (v := .ref (a 44)) (C := RX1) (T := TX1) (N := 6) hx hb hts in1 hown hK hP 4 rfl rfl 5 (by decide) (hts (.fieldLink RX6 216 "Granary$Lots" "last" "[I") (by decide +kernel)) (fun _ h9 => h9) rfl dX6_sendUnits_114 ?_
            refine lv_iload hx hb dX6_sendUnits_117 (lv_at hl 1 rfl) ?_
            refine sg_iald hx hb hK hP 22 0 rfl rfl (j := Int32.toNatClampNeg (sg_firstFree P33 x y (((P 0 0) + (sg_daysBetween P y z)) + 1))) rfl (by omega) (Nat.le_of_ble_eq_true rfl) dX6_sendUnits_119 ?_
            refine lv_toi (y := P33 44 (Int32.toNatClampNeg (sg_firstFree P33 x y (((P 0 0) + (sg_daysBetween P y z)) + 1)))) rfl ?_
            have hPc : va_P D vwCl (sg_St cI cZ a P33 q) H := hP
            have hDc : va_D A (sg_St cI cZ a P33 q) := hD
            have hFc := va_free (wc := (sg_St cI cZ a P33 q)) hD hS hA [0, 1, 2, 3, 4, 5, 6, 7, 8, 9, 10, 11, 12, 13, 14, 15, 16, 17, 18, 19, 20, 21, 22, 23, 24, 25, 26, 27, 28, 29, 30, 31, 32, 33, 34, 35, 36, 37, 38, 39, 40] rfl
            refine va_callv (va_runV (As := [.int x, .int z, .int (if (sg_freeOf P33 (Int32.toNatClampNeg (sg_firstFree P33 x y (((P 0 0) + (sg_daysBetween P y z)) + 1)))) < (v - x33_7) then (sg_freeOf P33 (Int32.toNatClampNeg (sg_firstFree P33 x y (((P 0 0) + (sg_daysBetween P y z)) + 1)))) else (v - x33_7)), .int ((P 0 0) + (sg_daysBetween P y z)), .int (P33 44 (Int32.toNatClampNeg (sg_firstFree P33 x y (((P 0 0) + (sg_daysBetween P y z)) + 1))))]) (rest := []) ⟨hx, hb, hml, hown, hts⟩ (c_tadd l D cI cZ cJ lo H.size a P33 q x z (if (sg_freeOf P33 (Int32.toNatClampNeg (sg_firstFree P33 x y (((P 0 0) + (sg_daysBetween P y z)) + 1)))) < (v - x33_7) then (sg_freeOf P33 (Int32.toNatClampNeg (sg_firstFree P33 x y (((P 0 0) + (sg_daysBetween P y z)) + 1)))) else (v - x33_7)) ((P 0 0) + (sg_daysBetween P y z)) (P33 44 (Int32.toNatClampNeg (sg_firstFree P33 x y (((P 0 0) + (sg_daysBetween P y z)) + 1)))) hw33) (cwV 5 hts gX6_sendUnits_X7_add rfl rfl rfl (by decide +kernel) ⟨(Nat.le_of_ble_eq_true rfl), (Nat.le_of_ble_eq_true rfl)⟩) ⟨Pre.blind, va_recv hK hP (ci := 7) (q0 := 6) rfl rfl, Pre.mk hPc (hDc.weaken (fun _ _ _ h => hAlo _ h)) hC hS hAlo⟩ rfl rfl hl.1 rfl (lv_room (Nat.le_of_ble_eq_true rfl)) dX6_sendUnits_120 ⟨(Nat.le_of_ble_eq_true rfl), (Nat.le_of_ble_eq_true rfl)⟩) hS (fun q _ h => hFc q h) hFc (fun u t H1 locs1 ht hvm e_16 hB hz1 hk1 hS1 => ?_)
            have hS := hS1
            obtain ⟨hP1, hD1⟩ := hB
            rw [ht] at hP1
            obtain ⟨hP, hD⟩ := va_join (wr := []) (w1 := (sg_St cI cZ a (sg_tadd P33 x z (if (sg_freeOf P33 (Int32.toNatClampNeg (sg_firstFree P33 x y (((P 0 0) + (sg_daysBetween P y z)) + 1)))) < (v - x33_7) then (sg_freeOf P33 (Int32.toNatClampNeg (sg_firstFree P33 x y (((P 0 0) + (sg_daysBetween P y z)) + 1)))) else (v - x33_7)) ((P 0 0) + (sg_daysBetween P y z)) (P33 44 (Int32.toNatClampNeg (sg_firstFree P33 x y (((P 0 0) + (sg_daysBetween P y z)) + 1))))) q)) hP hD [0, 1, 2, 3, 4, 5, 6, 7, 8, 9, 10, 11, 12, 13, 14, 15, 16, 17, 18, 19, 20, 21, 22, 23, 24, 25, 26, 27, 28, 29, 30, 31, 32, 33, 34, 35, 36, 37, 38, 39, 40] [] rfl rfl (by decide) (by decide) hk1 hFc hP1 hD1
            have e_16 : True := e_16
            clear hFc hPc hDc ht hvm hz1 hk1 hS1 hP1 hD1
            generalize H1 = H at hP hS ⊢
            replace hP : va_P D vwCl (sg_St cI cZ a (sg_tadd P33 x z (if (sg_freeOf P33 (Int32.toNatClampNeg (sg_firstFree P33 x y (((P 0 0) + (sg_daysBetween P y z)) + 1)))) < (v - x33_7) then (sg_freeOf P33 (Int32.toNatClampNeg (sg_firstFree P33 x y (((P 0 0) + (sg_daysBetween P y z)) + 1)))) else (v - x33_7)) ((P 0 0) + (sg_daysBetween P y z)) (P33 44 (Int32.toNatClampNeg (sg_firstFree P33 x y (((P 0 0) + (sg_daysBetween P y z)) + 1))))) q) H := hP
            replace hD : va_D A (sg_St cI cZ a (sg_tadd P33 x z (if (sg_freeOf P33 (Int32.toNatClampNeg (sg_firstFree P33 x y (((P 0 0) + (sg_daysBetween P y z)) + 1)))) < (v - x33_7) then (sg_freeOf P33 (Int32.toNatClampNeg (sg_firstFree P33 x y (((P 0 0) + (sg_daysBetween P y z)) + 1)))) else (v - x33_7)) ((P 0 0) + (sg_daysBetween P y z)) (P33 44 (Int32.toNatClampNeg (sg_firstFree P33 x y (((P 0 0) + (sg_daysBetween P y z)) + 1))))) q) := hD
            refine lv_aload_n hx hb dX6_sendUnits_123 rfl (lv_at hl 6 rfl) ?_
            refine va_get (D := D) (ci := 6) (v := .ref (a 4)) (C := RX6) (T := TX6) (N := 9) hx hb hts in6 hown hK hP 0 rfl rfl 4 (by decide) (hts (.fieldLink RX6 35 "Granary$Stock" "lots" "LGranary$Lots;") (by decide +kernel)) (fun _ h9 => h9) rfl dX6_sendUnits_124 ?_
            refine va_get (D := D) (ci := 1) (v := .ref (a 42)) (C := RX1) (T := TX1) (N := 6) hx hb hts in1 hown hK hP 4 rfl rfl 3 (by decide) (hts (.fieldLink RX6 195 "Granary$Lots" "units" "[I") (by decide +kernel)) (fun _ h9 => h9) rfl dX6_sendUnits_127 ?_
            refine lv_iload hx hb dX6_sendUnits_130 (lv_at hl 1 rfl) ?_
            refine lv_dup2_11 hx hb dX6_sendUnits_132 rfl rfl ?_
            refine sg_iald hx hb hK hP 20 0 rfl rfl (j := Int32.toNatClampNeg (sg_firstFree P33 x y (((P 0 0) + (sg_daysBetween P y z)) + 1))) rfl (by omega) (Nat.le_of_ble_eq_true rfl) dX6_sendUnits_133 ?_
            refine lv_toi (y := (sg_tadd P33 x z (if (sg_freeOf P33 (Int32.toNatClampNeg (sg_firstFree P33 x y (((P 0 0) + (sg_daysBetween P y z)) + 1)))) < (v - x33_7) then (sg_freeOf P33 (Int32.toNatClampNeg (sg_firstFree P33 x y (((P 0 0) + (sg_daysBetween P y z)) + 1)))) else (v - x33_7)) ((P 0 0) + (sg_daysBetween P y z)) (P33 44 (Int32.toNatClampNeg (sg_firstFree P33 x y (((P 0 0) + (sg_daysBetween P y z)) + 1))))) 42 (Int32.toNatClampNeg (sg_firstFree P33 x y (((P 0 0) + (sg_daysBetween P y z)) + 1)))) rfl ?_
            refine lv_iload hx hb dX6_sendUnits_134 (lv_at hl 0 rfl) ?_
            refine lv_isub hx hb dX6_sendUnits_136 ?_
            refine sg_iast hx hb hK hP hD hS 20 0 rfl rfl (j := Int32.toNatClampNeg (sg_firstFree P33 x y (((P 0 0) + (sg_daysBetween P y z)) + 1))) rfl (by omega) (Nat.le_of_ble_eq_true rfl) dX6_sendUnits_137 (fun H locs hP hD hS => ?_)
            replace hP : va_P D vwCl (sg_St cI cZ a (sg_up (sg_tadd P33 x z (if (sg_freeOf P33 (Int32.toNatClampNeg (sg_firstFree P33 x y (((P 0 0) + (sg_daysBetween P y z)) + 1)))) < (v - x33_7) then (sg_freeOf P33 (Int32.toNatClampNeg (sg_firstFree P33 x y (((P 0 0) + (sg_daysBetween P y z)) + 1)))) else (v - x33_7)) ((P 0 0) + (sg_daysBetween P y z)) (P33 44 (Int32.toNatClampNeg (sg_firstFree P33 x y (((P 0 0) + (sg_daysBetween P y z)) + 1))))) 42 (Int32.toNatClampNeg (sg_firstFree P33 x y (((P 0 0) + (sg_daysBetween P y z)) + 1))) (((sg_tadd P33 x z (if (sg_freeOf P33 (Int32.toNatClampNeg (sg_firstFree P33 x y (((P 0 0) + (sg_daysBetween P y z)) + 1)))) < (v - x33_7) then (sg_freeOf P33 (Int32.toNatClampNeg (sg_firstFree P33 x y (((P 0 0) + (sg_daysBetween P y z)) + 1)))) else (v - x33_7)) ((P 0 0) + (sg_daysBetween P y z)) (P33 44 (Int32.toNatClampNeg (sg_firstFree P33 x y (((P 0 0) + (sg_daysBetween P y z)) + 1))))) 42 (Int32.toNatClampNeg (sg_firstFree P33 x y (((P 0 0) + (sg_daysBetween P y z)) + 1)))) - (if (sg_freeOf P33 (Int32.toNatClampNeg (sg_firstFree P33 x y (((P 0 0) + (sg_daysBetween P y z)) + 1)))) < (v - x33_7) then (sg_freeOf P33 (Int32.toNatClampNeg (sg_firstFree P33 x y (((P 0 0) + (sg_daysBetween P y z)) + 1)))) else (v - x33_7)))) q) H := hP
            replace hD : va_D A (sg_St cI cZ a (sg_up (sg_tadd P33 x z (if (sg_freeOf P33 (Int32.toNatClampNeg (sg_firstFree P33 x y (((P 0 0) + (sg_daysBetween P y z)) + 1)))) < (v - x33_7) then (sg_freeOf P33 (Int32.toNatClampNeg (sg_firstFree P33 x y (((P 0 0) + (sg_daysBetween P y z)) + 1)))) else (v - x33_7)) ((P 0 0) + (sg_daysBetween P y z)) (P33 44 (Int32.toNatClampNeg (sg_firstFree P33 x y (((P 0 0) + (sg_daysBetween P y z)) + 1))))) 42 (Int32.toNatClampNeg (sg_firstFree P33 x y (((P 0 0) + (sg_daysBetween P y z)) + 1))) (((sg_tadd P33 x z (if (sg_freeOf P33 (Int32.toNatClampNeg (sg_firstFree P33 x y (((P 0 0) + (sg_daysBetween P y z)) + 1)))) < (v - x33_7) then (sg_freeOf P33 (Int32.toNatClampNeg (sg_firstFree P33 x y (((P 0 0) + (sg_daysBetween P y z)) + 1)))) else (v - x33_7)) ((P 0 0) + (sg_daysBetween P y z)) (P33 44 (Int32.toNatClampNeg (sg_firstFree P33 x y (((P 0 0) + (sg_daysBetween P y z)) + 1))))) 42 (Int32.toNatClampNeg (sg_firstFree P33 x y (((P 0 0) + (sg_daysBetween P y z)) + 1)))) - (if (sg_freeOf P33 (Int32.toNatClampNeg (sg_firstFree P33 x y (((P 0 0) + (sg_daysBetween P y z)) + 1)))) < (v - x33_7) then (sg_freeOf P33 (Int32.toNatClampNeg (sg_firstFree P33 x y (((P 0 0) + (sg_daysBetween P y z)) + 1)))) else (v - x33_7)))) q) := hD
            refine lv_iload hx hb dX6_sendUnits_138 (lv_at hl 3 rfl) ?_
            refine lv_iload hx hb dX6_sendUnits_140 (lv_at hl 0 rfl) ?_
            refine lv_iadd hx hb dX6_sendUnits_142 ?_
            refine lv_istore (lv' := [(7, .int (x33_7 + (if (sg_freeOf P33 (Int32.toNatClampNeg (sg_firstFree P33 x y (((P 0 0) + (sg_daysBetween P y z)) + 1)))) < (v - x33_7) then (sg_freeOf P33 (Int32.toNatClampNeg (sg_firstFree P33 x y (((P 0 0) + (sg_daysBetween P y z)) + 1)))) else (v - x33_7)))), (10, .int (if (sg_freeOf P33 (Int32.toNatClampNeg (sg_firstFree P33 x y (((P 0 0) + (sg_daysBetween P y z)) + 1)))) < (v - x33_7) then (sg_freeOf P33 (Int32.toNatClampNeg (sg_firstFree P33 x y (((P 0 0) + (sg_daysBetween P y z)) + 1)))) else (v - x33_7))), (9, .int (nI (Int32.toNatClampNeg (sg_firstFree P33 x y (((P 0 0) + (sg_daysBetween P y z)) + 1))))), (8, .int (nI j33)), (6, .int ((P 0 0) + (sg_daysBetween P y z))), (5, .int (sg_daysBetween P y z)), (0, .ref (a 0)), (1, .int x), (2, .int y), (3, .int z), (4, .int v)]) hx hb dX6_sendUnits_143 hl (by decide) rfl (fun ls hl => ?_)
            refine lv_iinc (v := nI (j33 + 1)) (lv' := [(8, .int (nI (j33 + 1))), (7, .int (x33_7 + (if (sg_freeOf P33 (Int32.toNatClampNeg (sg_firstFree P33 x y (((P 0 0) + (sg_daysBetween P y z)) + 1)))) < (v - x33_7) then (sg_freeOf P33 (Int32.toNatClampNeg (sg_firstFree P33 x y (((P 0 0) + (sg_daysBetween P y z)) + 1)))) else (v - x33_7)))), (10, .int (if (sg_freeOf P33 (Int32.toNatClampNeg (sg_firstFree P33 x y (((P 0 0) + (sg_daysBetween P y z)) + 1)))) < (v - x33_7) then (sg_freeOf P33 (Int32.toNatClampNeg (sg_firstFree P33 x y (((P 0 0) + (sg_daysBetween P y z)) + 1)))) else (v - x33_7))), (9, .int (nI (Int32.toNatClampNeg (sg_firstFree P33 x y (((P 0 0) + (sg_daysBetween P y z)) + 1))))), (6, .int ((P 0 0) + (sg_daysBetween P y z))), (5, .int (sg_daysBetween P y z)), (0, .ref (a 0)), (1, .int x), (2, .int y), (3, .int z), (4, .int v)]) hx hb dX6_sendUnits_145 hl (k := 3) rfl (nI_1 j33) (by decide) rfl (fun ls hl => ?_)
            refine lv_goto (tgt := 33) hx hb dX6_sendUnits_148 (by decide) ?_
            exact ih33 (j33 + 1) (x33_7 + (if (sg_freeOf P33 (Int32.toNatClampNeg (sg_firstFree P33 x y (((P 0 0) + (sg_daysBetween P y z)) + 1)))) < (v - x33_7) then (sg_freeOf P33 (Int32.toNatClampNeg (sg_firstFree P33 x y (((P 0 0) + (sg_daysBetween P y z)) + 1)))) else (v - x33_7))) (sg_up (sg_tadd P33 x z (if (sg_freeOf P33 (Int32.toNatClampNeg (sg_firstFree P33 x y (((P 0 0) + (sg_daysBetween P y z)) + 1)))) < (v - x33_7) then (sg_freeOf P33 (Int32.toNatClampNeg (sg_firstFree P33 x y (((P 0 0) + (sg_daysBetween P y z)) + 1)))) else (v - x33_7)) ((P 0 0) + (sg_daysBetween P y z)) (P33 44 (Int32.toNatClampNeg (sg_firstFree P33 x y (((P 0 0) + (sg_daysBetween P y z)) + 1))))) 42 (Int32.toNatClampNeg (sg_firstFree P33 x y (((P 0 0) + (sg_daysBetween P y z)) + 1))) (((sg_tadd P33 x z (if (sg_freeOf P33 (Int32.toNatClampNeg (sg_firstFree P33 x y (((P 0 0) + (sg_daysBetween P y z)) + 1)))) < (v - x33_7) then (sg_freeOf P33 (Int32.toNatClampNeg (sg_firstFree P33 x y (((P 0 0) + (sg_daysBetween P y z)) + 1)))) else (v - x33_7)) ((P 0 0) + (sg_daysBetween P y z)) (P33 44 (Int32.toNatClampNeg (sg_firstFree P33 x y (((P 0 0) + (sg_daysBetween P y z)) + 1))))) 42 (Int32.toNatClampNeg (sg_firstFree P33 x y (((P 0 0) + (sg_daysBetween P y z)) + 1)))) - (if (sg_freeOf P33 (Int32.toNatClampNeg (sg_firstFree P33 x y (((P 0 0) + (sg_daysBetween P y z)) + 1)))) < (v - x33_7) then (sg_freeOf P33 (Int32.toNatClampNeg (sg_firstFree P33 x y (((P 0 0) + (sg_daysBetween P y z)) + 1)))) else (v - x33_7)))) _ _ _ (sg_tadd_W hw33) (by omega) (show sg_sendUnits_33 P x y z v n33 (x33_7 + (if (sg_freeOf P33 (Int32.toNatClampNeg (sg_firstFree P33 x y (((P 0 0) + (sg_daysBetween P y z)) + 1)))) < (v - x33_7) then (sg_freeOf P33 (Int32.toNatClampNeg (sg_firstFree P33 x y (((P 0 0) + (sg_daysBetween P y z)) + 1)))) else (v - x33_7))) (sg_up (sg_tadd P33 x z (if (sg_freeOf P33 (Int32.toNatClampNeg (sg_firstFree P33 x y (((P 0 0) + (sg_daysBetween P y z)) + 1)))) < (v - x33_7) then (sg_freeOf P33 (Int32.toNatClampNeg (sg_firstFree P33 x y (((P 0 0) + (sg_daysBetween P y z)) + 1)))) else (v - x33_7)) ((P 0 0) + (sg_daysBetween P y z)) (P33 44 (Int32.toNatClampNeg (sg_firstFree P33 x y (((P 0 0) + (sg_daysBetween P y z)) + 1))))) 42 (Int32.toNatClampNeg (sg_firstFree P33 x y (((P 0 0) + (sg_daysBetween P y z)) + 1))) (((sg_tadd P33 x z (if (sg_freeOf P33 (Int32.toNatClampNeg (sg_firstFree P33 x y (((P 0 0) + (sg_daysBetween P y z)) + 1)))) < (v - x33_7) then (sg_freeOf P33 (Int32.toNatClampNeg (sg_firstFree P33 x y (((P 0 0) + (sg_daysBetween P y z)) + 1)))) else (v - x33_7)) ((P 0 0) + (sg_daysBetween P y z)) (P33 44 (Int32.toNatClampNeg (sg_firstFree P33 x y (((P 0 0) + (sg_daysBetween P y z)) + 1))))) 42 (Int32.toNatClampNeg (sg_firstFree P33 x y (((P 0 0) + (sg_daysBetween P y z)) + 1)))) - (if (sg_freeOf P33 (Int32.toNatClampNeg (sg_firstFree P33 x y (((P 0 0) + (sg_daysBetween P y z)) + 1)))) < (v - x33_7) then (sg_freeOf P33 (Int32.toNatClampNeg (sg_firstFree P33 x y (((P 0 0) + (sg_daysBetween P y z)) + 1)))) else (v - x33_7)))) = T33 from by rw [← hF33, sg_sendUnits_33, if_neg c_6, if_pos c_9, if_neg c_12]) (lv_sub hl [0, 1, 4, 5, 6, 7, 8, 9, 10] rfl) hS hD hP
          · rw [sg_sendUnits_33, if_neg c_6, if_pos c_9, if_pos c_12] at hF33
            replace hl : lv_has ls 11 [(7, .int ((T33).1)), (6, .int ((P 0 0) + (sg_daysBetween P y z))), (5, .int (sg_daysBetween P y z)), (0, .ref (a 0)), (1, .int x), (2, .int y), (3, .int z), (4, .int v)] := by rw [← hF33]; exact lv_sub hl [2, 3, 4, 5, 6, 7, 8, 9] rfl
            replace hP : va_P D vwCl (sg_St cI cZ a ((T33).2) q) H := by rw [← hF33]; exact hP
            replace hD : va_D A (sg_St cI cZ a ((T33).2) q) := by rw [← hF33]; exact hD
            clear hF33 ih33
            subst hTT33
            refine lv_iload hx hb dX6_sendUnits_78 (lv_at hl 0 rfl) ?_
            refine W.widen (k := 0) (n := 0) (by omega) (by omega) ?_
            have e9 : sg_sendUnits P x y z v = ((sg_sendUnits_33 P x y z v 90 0 P)).2 := by rw [sg_sendUnits, if_neg c_3]
            have hP9 : va_P D vwCl (sg_St cI cZ a (sg_sendUnits P x y z v) q) H := by rw [e9]; exact hP
            have hD9 : va_D A (sg_St cI cZ a (sg_sendUnits P x y z v) q) := by rw [e9]; exact hD
            exact W.iret (v := (((sg_sendUnits_33 P x y z v 90 0 P)).1)) hx hb hr (fun t ht hW => ⟨⟨(((sg_sendUnits_33 P x y z v 90 0 P)).1), (), rfl, (show (((sg_sendUnits_33 P x y z v 90 0 P)).1 : Int32) = sg_sendUnits_r P x y z v from by rw [sg_sendUnits_r, if_neg c_3]), by rw [ht]; exact hP9, hD9⟩, hS.F ht⟩) hS.2.2 dX6_sendUnits_80
  · refine lv_iconst (v := 0) hx hb dX6_sendUnits_16 (by decide) ?_
    refine W.widen (k := 0) (n := 0) (by omega) (by omega) ?_
    have e9 : sg_sendUnits P x y z v = P := by rw [sg_sendUnits, if_pos c_3]
    have hP9 : va_P D vwCl (sg_St cI cZ a (sg_sendUnits P x y z v) q) s.heap := by rw [e9]; exact hP
    have hD9 : va_D A (sg_St cI cZ a (sg_sendUnits P x y z v) q) := by rw [e9]; exact hD
    exact W.iret (v := 0) hx hb hr (fun t ht hW => ⟨⟨0, (), rfl, (show (0 : Int32) = sg_sendUnits_r P x y z v from by rw [sg_sendUnits_r, if_pos c_3]), by rw [ht]; exact hP9, hD9⟩, hS.F ht⟩) hS.2.2 dX6_sendUnits_17

def sg_orderOutside (P : sg_Pic) (x : Int32) (y : Int32) (z : Int32) (v : Int32) : sg_Pic := (if (sg_full P) = 0 then (if (sg_X0_has P x) = 0 then P else (sg_up (sg_tadd P (nI (Int32.toNatClampNeg x)) y z ((P 0 0) + v) (((P 0 0) + v) + (P 10 (Int32.toNatClampNeg x)))) 70 3 (((sg_tadd P (nI (Int32.toNatClampNeg x)) y z ((P 0 0) + v) (((P 0 0) + v) + (P 10 (Int32.toNatClampNeg x)))) 70 3) + (z * (sg_priceOf (sg_tadd P (nI (Int32.toNatClampNeg x)) y z ((P 0 0) + v) (((P 0 0) + v) + (P 10 (Int32.toNatClampNeg x)))) (nI (Int32.toNatClampNeg x))))))) else P)

theorem sg_orderOutside_K (P : sg_Pic) (x : Int32) (y : Int32) (z : Int32) (v : Int32) : sg_K5 (sg_orderOutside P x y z v) P := by
  unfold sg_orderOutside
  repeat' split
  all_goals first | exact sg_K5.of ⟨rfl, rfl⟩ | exact sg_K5.trans (sg_K5.of ⟨rfl, rfl⟩) (sg_tadd_K _ _ _ _ _ _)
theorem sg_orderOutside_W {P : sg_Pic} {x : Int32} {y : Int32} {z : Int32} {v : Int32} (hw : sg_W P) : sg_W (sg_orderOutside P x y z v) := (sg_orderOutside_K P x y z v).W hw

set_option maxHeartbeats 4000000 in
set_option maxRecDepth 100000 in
/-- X6_orderOutside -/
theorem c_orderOutside (l : Launch) (D : va_G) (cI cZ cJ : ClassId) (lo sz : Nat) (a : Nat → Nat) (P : sg_Pic) (q : Nat → Int32) (x : Int32) (y : Int32) (z : Int32) (v : Int32) (hw : sg_W P) : Met l yX6_orderOutside wsX6_orderOutside ({ frames := 2, cells := 0, slots := 0, locals := 45 }) (Pre lo D cI cZ cJ [.ref (a 0), .int x, .int y, .int z, .int v] sz (sg_St cI cZ a P q)) (va_Qv (fun _ : Unit => True) (fun _ t => va_P D vwCl (sg_St cI cZ a (sg_orderOutside P x y z v) q) t.heap ∧ va_D (va_A (sg_St cI cZ a P q) sz) (sg_St cI cZ a (sg_orderOutside P x y z v) q)) (va_A (sg_St cI cZ a P q) sz)) 0 0 (va_A (sg_St cI cZ a P q) sz) := by
  refine Met.ofW (cc := cX6_orderOutside) (maxL := 6) (ret := none) (by decide) rfl ?_
  intro p e s m args below meth c s₁ B hml hv
  obtain ⟨rfl, hsz, hP, hD0, hC⟩ := hv
  have hx := B.exec
  have hb := B.bytes
  have hr := B.returns
  have hts := atoms_spec (ws := wsX6_orderOutside) B.pre
  have hown : s.vm.findClass RX6 = some m.cls := findClass_of_methodNamed B.named
  have hlocks := B.notSynchronized
  subst hsz
  have hn1 : sg_cn P 1 ≤ 6 := hw.n1
  have hn2 : sg_cn P 2 ≤ 5 := hw.n2
  have hn3 : sg_cn P 3 ≤ 200 := hw.n3
  have hn4 : sg_cn P 4 ≤ 60 := hw.n4
  have hn5 : sg_cn P 5 ≤ 90 := hw.n5
  have hK := hC.K
  have hD := hD0.self (sz := s.heap.size)
  have hAlo0 := va_A_lo hD0 hC.1
  generalize hAe : va_A (sg_St cI cZ a P q) s.heap.size = A at hD hAlo0 ⊢
  have hA : ∀ q : Nat, s.heap.size ≤ q → A q := fun q h => by rw [← hAe]; exact Or.inr h
  have hAlo : ∀ q, A q → lo ≤ q := hAlo0
  have hS : va_S A s.heap s.heap [] := va_S.rf
  have hP : va_P D vwCl (sg_St cI cZ a P q) s.heap := hP
  have hl := lv_entry ([.ref (a 0), .int x, .int y, .int z, .int v]) (n := 6) (Nat.le_of_ble_eq_true rfl)
  rw [lg_entry_eq]
  generalize (lg_sl ([.ref (a 0), .int x, .int y, .int z, .int v]) ++ List.replicate (6 - (lg_sl ([.ref (a 0), .int x, .int y, .int z, .int v])).length) Slot.unset).toArray = ls at hl ⊢
  have hl : lv_has ls 6 [(0, .ref (a 0)), (1, .int x), (2, .int y), (3, .int z), (4, .int v)] := hl
  have in0 : ∀ w ∈ u_ws RX0 TX0 5, w ∈ wsX6_orderOutside := by decide +kernel
  have in6 : ∀ w ∈ u_ws RX6 TX6 9, w ∈ wsX6_orderOutside := by decide +kernel
  refine lv_aload_n hx hb dX6_orderOutside_0 rfl (lv_at hl 0 rfl) ?_
  refine va_get (D := D) (ci := 6) (v := .ref (a 6)) (C := RX6) (T := TX6) (N := 9) hx hb hts in6 hown hK hP 0 rfl rfl 6 (by decide) (hts (.fieldLink RX6 49 "Granary$Stock" "transports" "LGranary$Transports;") (by decide +kernel)) (fun _ h9 => h9) rfl dX6_orderOutside_1 ?_
  have hPc := hP.sub (ws' := [(a 6, .inr (7, [.int (P 0 5), .ref (a 60), .ref (a 61), .ref (a 62), .ref (a 63), .ref (a 64), .ref (a 65)]))]) [6] rfl
  have hDc := hD.sub (ws' := [(a 6, .inr (7, [.int (P 0 5), .ref (a 60), .ref (a 61), .ref (a 62), .ref (a 63), .ref (a 64), .ref (a 65)]))]) [6] (by decide) rfl
  refine vp_callSi (W.runV (As := []) (rest := []) ⟨hx, hb, hml, hown, hts⟩ (c_full l D cI cZ cJ lo s.heap.size a P) (cwV 0 hts gX6_orderOutside_X7_full rfl rfl rfl (by decide +kernel) ⟨(Nat.le_of_ble_eq_true rfl), (Nat.le_of_ble_eq_true rfl)⟩) ⟨Pre.blind, va_recv hK hP (ci := 7) (q0 := 6) rfl rfl, Pre.mk hPc (hDc.weaken (fun _ _ _ h => hAlo _ h)) hC hS hAlo⟩ rfl rfl hl.1 rfl (lv_room (Nat.le_of_ble_eq_true rfl)) dX6_orderOutside_4 ⟨(Nat.le_of_ble_eq_true rfl), (Nat.le_of_ble_eq_true rfl)⟩) (fun r_1 e_2 => ?_)
  clear hPc hDc
  have e_2 : sg_full P = r_1 := Eq.symm e_2
  subst e_2
  refine lv_if_ne (tgt := 21) hx hb dX6_orderOutside_7 (by decide) (fun c_3 => ?_) (fun c_3 => ?_)
  · refine W.widen (k := 0) (n := 0) (by omega) (by omega) ?_
    have e9 : sg_orderOutside P x y z v = P := by rw [sg_orderOutside, if_neg c_3]
    have hP9 : va_P D vwCl (sg_St cI cZ a (sg_orderOutside P x y z v) q) s.heap := by rw [e9]; exact hP
    have hD9 : va_D A (sg_St cI cZ a (sg_orderOutside P x y z v) q) := by rw [e9]; exact hD
    exact W.vret hx hb hr (fun t ht hW => ⟨⟨(), rfl, trivial, by rw [ht]; exact hP9, hD9⟩, hS.F ht⟩) hS.2.2 dX6_orderOutside_21
  · refine lv_aload_n hx hb dX6_orderOutside_10 rfl (lv_at hl 0 rfl) ?_
    refine va_get (D := D) (ci := 6) (v := .ref (a 1)) (C := RX6) (T := TX6) (N := 9) hx hb hts in6 hown hK hP 0 rfl rfl 1 (by decide) (hts (.fieldLink RX6 12 "Granary$Stock" "items" "LGranary$Items;") (by decide +kernel)) (fun _ h9 => h9) rfl dX6_orderOutside_11 ?_
    refine lv_iload_n hx hb dX6_orderOutside_14 rfl (lv_at hl 1 rfl) ?_
    have hPc := hP.sub (ws' := [(a 1, .inr (0, [.int (P 0 1), .ref (a 10), .ref (a 11), .ref (a 12), .ref (a 13)]))]) [1] rfl
    have hDc := hD.sub (ws' := [(a 1, .inr (0, [.int (P 0 1), .ref (a 10), .ref (a 11), .ref (a 12), .ref (a 13)]))]) [1] (by decide) rfl
    refine vp_callSi (W.runV (As := [.int x]) (rest := []) ⟨hx, hb, hml, hown, hts⟩ (c_X0_has l D cI cZ cJ lo s.heap.size a P x) (cwV 1 hts gX6_orderOutside_X0_has rfl rfl rfl (by decide +kernel) ⟨(Nat.le_of_ble_eq_true rfl), (Nat.le_of_ble_eq_true rfl)⟩) ⟨Pre.blind, va_recv hK hP (ci := 0) (q0 := 1) rfl rfl, Pre.mk hPc (hDc.weaken (fun _ _ _ h => hAlo _ h)) hC hS hAlo⟩ rfl rfl hl.1 rfl (lv_room (Nat.le_of_ble_eq_true rfl)) dX6_orderOutside_15 ⟨(Nat.le_of_ble_eq_true rfl), (Nat.le_of_ble_eq_true rfl)⟩) (fun r_4 e_5 => ?_)
    clear hPc hDc
    have e_5 : sg_X0_has P x = r_4 := Eq.symm e_5
    subst e_5
    refine lv_if_ne (tgt := 22) hx hb dX6_orderOutside_18 (by decide) (fun c_6 => ?_) (fun c_6 => ?_)
    · obtain ⟨e_7, le_7⟩ := sg_hasI hw c_6
      have e_7 : (x : Int32) = nI (Int32.toNatClampNeg x) := e_7
      have le_7 : Int32.toNatClampNeg x < sg_cn P 1 := le_7
      replace hl : lv_has ls 6 [(0, .ref (a 0)), (1, .int (nI (Int32.toNatClampNeg x))), (2, .int y), (3, .int z), (4, .int v)] := by rw [← e_7]; exact hl
      refine lv_aload_n hx hb dX6_orderOutside_22 rfl (lv_at hl 0 rfl) ?_
      refine va_get (D := D) (ci := 6) (v := .int (P 0 0)) (C := RX6) (T := TX6) (N := 9) hx hb hts in6 hown hK hP 0 rfl rfl 0 (by decide) (hts (.fieldLink RX6 60 "Granary$Stock" "day" "I") (by decide +kernel)) (fun _ h9 => h9) rfl dX6_orderOutside_23 ?_
      refine lv_iload hx hb dX6_orderOutside_26 (lv_at hl 4 rfl) ?_
      refine lv_iadd hx hb dX6_orderOutside_28 ?_
      refine lv_istore (lv' := [(5, .int ((P 0 0) + v)), (0, .ref (a 0)), (1, .int (nI (Int32.toNatClampNeg x))), (2, .int y), (3, .int z), (4, .int v)]) hx hb dX6_orderOutside_29 hl (by decide) rfl (fun ls hl => ?_)
      refine lv_aload_n hx hb dX6_orderOutside_31 rfl (lv_at hl 1 rfl) ?_
      refine va_get (D := D) (ci := 6) (v := .ref (a 6)) (C := RX6) (T := TX6) (N := 9) hx hb hts in6 hown hK hP 0 rfl rfl 6 (by decide) (hts (.fieldLink RX6 49 "Granary$Stock" "transports" "LGranary$Transports;") (by decide +kernel)) (fun _ h9 => h9) rfl dX6_orderOutside_32 ?_
      refine lv_iload_n hx hb dX6_orderOutside_35 rfl (lv_at hl 2 rfl) ?_
      refine lv_iload_n hx hb dX6_orderOutside_36 rfl (lv_at hl 3 rfl) ?_
      refine lv_iload_n hx hb dX6_orderOutside_37 rfl (lv_at hl 4 rfl) ?_
      refine lv_iload hx hb dX6_orderOutside_38 (lv_at hl 0 rfl) ?_
      refine lv_iload hx hb dX6_orderOutside_40 (lv_at hl 0 rfl) ?_
      refine lv_aload_n hx hb dX6_orderOutside_42 rfl (lv_at hl 1 rfl) ?_
      refine va_get (D := D) (ci := 6) (v := .ref (a 1)) (C := RX6) (T := TX6) (N := 9) hx hb hts in6 hown hK hP 0 rfl rfl 1 (by decide) (hts (.fieldLink RX6 12 "Granary$Stock" "items" "LGranary$Items;") (by decide +kernel)) (fun _ h9 => h9) rfl dX6_orderOutside_43 ?_
      refine va_get (D := D) (ci := 0) (v := .ref (a 10)) (C := RX0) (T := TX0) (N := 5) hx hb hts in0 hown hK hP 1 rfl rfl 1 (by decide) (hts (.fieldLink RX6 239 "Granary$Items" "life" "[I") (by decide +kernel)) (fun _ h9 => h9) rfl dX6_orderOutside_46 ?_
      refine lv_iload_n hx hb dX6_orderOutside_49 rfl (lv_at hl 2 rfl) ?_
      refine sg_iald hx hb hK hP 7 0 rfl rfl (j := Int32.toNatClampNeg x) rfl (by omega) (Nat.le_of_ble_eq_true rfl) dX6_orderOutside_50 ?_
      refine lv_toi (y := P 10 (Int32.toNatClampNeg x)) rfl ?_
      refine lv_iadd hx hb dX6_orderOutside_51 ?_
      have hPc : va_P D vwCl (sg_St cI cZ a P q) s.heap := hP
      have hDc : va_D A (sg_St cI cZ a P q) := hD
      have hFc := va_free (wc := (sg_St cI cZ a P q)) hD hS hA [0, 1, 2, 3, 4, 5, 6, 7, 8, 9, 10, 11, 12, 13, 14, 15, 16, 17, 18, 19, 20, 21, 22, 23, 24, 25, 26, 27, 28, 29, 30, 31, 32, 33, 34, 35, 36, 37, 38, 39, 40] rfl
      refine va_callv (va_runV (As := [.int (nI (Int32.toNatClampNeg x)), .int y, .int z, .int ((P 0 0) + v), .int (((P 0 0) + v) + (P 10 (Int32.toNatClampNeg x)))]) (rest := []) ⟨hx, hb, hml, hown, hts⟩ (c_tadd l D cI cZ cJ lo s.heap.size a P q (nI (Int32.toNatClampNeg x)) y z ((P 0 0) + v) (((P 0 0) + v) + (P 10 (Int32.toNatClampNeg x))) hw) (cwV 5 hts gX6_orderOutside_X7_add rfl rfl rfl (by decide +kernel) ⟨(Nat.le_of_ble_eq_true rfl), (Nat.le_of_ble_eq_true rfl)⟩) ⟨Pre.blind, va_recv hK hP (ci := 7) (q0 := 6) rfl rfl, Pre.mk hPc (hDc.weaken (fun _ _ _ h => hAlo _ h)) hC hS hAlo⟩ rfl rfl hl.1 rfl (lv_room (Nat.le_of_ble_eq_true rfl)) dX6_orderOutside_52 ⟨(Nat.le_of_ble_eq_true rfl), (Nat.le_of_ble_eq_true rfl)⟩) hS (fun q _ h => hFc q h) hFc (fun u t H1 locs1 ht hvm e_8 hB hz1 hk1 hS1 => ?_)
      have hS := hS1
      obtain ⟨hP1, hD1⟩ := hB
      rw [ht] at hP1
      obtain ⟨hP, hD⟩ := va_join (wr := []) (w1 := (sg_St cI cZ a (sg_tadd P (nI (Int32.toNatClampNeg x)) y z ((P 0 0) + v) (((P 0 0) + v) + (P 10 (Int32.toNatClampNeg x)))) q)) hP hD [0, 1, 2, 3, 4, 5, 6, 7, 8, 9, 10, 11, 12, 13, 14, 15, 16, 17, 18, 19, 20, 21, 22, 23, 24, 25, 26, 27, 28, 29, 30, 31, 32, 33, 34, 35, 36, 37, 38, 39, 40] [] rfl rfl (by decide) (by decide) hk1 hFc hP1 hD1
      have e_8 : True := e_8
      clear hFc hPc hDc ht hvm hz1 hk1 hS1 hP1 hD1
      generalize H1 = H at hP hS ⊢
      replace hP : va_P D vwCl (sg_St cI cZ a (sg_tadd P (nI (Int32.toNatClampNeg x)) y z ((P 0 0) + v) (((P 0 0) + v) + (P 10 (Int32.toNatClampNeg x)))) q) H := hP
      replace hD : va_D A (sg_St cI cZ a (sg_tadd P (nI (Int32.toNatClampNeg x)) y z ((P 0 0) + v) (((P 0 0) + v) + (P 10 (Int32.toNatClampNeg x)))) q) := hD
      refine lv_aload_n hx hb dX6_orderOutside_55 rfl (lv_at hl 1 rfl) ?_
      refine va_get (D := D) (ci := 6) (v := .ref (a 70)) (C := RX6) (T := TX6) (N := 9) hx hb hts in6 hown hK hP 0 rfl rfl 7 (by decide) (hts (.fieldLink RX6 53 "Granary$Stock" "account" "[I") (by decide +kernel)) (fun _ h9 => h9) rfl dX6_orderOutside_56 ?_
      refine lv_iconst (v := 3) hx hb dX6_orderOutside_59 (by decide) ?_
      refine lv_dup2_11 hx hb dX6_orderOutside_60 rfl rfl ?_
      refine sg_iald hx hb hK hP 39 0 rfl rfl (j := 3) (by decide) (Nat.le_of_ble_eq_true rfl) (Nat.le_of_ble_eq_true rfl) dX6_orderOutside_61 ?_
      refine lv_toi (y := (sg_tadd P (nI (Int32.toNatClampNeg x)) y z ((P 0 0) + v) (((P 0 0) + v) + (P 10 (Int32.toNatClampNeg x)))) 70 3) rfl ?_
      refine lv_iload_n hx hb dX6_orderOutside_62 rfl (lv_at hl 4 rfl) ?_
      refine lv_aload_n hx hb dX6_orderOutside_63 rfl (lv_at hl 1 rfl) ?_
      refine va_get (D := D) (ci := 6) (v := .ref (a 1)) (C := RX6) (T := TX6) (N := 9) hx hb hts in6 hown hK hP 0 rfl rfl 1 (by decide) (hts (.fieldLink RX6 12 "Granary$Stock" "items" "LGranary$Items;") (by decide +kernel)) (fun _ h9 => h9) rfl dX6_orderOutside_64 ?_
      refine lv_iload_n hx hb dX6_orderOutside_67 rfl (lv_at hl 2 rfl) ?_
      have hPc := hP.sub (ws' := [(a 1, .inr (0, [.int ((sg_tadd P (nI (Int32.toNatClampNeg x)) y z ((P 0 0) + v) (((P 0 0) + v) + (P 10 (Int32.toNatClampNeg x)))) 0 1), .ref (a 10), .ref (a 11), .ref (a 12), .ref (a 13)])), (a 11, .inl (cI, 6, .inl ((sg_tadd P (nI (Int32.toNatClampNeg x)) y z ((P 0 0) + v) (((P 0 0) + v) + (P 10 (Int32.toNatClampNeg x)))) 11)))]) [1, 8] rfl
      have hDc := hD.sub (ws' := [(a 1, .inr (0, [.int ((sg_tadd P (nI (Int32.toNatClampNeg x)) y z ((P 0 0) + v) (((P 0 0) + v) + (P 10 (Int32.toNatClampNeg x)))) 0 1), .ref (a 10), .ref (a 11), .ref (a 12), .ref (a 13)])), (a 11, .inl (cI, 6, .inl ((sg_tadd P (nI (Int32.toNatClampNeg x)) y z ((P 0 0) + v) (((P 0 0) + v) + (P 10 (Int32.toNatClampNeg x)))) 11)))]) [1, 8] (by decide) rfl
      refine vp_callSi (W.runV (As := [.int (nI (Int32.toNatClampNeg x))]) (rest := [.int z, .int ((sg_tadd P (nI (Int32.toNatClampNeg x)) y z ((P 0 0) + v) (((P 0 0) + v) + (P 10 (Int32.toNatClampNeg x)))) 70 3), .int 3, .ref (a 70)]) ⟨hx, hb, hml, hown, hts⟩ (c_priceOf l D cI cZ cJ lo H.size a (sg_tadd P (nI (Int32.toNatClampNeg x)) y z ((P 0 0) + v) (((P 0 0) + v) + (P 10 (Int32.toNatClampNeg x)))) (nI (Int32.toNatClampNeg x)) (sg_tadd_W hw)) (cwV 1 hts gX6_orderOutside_X0_priceOf rfl rfl rfl (by decide +kernel) ⟨(Nat.le_of_ble_eq_true rfl), (Nat.le_of_ble_eq_true rfl)⟩) ⟨Pre.blind, va_recv hK hP (ci := 0) (q0 := 1) rfl rfl, Pre.mk hPc (hDc.weaken (fun _ _ _ h => hAlo _ h)) hC hS hAlo⟩ rfl rfl hl.1 rfl (lv_room (Nat.le_of_ble_eq_true rfl)) dX6_orderOutside_68 ⟨(Nat.le_of_ble_eq_true rfl), (Nat.le_of_ble_eq_true rfl)⟩) (fun r_9 e_10 => ?_)
      clear hPc hDc
      have e_10 : sg_priceOf (sg_tadd P (nI (Int32.toNatClampNeg x)) y z ((P 0 0) + v) (((P 0 0) + v) + (P 10 (Int32.toNatClampNeg x)))) (nI (Int32.toNatClampNeg x)) = r_9 := Eq.symm e_10
      subst e_10
      refine lv_imul hx hb dX6_orderOutside_71 ?_
      refine lv_iadd hx hb dX6_orderOutside_72 ?_
      refine sg_iast hx hb hK hP hD hS 39 0 rfl rfl (j := 3) (by decide) (Nat.le_of_ble_eq_true rfl) (Nat.le_of_ble_eq_true rfl) dX6_orderOutside_73 (fun H locs hP hD hS => ?_)
      replace hP : va_P D vwCl (sg_St cI cZ a (sg_up (sg_tadd P (nI (Int32.toNatClampNeg x)) y z ((P 0 0) + v) (((P 0 0) + v) + (P 10 (Int32.toNatClampNeg x)))) 70 3 (((sg_tadd P (nI (Int32.toNatClampNeg x)) y z ((P 0 0) + v) (((P 0 0) + v) + (P 10 (Int32.toNatClampNeg x)))) 70 3) + (z * (sg_priceOf (sg_tadd P (nI (Int32.toNatClampNeg x)) y z ((P 0 0) + v) (((P 0 0) + v) + (P 10 (Int32.toNatClampNeg x)))) (nI (Int32.toNatClampNeg x)))))) q) H := hP
      replace hD : va_D A (sg_St cI cZ a (sg_up (sg_tadd P (nI (Int32.toNatClampNeg x)) y z ((P 0 0) + v) (((P 0 0) + v) + (P 10 (Int32.toNatClampNeg x)))) 70 3 (((sg_tadd P (nI (Int32.toNatClampNeg x)) y z ((P 0 0) + v) (((P 0 0) + v) + (P 10 (Int32.toNatClampNeg x)))) 70 3) + (z * (sg_priceOf (sg_tadd P (nI (Int32.toNatClampNeg x)) y z ((P 0 0) + v) (((P 0 0) + v) + (P 10 (Int32.toNatClampNeg x)))) (nI (Int32.toNatClampNeg x)))))) q) := hD
      refine W.widen (k := 0) (n := 0) (by omega) (by omega) ?_
      have e9 : sg_orderOutside P x y z v = sg_up (sg_tadd P (nI (Int32.toNatClampNeg x)) y z ((P 0 0) + v) (((P 0 0) + v) + (P 10 (Int32.toNatClampNeg x)))) 70 3 (((sg_tadd P (nI (Int32.toNatClampNeg x)) y z ((P 0 0) + v) (((P 0 0) + v) + (P 10 (Int32.toNatClampNeg x)))) 70 3) + (z * (sg_priceOf (sg_tadd P (nI (Int32.toNatClampNeg x)) y z ((P 0 0) + v) (((P 0 0) + v) + (P 10 (Int32.toNatClampNeg x)))) (nI (Int32.toNatClampNeg x))))) := by rw [sg_orderOutside, if_pos c_3, if_neg c_6]
      have hP9 : va_P D vwCl (sg_St cI cZ a (sg_orderOutside P x y z v) q) H := by rw [e9]; exact hP
      have hD9 : va_D A (sg_St cI cZ a (sg_orderOutside P x y z v) q) := by rw [e9]; exact hD
      exact W.vret hx hb hr (fun t ht hW => ⟨⟨(), rfl, trivial, by rw [ht]; exact hP9, hD9⟩, hS.F ht⟩) hS.2.2 dX6_orderOutside_74
    · refine W.widen (k := 0) (n := 0) (by omega) (by omega) ?_
      have e9 : sg_orderOutside P x y z v = P := by rw [sg_orderOutside, if_pos c_3, if_pos c_6]
      have hP9 : va_P D vwCl (sg_St cI cZ a (sg_orderOutside P x y z v) q) s.heap := by rw [e9]; exact hP
      have hD9 : va_D A (sg_St cI cZ a (sg_orderOutside P x y z v) q) := by rw [e9]; exact hD
      exact W.vret hx hb hr (fun t ht hW => ⟨⟨(), rfl, trivial, by rw [ht]; exact hP9, hD9⟩, hS.F ht⟩) hS.2.2 dX6_orderOutside_21

def sg_review (P : sg_Pic) (xi : Nat) (xs : Nat) : sg_Pic := (if (sg_stands P xi xs) = 0 then P else (if (P 31 ((xi * 5) + xs)) < (sg_positionAt P (nI xi) (nI xs)) then P else (if (sg_positionAt P (nI xi) (nI xs)) < (P 32 ((xi * 5) + xs)) then (if (P 33 ((xi * 5) + xs)) = (-1) then (sg_orderOutside P (nI xi) (nI xs) (sg_inPacks P (nI xi) ((P 32 ((xi * 5) + xs)) - (sg_positionAt P (nI xi) (nI xs)))) (P 34 ((xi * 5) + xs))) else (sg_sendUnits P (nI xi) (P 33 ((xi * 5) + xs)) (nI xs) (sg_inPacks P (nI xi) ((P 32 ((xi * 5) + xs)) - (sg_positionAt P (nI xi) (nI xs)))))) else P)))

theorem sg_review_K (P : sg_Pic) (xi : Nat) (xs : Nat) : sg_K5 (sg_review P xi xs) P := by
  unfold sg_review
  repeat' split
  all_goals first | exact sg_K5.of ⟨rfl, rfl⟩ | exact sg_orderOutside_K _ _ _ _ _ | exact sg_sendUnits_K _ _ _ _ _
theorem sg_review_W {P : sg_Pic} {xi : Nat} {xs : Nat} (hw : sg_W P) : sg_W (sg_review P xi xs) := (sg_review_K P xi xs).W hw

set_option maxHeartbeats 4000000 in
set_option maxRecDepth 100000 in
/-- X6_review -/
theorem c_review (l : Launch) (D : va_G) (cI cZ cJ : ClassId) (lo sz : Nat) (a : Nat → Nat) (P : sg_Pic) (q : Nat → Int32) (xi : Nat) (xs : Nat) (hw : sg_W P) (hi : xi < 6) (hs : xs < 5) : Met l yX6_review wsX6_review ({ frames := 3, cells := 0, slots := 0, locals := 76 }) (Pre lo D cI cZ cJ [.ref (a 0), .int (nI xi), .int (nI xs)] sz (sg_St cI cZ a P q)) (va_Qv (fun _ : Unit => True) (fun _ t => va_P D vwCl (sg_St cI cZ a (sg_review P xi xs) q) t.heap ∧ va_D (va_A (sg_St cI cZ a P q) sz) (sg_St cI cZ a (sg_review P xi xs) q)) (va_A (sg_St cI cZ a P q) sz)) 0 0 (va_A (sg_St cI cZ a P q) sz) := by
  refine Met.ofW (cc := cX6_review) (maxL := 6) (ret := none) (by decide) rfl ?_
  intro p e s m args below meth c s₁ B hml hv
  obtain ⟨rfl, hsz, hP, hD0, hC⟩ := hv
  have hx := B.exec
  have hb := B.bytes
  have hr := B.returns
  have hts := atoms_spec (ws := wsX6_review) B.pre
  have hown : s.vm.findClass RX6 = some m.cls := findClass_of_methodNamed B.named
  have hlocks := B.notSynchronized
  subst hsz
  have hn1 : sg_cn P 1 ≤ 6 := hw.n1
  have hn2 : sg_cn P 2 ≤ 5 := hw.n2
  have hn3 : sg_cn P 3 ≤ 200 := hw.n3
  have hn4 : sg_cn P 4 ≤ 60 := hw.n4
  have hn5 : sg_cn P 5 ≤ 90 := hw.n5
  have hK := hC.K
  have hD := hD0.self (sz := s.heap.size)
  have hAlo0 := va_A_lo hD0 hC.1
  generalize hAe : va_A (sg_St cI cZ a P q) s.heap.size = A at hD hAlo0 ⊢
  have hA : ∀ q : Nat, s.heap.size ≤ q → A q := fun q h => by rw [← hAe]; exact Or.inr h
  have hAlo : ∀ q, A q → lo ≤ q := hAlo0
  have hS : va_S A s.heap s.heap [] := va_S.rf
  have hP : va_P D vwCl (sg_St cI cZ a P q) s.heap := hP
  have hl := lv_entry ([.ref (a 0), .int (nI xi), .int (nI xs)]) (n := 6) (Nat.le_of_ble_eq_true rfl)
  rw [lg_entry_eq]
  generalize (lg_sl ([.ref (a 0), .int (nI xi), .int (nI xs)]) ++ List.replicate (6 - (lg_sl ([.ref (a 0), .int (nI xi), .int (nI xs)])).length) Slot.unset).toArray = ls at hl ⊢
  have hl : lv_has ls 6 [(0, .ref (a 0)), (1, .int (nI xi)), (2, .int (nI xs))] := hl
  have in4 : ∀ w ∈ u_ws RX4 TX4 5, w ∈ wsX6_review := by decide +kernel
  have in6 : ∀ w ∈ u_ws RX6 TX6 9, w ∈ wsX6_review := by decide +kernel
  refine lv_aload_n hx hb dX6_review_0 rfl (lv_at hl 0 rfl) ?_
  refine va_get (D := D) (ci := 6) (v := .ref (a 3)) (C := RX6) (T := TX6) (N := 9) hx hb hts in6 hown hK hP 0 rfl rfl 3 (by decide) (hts (.fieldLink RX6 28 "Granary$Stock" "policies" "LGranary$Policies;") (by decide +kernel)) (fun _ h9 => h9) rfl dX6_review_1 ?_
  refine lv_iload_n hx hb dX6_review_4 rfl (lv_at hl 1 rfl) ?_
  refine lv_iload_n hx hb dX6_review_5 rfl (lv_at hl 2 rfl) ?_
  have hPc := hP.sub (ws' := [(a 3, .inr (4, [.ref (a 30), .ref (a 31), .ref (a 32), .ref (a 33), .ref (a 34)])), (a 30, .inl (cZ, 30, .inl (P 30)))]) [3, 13] rfl
  have hDc := hD.sub (ws' := [(a 3, .inr (4, [.ref (a 30), .ref (a 31), .ref (a 32), .ref (a 33), .ref (a 34)])), (a 30, .inl (cZ, 30, .inl (P 30)))]) [3, 13] (by decide) rfl
  refine vp_callSi (W.runV (As := [.int (nI xi), .int (nI xs)]) (rest := []) ⟨hx, hb, hml, hown, hts⟩ (c_stands l D cI cZ cJ lo s.heap.size a P xi xs hw (by omega) (by omega)) (cwV 2 hts gX6_review_X4_stands rfl rfl rfl (by decide +kernel) ⟨(Nat.le_of_ble_eq_true rfl), (Nat.le_of_ble_eq_true rfl)⟩) ⟨Pre.blind, va_recv hK hP (ci := 4) (q0 := 3) rfl rfl, Pre.mk hPc (hDc.weaken (fun _ _ _ h => hAlo _ h)) hC hS hAlo⟩ rfl rfl hl.1 rfl (lv_room (Nat.le_of_ble_eq_true rfl)) dX6_review_6 ⟨(Nat.le_of_ble_eq_true rfl), (Nat.le_of_ble_eq_true rfl)⟩) (fun r_1 e_2 => ?_)
  clear hPc hDc
  have e_2 : sg_stands P xi xs = r_1 := Eq.symm e_2
  subst e_2
  refine lv_if_ne (tgt := 13) hx hb dX6_review_9 (by decide) (fun c_3 => ?_) (fun c_3 => ?_)
  · refine lv_iload_n hx hb dX6_review_13 rfl (lv_at hl 1 rfl) ?_
    refine lv_iload_n hx hb dX6_review_14 rfl (lv_at hl 2 rfl) ?_
    have hPc := hP.sub (ws' := []) [] rfl
    have hDc := hD.sub (ws' := []) [] (by decide) rfl
    refine vp_callSi (sg_dr (va_runSN (As := [.int (nI xi), .int (nI xs)]) (rest := []) ⟨hx, hb, hml, hown, hts⟩ (c_pair l D cI cZ cJ lo s.heap.size xi xs) ⟨va_cnB 2 hts gX6_review_X8_pair_n117 rfl rfl rfl (hC.nestX6_117) (hts (.initialized RX8) (by decide +kernel)) (by decide +kernel) ⟨(Nat.le_of_ble_eq_true rfl), (Nat.le_of_ble_eq_true rfl)⟩, (hts (.static yX8_pair) (by decide +kernel)), trivial⟩ ⟨Pre.blind, Pre.mk hPc (hDc.weaken (fun _ _ _ h => hAlo _ h)) hC hS hAlo⟩ rfl rfl hl.1 rfl (lv_room (Nat.le_of_ble_eq_true rfl)) dX6_review_15 ⟨(Nat.le_of_ble_eq_true rfl), (Nat.le_of_ble_eq_true rfl)⟩)) (fun r_4 e_5 => ?_)
    clear hPc hDc
    have e_5 : nI ((xi * 5) + xs) = r_4 := Eq.symm e_5
    subst e_5
    refine lv_istore_n (lv' := [(3, .int (nI ((xi * 5) + xs))), (0, .ref (a 0)), (1, .int (nI xi)), (2, .int (nI xs))]) hx hb dX6_review_18 rfl hl (by decide) rfl (fun ls hl => ?_)
    refine lv_aload_n hx hb dX6_review_19 rfl (lv_at hl 1 rfl) ?_
    refine lv_iload_n hx hb dX6_review_20 rfl (lv_at hl 2 rfl) ?_
    refine lv_iload_n hx hb dX6_review_21 rfl (lv_at hl 3 rfl) ?_
    have hPc := hP.sub (ws' := [(a 0, .inr (6, [.int (P 0 0), .ref (a 1), .ref (a 2), .ref (a 3), .ref (a 4), .ref (a 5), .ref (a 6), .ref (a 70), .ref (a 71)])), (a 4, .inr (1, [.int (P 0 3), .ref (a 40), .ref (a 41), .ref (a 42), .ref (a 43), .ref (a 44)])), (a 5, .inr (2, [.int (P 0 4), .ref (a 50), .ref (a 51), .ref (a 52), .ref (a 53), .ref (a 54), .ref (a 55), .ref (a 56), .ref (a 57), .ref (a 58), .ref (a 59)])), (a 6, .inr (7, [.int (P 0 5), .ref (a 60), .ref (a 61), .ref (a 62), .ref (a 63), .ref (a 64), .ref (a 65)])), (a 40, .inl (cI, 200, .inl (P 40))), (a 41, .inl (cI, 200, .inl (P 41))), (a 42, .inl (cI, 200, .inl (P 42))), (a 43, .inl (cI, 200, .inl (P 43))), (a 44, .inl (cI, 200, .inl (P 44))), (a 50, .inl (cI, 60, .inl (P 50))), (a 51, .inl (cI, 60, .inl (P 51))), (a 52, .inl (cI, 60, .inl (P 52))), (a 53, .inl (cI, 60, .inl (P 53))), (a 54, .inl (cI, 60, .inl (P 54))), (a 55, .inl (cI, 60, .inl (P 55))), (a 56, .inl (cI, 60, .inl (P 56))), (a 57, .inl (cI, 60, .inl (P 57))), (a 58, .inl (cI, 60, .inl (P 58))), (a 59, .inl (cI, 12000, .inl (P 59))), (a 60, .inl (cI, 90, .inl (P 60))), (a 61, .inl (cI, 90, .inl (P 61))), (a 62, .inl (cI, 90, .inl (P 62))), (a 63, .inl (cI, 90, .inl (P 63))), (a 64, .inl (cI, 90, .inl (P 64))), (a 65, .inl (cI, 90, .inl (P 65)))]) [0, 4, 5, 6, 18, 19, 20, 21, 22, 23, 24, 25, 26, 27, 28, 29, 30, 31, 32, 33, 34, 35, 36, 37, 38] rfl
    have hDc := hD.sub (ws' := [(a 0, .inr (6, [.int (P 0 0), .ref (a 1), .ref (a 2), .ref (a 3), .ref (a 4), .ref (a 5), .ref (a 6), .ref (a 70), .ref (a 71)])), (a 4, .inr (1, [.int (P 0 3), .ref (a 40), .ref (a 41), .ref (a 42), .ref (a 43), .ref (a 44)])), (a 5, .inr (2, [.int (P 0 4), .ref (a 50), .ref (a 51), .ref (a 52), .ref (a 53), .ref (a 54), .ref (a 55), .ref (a 56), .ref (a 57), .ref (a 58), .ref (a 59)])), (a 6, .inr (7, [.int (P 0 5), .ref (a 60), .ref (a 61), .ref (a 62), .ref (a 63), .ref (a 64), .ref (a 65)])), (a 40, .inl (cI, 200, .inl (P 40))), (a 41, .inl (cI, 200, .inl (P 41))), (a 42, .inl (cI, 200, .inl (P 42))), (a 43, .inl (cI, 200, .inl (P 43))), (a 44, .inl (cI, 200, .inl (P 44))), (a 50, .inl (cI, 60, .inl (P 50))), (a 51, .inl (cI, 60, .inl (P 51))), (a 52, .inl (cI, 60, .inl (P 52))), (a 53, .inl (cI, 60, .inl (P 53))), (a 54, .inl (cI, 60, .inl (P 54))), (a 55, .inl (cI, 60, .inl (P 55))), (a 56, .inl (cI, 60, .inl (P 56))), (a 57, .inl (cI, 60, .inl (P 57))), (a 58, .inl (cI, 60, .inl (P 58))), (a 59, .inl (cI, 12000, .inl (P 59))), (a 60, .inl (cI, 90, .inl (P 60))), (a 61, .inl (cI, 90, .inl (P 61))), (a 62, .inl (cI, 90, .inl (P 62))), (a 63, .inl (cI, 90, .inl (P 63))), (a 64, .inl (cI, 90, .inl (P 64))), (a 65, .inl (cI, 90, .inl (P 65)))]) [0, 4, 5, 6, 18, 19, 20, 21, 22, 23, 24, 25, 26, 27, 28, 29, 30, 31, 32, 33, 34, 35, 36, 37, 38] (by decide) rfl
    refine vp_callSi (W.runV (As := [.int (nI xi), .int (nI xs)]) (rest := []) ⟨hx, hb, hml, hown, hts⟩ (c_positionAt l D cI cZ cJ lo s.heap.size a P (nI xi) (nI xs) hw) (cwV 2 hts gX6_review_X6_positionAt rfl rfl rfl (by decide +kernel) ⟨(Nat.le_of_ble_eq_true rfl), (Nat.le_of_ble_eq_true rfl)⟩) ⟨Pre.blind, va_recv hK hP (ci := 6) (q0 := 0) rfl rfl, Pre.mk hPc (hDc.weaken (fun _ _ _ h => hAlo _ h)) hC hS hAlo⟩ rfl rfl hl.1 rfl (lv_room (Nat.le_of_ble_eq_true rfl)) dX6_review_22 ⟨(Nat.le_of_ble_eq_true rfl), (Nat.le_of_ble_eq_true rfl)⟩) (fun r_6 e_7 => ?_)
    clear hPc hDc
    have e_7 : sg_positionAt P (nI xi) (nI xs) = r_6 := Eq.symm e_7
    subst e_7
    refine lv_istore (lv' := [(4, .int (sg_positionAt P (nI xi) (nI xs))), (3, .int (nI ((xi * 5) + xs))), (0, .ref (a 0)), (1, .int (nI xi)), (2, .int (nI xs))]) hx hb dX6_review_25 hl (by decide) rfl (fun ls hl => ?_)
    refine lv_iload hx hb dX6_review_27 (lv_at hl 0 rfl) ?_
    refine lv_aload_n hx hb dX6_review_29 rfl (lv_at hl 2 rfl) ?_
    refine va_get (D := D) (ci := 6) (v := .ref (a 3)) (C := RX6) (T := TX6) (N := 9) hx hb hts in6 hown hK hP 0 rfl rfl 3 (by decide) (hts (.fieldLink RX6 28 "Granary$Stock" "policies" "LGranary$Policies;") (by decide +kernel)) (fun _ h9 => h9) rfl dX6_review_30 ?_
    refine va_get (D := D) (ci := 4) (v := .ref (a 31)) (C := RX4) (T := TX4) (N := 5) hx hb hts in4 hown hK hP 3 rfl rfl 1 (by decide) (hts (.fieldLink RX6 114 "Granary$Policies" "point" "[I") (by decide +kernel)) (fun _ h9 => h9) rfl dX6_review_33 ?_
    refine lv_iload_n hx hb dX6_review_36 rfl (lv_at hl 1 rfl) ?_
    refine sg_iald hx hb hK hP 14 0 rfl rfl (j := (xi * 5) + xs) rfl (by omega) (Nat.le_of_ble_eq_true rfl) dX6_review_37 ?_
    refine lv_toi (y := P 31 ((xi * 5) + xs)) rfl ?_
    refine lv_icmp_gt (tgt := 55) hx hb dX6_review_38 (by decide) (fun c_8 => ?_) (fun c_8 => ?_)
    · refine W.widen (k := 0) (n := 0) (by omega) (by omega) ?_
      have e9 : sg_review P xi xs = P := by rw [sg_review, if_neg c_3, if_pos c_8]
      have hP9 : va_P D vwCl (sg_St cI cZ a (sg_review P xi xs) q) s.heap := by rw [e9]; exact hP
      have hD9 : va_D A (sg_St cI cZ a (sg_review P xi xs) q) := by rw [e9]; exact hD
      exact W.vret hx hb hr (fun t ht hW => ⟨⟨(), rfl, trivial, by rw [ht]; exact hP9, hD9⟩, hS.F ht⟩) hS.2.2 dX6_review_55
    · refine lv_iload hx hb dX6_review_41 (lv_at hl 0 rfl) ?_
      refine lv_aload_n hx hb dX6_review_43 rfl (lv_at hl 2 rfl) ?_
      refine va_get (D := D) (ci := 6) (v := .ref (a 3)) (C := RX6) (T := TX6) (N := 9) hx hb hts in6 hown hK hP 0 rfl rfl 3 (by decide) (hts (.fieldLink RX6 28 "Granary$Stock" "policies" "LGranary$Policies;") (by decide +kernel)) (fun _ h9 => h9) rfl dX6_review_44 ?_
      refine va_get (D := D) (ci := 4) (v := .ref (a 32)) (C := RX4) (T := TX4) (N := 5) hx hb hts in4 hown hK hP 3 rfl rfl 2 (by decide) (hts (.fieldLink RX6 128 "Granary$Policies" "top" "[I") (by decide +kernel)) (fun _ h9 => h9) rfl dX6_review_47 ?_
      refine lv_iload_n hx hb dX6_review_50 rfl (lv_at hl 1 rfl) ?_
      refine sg_iald hx hb hK hP 15 0 rfl rfl (j := (xi * 5) + xs) rfl (by omega) (Nat.le_of_ble_eq_true rfl) dX6_review_51 ?_
      refine lv_toi (y := P 32 ((xi * 5) + xs)) rfl ?_
      refine lv_icmp_lt (tgt := 56) hx hb dX6_review_52 (by decide) (fun c_9 => ?_) (fun c_9 => ?_)
      · refine lv_aload_n hx hb dX6_review_56 rfl (lv_at hl 2 rfl) ?_
        refine va_get (D := D) (ci := 6) (v := .ref (a 1)) (C := RX6) (T := TX6) (N := 9) hx hb hts in6 hown hK hP 0 rfl rfl 1 (by decide) (hts (.fieldLink RX6 12 "Granary$Stock" "items" "LGranary$Items;") (by decide +kernel)) (fun _ h9 => h9) rfl dX6_review_57 ?_
        refine lv_iload_n hx hb dX6_review_60 rfl (lv_at hl 3 rfl) ?_
        refine lv_aload_n hx hb dX6_review_61 rfl (lv_at hl 2 rfl) ?_
        refine va_get (D := D) (ci := 6) (v := .ref (a 3)) (C := RX6) (T := TX6) (N := 9) hx hb hts in6 hown hK hP 0 rfl rfl 3 (by decide) (hts (.fieldLink RX6 28 "Granary$Stock" "policies" "LGranary$Policies;") (by decide +kernel)) (fun _ h9 => h9) rfl dX6_review_62 ?_
        refine va_get (D := D) (ci := 4) (v := .ref (a 32)) (C := RX4) (T := TX4) (N := 5) hx hb hts in4 hown hK hP 3 rfl rfl 2 (by decide) (hts (.fieldLink RX6 128 "Granary$Policies" "top" "[I") (by decide +kernel)) (fun _ h9 => h9) rfl dX6_review_65 ?_
        refine lv_iload_n hx hb dX6_review_68 rfl (lv_at hl 1 rfl) ?_
        refine sg_iald hx hb hK hP 15 0 rfl rfl (j := (xi * 5) + xs) rfl (by omega) (Nat.le_of_ble_eq_true rfl) dX6_review_69 ?_
        refine lv_toi (y := P 32 ((xi * 5) + xs)) rfl ?_
        refine lv_iload hx hb dX6_review_70 (lv_at hl 0 rfl) ?_
        refine lv_isub hx hb dX6_review_72 ?_
        have hPc := hP.sub (ws' := [(a 1, .inr (0, [.int (P 0 1), .ref (a 10), .ref (a 11), .ref (a 12), .ref (a 13)])), (a 12, .inl (cI, 6, .inl (P 12)))]) [1, 9] rfl
        have hDc := hD.sub (ws' := [(a 1, .inr (0, [.int (P 0 1), .ref (a 10), .ref (a 11), .ref (a 12), .ref (a 13)])), (a 12, .inl (cI, 6, .inl (P 12)))]) [1, 9] (by decide) rfl
        refine vp_callSi (W.runV (As := [.int (nI xi), .int ((P 32 ((xi * 5) + xs)) - (sg_positionAt P (nI xi) (nI xs)))]) (rest := []) ⟨hx, hb, hml, hown, hts⟩ (c_inPacks l D cI cZ cJ lo s.heap.size a P (nI xi) ((P 32 ((xi * 5) + xs)) - (sg_positionAt P (nI xi) (nI xs))) hw) (cwV 2 hts gX6_review_X0_inPacks rfl rfl rfl (by decide +kernel) ⟨(Nat.le_of_ble_eq_true rfl), (Nat.le_of_ble_eq_true rfl)⟩) ⟨Pre.blind, va_recv hK hP (ci := 0) (q0 := 1) rfl rfl, Pre.mk hPc (hDc.weaken (fun _ _ _ h => hAlo _ h)) hC hS hAlo⟩ rfl rfl hl.1 rfl (lv_room (Nat.le_of_ble_eq_true rfl)) dX6_review_73 ⟨(Nat.le_of_ble_eq_true rfl), (Nat.le_of_ble_eq_true rfl)⟩) (fun r_10 e_11 => ?_)
        clear hPc hDc
        have e_11 : sg_inPacks P (nI xi) ((P 32 ((xi * 5) + xs)) - (sg_positionAt P (nI xi) (nI xs))) = r_10 := Eq.symm e_11
        subst e_11
        refine lv_istore (lv' := [(5, .int (sg_inPacks P (nI xi) ((P 32 ((xi * 5) + xs)) - (sg_positionAt P (nI xi) (nI xs))))), (4, .int (sg_positionAt P (nI xi) (nI xs))), (3, .int (nI ((xi * 5) + xs))), (0, .ref (a 0)), (1, .int (nI xi)), (2, .int (nI xs))]) hx hb dX6_review_76 hl (by decide) rfl (fun ls hl => ?_)
        refine lv_aload_n hx hb dX6_review_78 rfl (lv_at hl 3 rfl) ?_
        refine va_get (D := D) (ci := 6) (v := .ref (a 3)) (C := RX6) (T := TX6) (N := 9) hx hb hts in6 hown hK hP 0 rfl rfl 3 (by decide) (hts (.fieldLink RX6 28 "Granary$Stock" "policies" "LGranary$Policies;") (by decide +kernel)) (fun _ h9 => h9) rfl dX6_review_79 ?_
        refine va_get (D := D) (ci := 4) (v := .ref (a 33)) (C := RX4) (T := TX4) (N := 5) hx hb hts in4 hown hK hP 3 rfl rfl 3 (by decide) (hts (.fieldLink RX6 226 "Granary$Policies" "source" "[I") (by decide +kernel)) (fun _ h9 => h9) rfl dX6_review_82 ?_
        refine lv_iload_n hx hb dX6_review_85 rfl (lv_at hl 2 rfl) ?_
        refine sg_iald hx hb hK hP 16 0 rfl rfl (j := (xi * 5) + xs) rfl (by omega) (Nat.le_of_ble_eq_true rfl) dX6_review_86 ?_
        refine lv_toi (y := P 33 ((xi * 5) + xs)) rfl ?_
        refine lv_iconst (v := (-1)) hx hb dX6_review_87 (by decide) ?_
        refine lv_icmp_ne (tgt := 111) hx hb dX6_review_88 (by decide) (fun c_12 => ?_) (fun c_12 => ?_)
        · refine lv_aload_n hx hb dX6_review_111 rfl (lv_at hl 3 rfl) ?_
          refine lv_iload_n hx hb dX6_review_112 rfl (lv_at hl 4 rfl) ?_
          refine lv_aload_n hx hb dX6_review_113 rfl (lv_at hl 3 rfl) ?_
          refine va_get (D := D) (ci := 6) (v := .ref (a 3)) (C := RX6) (T := TX6) (N := 9) hx hb hts in6 hown hK hP 0 rfl rfl 3 (by decide) (hts (.fieldLink RX6 28 "Granary$Stock" "policies" "LGranary$Policies;") (by decide +kernel)) (fun _ h9 => h9) rfl dX6_review_114 ?_
          refine va_get (D := D) (ci := 4) (v := .ref (a 33)) (C := RX4) (T := TX4) (N := 5) hx hb hts in4 hown hK hP 3 rfl rfl 3 (by decide) (hts (.fieldLink RX6 226 "Granary$Policies" "source" "[I") (by decide +kernel)) (fun _ h9 => h9) rfl dX6_review_117 ?_
          refine lv_iload_n hx hb dX6_review_120 rfl (lv_at hl 2 rfl) ?_
          refine sg_iald hx hb hK hP 16 0 rfl rfl (j := (xi * 5) + xs) rfl (by omega) (Nat.le_of_ble_eq_true rfl) dX6_review_121 ?_
          refine lv_toi (y := P 33 ((xi * 5) + xs)) rfl ?_
          refine lv_iload_n hx hb dX6_review_122 rfl (lv_at hl 5 rfl) ?_
          refine lv_iload hx hb dX6_review_123 (lv_at hl 0 rfl) ?_
          have hPc : va_P D vwCl (sg_St cI cZ a P q) s.heap := hP
          have hDc : va_D A (sg_St cI cZ a P q) := hD
          have hFc := va_free (wc := (sg_St cI cZ a P q)) hD hS hA [0, 1, 2, 3, 4, 5, 6, 7, 8, 9, 10, 11, 12, 13, 14, 15, 16, 17, 18, 19, 20, 21, 22, 23, 24, 25, 26, 27, 28, 29, 30, 31, 32, 33, 34, 35, 36, 37, 38, 39, 40] rfl
          refine va_calli (va_runV (As := [.int (nI xi), .int (P 33 ((xi * 5) + xs)), .int (nI xs), .int (sg_inPacks P (nI xi) ((P 32 ((xi * 5) + xs)) - (sg_positionAt P (nI xi) (nI xs))))]) (rest := []) ⟨hx, hb, hml, hown, hts⟩ (c_sendUnits l D cI cZ cJ lo s.heap.size a P q (nI xi) (P 33 ((xi * 5) + xs)) (nI xs) (sg_inPacks P (nI xi) ((P 32 ((xi * 5) + xs)) - (sg_positionAt P (nI xi) (nI xs)))) hw) (cwV 4 hts gX6_review_X6_sendUnits rfl rfl rfl (by decide +kernel) ⟨(Nat.le_of_ble_eq_true rfl), (Nat.le_of_ble_eq_true rfl)⟩) ⟨Pre.blind, va_recv hK hP (ci := 6) (q0 := 0) rfl rfl, Pre.mk hPc (hDc.weaken (fun _ _ _ h => hAlo _ h)) hC hS hAlo⟩ rfl rfl hl.1 rfl (lv_room (Nat.le_of_ble_eq_true rfl)) dX6_review_125 ⟨(Nat.le_of_ble_eq_true rfl), (Nat.le_of_ble_eq_true rfl)⟩) hS (fun q _ h => hFc q h) hFc (fun r_13 u t H1 locs1 ht hvm e_14 hB hz1 hk1 hS1 => ?_)
          have hS := hS1
          obtain ⟨hP1, hD1⟩ := hB
          rw [ht] at hP1
          obtain ⟨hP, hD⟩ := va_join (wr := []) (w1 := (sg_St cI cZ a (sg_sendUnits P (nI xi) (P 33 ((xi * 5) + xs)) (nI xs) (sg_inPacks P (nI xi) ((P 32 ((xi * 5) + xs)) - (sg_positionAt P (nI xi) (nI xs))))) q)) hP hD [0, 1, 2, 3, 4, 5, 6, 7, 8, 9, 10, 11, 12, 13, 14, 15, 16, 17, 18, 19, 20, 21, 22, 23, 24, 25, 26, 27, 28, 29, 30, 31, 32, 33, 34, 35, 36, 37, 38, 39, 40] [] rfl rfl (by decide) (by decide) hk1 hFc hP1 hD1
          have e_14 : sg_sendUnits_r P (nI xi) (P 33 ((xi * 5) + xs)) (nI xs) (sg_inPacks P (nI xi) ((P 32 ((xi * 5) + xs)) - (sg_positionAt P (nI xi) (nI xs)))) = r_13 := Eq.symm e_14
          subst e_14
          clear hFc hPc hDc ht hvm hz1 hk1 hS1 hP1 hD1
          generalize H1 = H at hP hS ⊢
          replace hP : va_P D vwCl (sg_St cI cZ a (sg_sendUnits P (nI xi) (P 33 ((xi * 5) + xs)) (nI xs) (sg_inPacks P (nI xi) ((P 32 ((xi * 5) + xs)) - (sg_positionAt P (nI xi) (nI xs))))) q) H := hP
          replace hD : va_D A (sg_St cI cZ a (sg_sendUnits P (nI xi) (P 33 ((xi * 5) + xs)) (nI xs) (sg_inPacks P (nI xi) ((P 32 ((xi * 5) + xs)) - (sg_positionAt P (nI xi) (nI xs))))) q) := hD
          refine lv_pop hx hb dX6_review_128 rfl ?_
          refine W.widen (k := 0) (n := 0) (by omega) (by omega) ?_
          have e9 : sg_review P xi xs = sg_sendUnits P (nI xi) (P 33 ((xi * 5) + xs)) (nI xs) (sg_inPacks P (nI xi) ((P 32 ((xi * 5) + xs)) - (sg_positionAt P (nI xi) (nI xs)))) := by rw [sg_review, if_neg c_3, if_neg c_8, if_pos c_9, if_neg c_12]
          have hP9 : va_P D vwCl (sg_St cI cZ a (sg_review P xi xs) q) H := by rw [e9]; exact hP
          have hD9 : va_D A (sg_St cI cZ a (sg_review P xi xs) q) := by rw [e9]; exact hD
          exact W.vret hx hb hr (fun t ht hW => ⟨⟨(), rfl, trivial, by rw [ht]; exact hP9, hD9⟩, hS.F ht⟩) hS.2.2 dX6_review_129
        · refine lv_aload_n hx hb dX6_review_91 rfl (lv_at hl 3 rfl) ?_
          refine lv_iload_n hx hb dX6_review_92 rfl (lv_at hl 4 rfl) ?_
          refine lv_iload_n hx hb dX6_review_93 rfl (lv_at hl 5 rfl) ?_
          refine lv_iload hx hb dX6_review_94 (lv_at hl 0 rfl) ?_
          refine lv_aload_n hx hb dX6_review_96 rfl (lv_at hl 3 rfl) ?_
          refine va_get (D := D) (ci := 6) (v := .ref (a 3)) (C := RX6) (T := TX6) (N := 9) hx hb hts in6 hown hK hP 0 rfl rfl 3 (by decide) (hts (.fieldLink RX6 28 "Granary$Stock" "policies" "LGranary$Policies;") (by decide +kernel)) (fun _ h9 => h9) rfl dX6_review_97 ?_
          refine va_get (D := D) (ci := 4) (v := .ref (a 34)) (C := RX4) (T := TX4) (N := 5) hx hb hts in4 hown hK hP 3 rfl rfl 4 (by decide) (hts (.fieldLink RX6 229 "Granary$Policies" "lead" "[I") (by decide +kernel)) (fun _ h9 => h9) rfl dX6_review_100 ?_
          refine lv_iload_n hx hb dX6_review_103 rfl (lv_at hl 2 rfl) ?_
          refine sg_iald hx hb hK hP 17 0 rfl rfl (j := (xi * 5) + xs) rfl (by omega) (Nat.le_of_ble_eq_true rfl) dX6_review_104 ?_
          refine lv_toi (y := P 34 ((xi * 5) + xs)) rfl ?_
          have hPc : va_P D vwCl (sg_St cI cZ a P q) s.heap := hP
          have hDc : va_D A (sg_St cI cZ a P q) := hD
          have hFc := va_free (wc := (sg_St cI cZ a P q)) hD hS hA [0, 1, 2, 3, 4, 5, 6, 7, 8, 9, 10, 11, 12, 13, 14, 15, 16, 17, 18, 19, 20, 21, 22, 23, 24, 25, 26, 27, 28, 29, 30, 31, 32, 33, 34, 35, 36, 37, 38, 39, 40] rfl
          refine va_callv (va_runV (As := [.int (nI xi), .int (nI xs), .int (sg_inPacks P (nI xi) ((P 32 ((xi * 5) + xs)) - (sg_positionAt P (nI xi) (nI xs)))), .int (P 34 ((xi * 5) + xs))]) (rest := []) ⟨hx, hb, hml, hown, hts⟩ (c_orderOutside l D cI cZ cJ lo s.heap.size a P q (nI xi) (nI xs) (sg_inPacks P (nI xi) ((P 32 ((xi * 5) + xs)) - (sg_positionAt P (nI xi) (nI xs)))) (P 34 ((xi * 5) + xs)) hw) (cwV 4 hts gX6_review_X6_orderOutside rfl rfl rfl (by decide +kernel) ⟨(Nat.le_of_ble_eq_true rfl), (Nat.le_of_ble_eq_true rfl)⟩) ⟨Pre.blind, va_recv hK hP (ci := 6) (q0 := 0) rfl rfl, Pre.mk hPc (hDc.weaken (fun _ _ _ h => hAlo _ h)) hC hS hAlo⟩ rfl rfl hl.1 rfl (lv_room (Nat.le_of_ble_eq_true rfl)) dX6_review_105 ⟨(Nat.le_of_ble_eq_true rfl), (Nat.le_of_ble_eq_true rfl)⟩) hS (fun q _ h => hFc q h) hFc (fun u t H1 locs1 ht hvm e_15 hB hz1 hk1 hS1 => ?_)
          have hS := hS1
          obtain ⟨hP1, hD1⟩ := hB
          rw [ht] at hP1
          obtain ⟨hP, hD⟩ := va_join (wr := []) (w1 := (sg_St cI cZ a (sg_orderOutside P (nI xi) (nI xs) (sg_inPacks P (nI xi) ((P 32 ((xi * 5) + xs)) - (sg_positionAt P (nI xi) (nI xs)))) (P 34 ((xi * 5) + xs))) q)) hP hD [0, 1, 2, 3, 4, 5, 6, 7, 8, 9, 10, 11, 12, 13, 14, 15, 16, 17, 18, 19, 20, 21, 22, 23, 24, 25, 26, 27, 28, 29, 30, 31, 32, 33, 34, 35, 36, 37, 38, 39, 40] [] rfl rfl (by decide) (by decide) hk1 hFc hP1 hD1
          have e_15 : True := e_15
          clear hFc hPc hDc ht hvm hz1 hk1 hS1 hP1 hD1
          generalize H1 = H at hP hS ⊢
          replace hP : va_P D vwCl (sg_St cI cZ a (sg_orderOutside P (nI xi) (nI xs) (sg_inPacks P (nI xi) ((P 32 ((xi * 5) + xs)) - (sg_positionAt P (nI xi) (nI xs)))) (P 34 ((xi * 5) + xs))) q) H := hP
          replace hD : va_D A (sg_St cI cZ a (sg_orderOutside P (nI xi) (nI xs) (sg_inPacks P (nI xi) ((P 32 ((xi * 5) + xs)) - (sg_positionAt P (nI xi) (nI xs)))) (P 34 ((xi * 5) + xs))) q) := hD
          refine lv_goto (tgt := 129) hx hb dX6_review_108 (by decide) ?_
          refine W.widen (k := 0) (n := 0) (by omega) (by omega) ?_
          have e9 : sg_review P xi xs = sg_orderOutside P (nI xi) (nI xs) (sg_inPacks P (nI xi) ((P 32 ((xi * 5) + xs)) - (sg_positionAt P (nI xi) (nI xs)))) (P 34 ((xi * 5) + xs)) := by rw [sg_review, if_neg c_3, if_neg c_8, if_pos c_9, if_pos c_12]
          have hP9 : va_P D vwCl (sg_St cI cZ a (sg_review P xi xs) q) H := by rw [e9]; exact hP
          have hD9 : va_D A (sg_St cI cZ a (sg_review P xi xs) q) := by rw [e9]; exact hD
          exact W.vret hx hb hr (fun t ht hW => ⟨⟨(), rfl, trivial, by rw [ht]; exact hP9, hD9⟩, hS.F ht⟩) hS.2.2 dX6_review_129
      · refine W.widen (k := 0) (n := 0) (by omega) (by omega) ?_
        have e9 : sg_review P xi xs = P := by rw [sg_review, if_neg c_3, if_neg c_8, if_neg c_9]
        have hP9 : va_P D vwCl (sg_St cI cZ a (sg_review P xi xs) q) s.heap := by rw [e9]; exact hP
        have hD9 : va_D A (sg_St cI cZ a (sg_review P xi xs) q) := by rw [e9]; exact hD
        exact W.vret hx hb hr (fun t ht hW => ⟨⟨(), rfl, trivial, by rw [ht]; exact hP9, hD9⟩, hS.F ht⟩) hS.2.2 dX6_review_55
  · refine W.widen (k := 0) (n := 0) (by omega) (by omega) ?_
    have e9 : sg_review P xi xs = P := by rw [sg_review, if_pos c_3]
    have hP9 : va_P D vwCl (sg_St cI cZ a (sg_review P xi xs) q) s.heap := by rw [e9]; exact hP
    have hD9 : va_D A (sg_St cI cZ a (sg_review P xi xs) q) := by rw [e9]; exact hD
    exact W.vret hx hb hr (fun t ht hW => ⟨⟨(), rfl, trivial, by rw [ht]; exact hP9, hD9⟩, hS.F ht⟩) hS.2.2 dX6_review_12

def sg_reviewAll_15 (P : sg_Pic) (j2 : Nat) (P2 : sg_Pic) : Nat → sg_Pic
  | 0 => P2
  | j15 + 1 => (sg_review (sg_reviewAll_15 P j2 P2 j15) j2 j15)
theorem sg_reviewAll_15_K (P : sg_Pic) (j2 : Nat) (P2 : sg_Pic) : ∀ j : Nat, sg_K5 (sg_reviewAll_15 P j2 P2 j) P2
  | 0 => by exact sg_K5.of ⟨rfl, rfl⟩
  | j + 1 => by
    have h := sg_reviewAll_15_K P j2 P2 j
    rw [sg_reviewAll_15]
    repeat' split
    all_goals first | exact h | (refine sg_K5.trans ?_ h; exact sg_K5.of ⟨rfl, rfl⟩) | (refine sg_K5.trans ?_ h; exact sg_review_K _ _ _)

def sg_reviewAll_2 (P : sg_Pic) : Nat → sg_Pic
  | 0 => P
  | j2 + 1 => (sg_reviewAll_15 P j2 (sg_reviewAll_2 P j2) (sg_cn P 2))
theorem sg_reviewAll_2_K (P : sg_Pic) : ∀ j : Nat, sg_K5 (sg_reviewAll_2 P j) P
  | 0 => by exact sg_K5.of ⟨rfl, rfl⟩
  | j + 1 => by
    have h := sg_reviewAll_2_K P j
    rw [sg_reviewAll_2]
    repeat' split
    all_goals first | exact h | (refine sg_K5.trans ?_ h; exact sg_K5.of ⟨rfl, rfl⟩) | (refine sg_K5.trans ?_ h; exact sg_reviewAll_15_K _ _ _ _)

def sg_reviewAll (P : sg_Pic) : sg_Pic := (sg_reviewAll_2 P (sg_cn P 1))

theorem sg_reviewAll_K (P : sg_Pic) : sg_K5 (sg_reviewAll P) P := by
  unfold sg_reviewAll
  repeat' split
  all_goals first | exact sg_K5.of ⟨rfl, rfl⟩ | exact sg_reviewAll_2_K _ _
theorem sg_reviewAll_W {P : sg_Pic} (hw : sg_W P) : sg_W (sg_reviewAll P) := (sg_reviewAll_K P).W hw

set_option maxHeartbeats 4000000 in
set_option maxRecDepth 100000 in
/-- X6_reviewAll -/
theorem c_reviewAll (l : Launch) (D : va_G) (cI cZ cJ : ClassId) (lo sz : Nat) (a : Nat → Nat) (P : sg_Pic) (q : Nat → Int32) (hw : sg_W P) : Met l yX6_reviewAll wsX6_reviewAll ({ frames := 4, cells := 0, slots := 0, locals := 101 }) (Pre lo D cI cZ cJ [.ref (a 0)] sz (sg_St cI cZ a P q)) (va_Qv (fun _ : Unit => True) (fun _ t => va_P D vwCl (sg_St cI cZ a (sg_reviewAll P) q) t.heap ∧ va_D (va_A (sg_St cI cZ a P q) sz) (sg_St cI cZ a (sg_reviewAll P) q)) (va_A (sg_St cI cZ a P q) sz)) 0 0 (va_A (sg_St cI cZ a P q) sz) := by
  refine Met.ofW (cc := cX6_reviewAll) (maxL := 3) (ret := none) (by decide) rfl ?_
  intro p e s m args below meth c s₁ B hml hv
  obtain ⟨rfl, hsz, hP, hD0, hC⟩ := hv
  have hx := B.exec
  have hb := B.bytes
  have hr := B.returns
  have hts := atoms_spec (ws := wsX6_reviewAll) B.pre
  have hown : s.vm.findClass RX6 = some m.cls := findClass_of_methodNamed B.named
  have hlocks := B.notSynchronized
  subst hsz
  have hn1 : sg_cn P 1 ≤ 6 := hw.n1
  have hn2 : sg_cn P 2 ≤ 5 := hw.n2
  have hn3 : sg_cn P 3 ≤ 200 := hw.n3
  have hn4 : sg_cn P 4 ≤ 60 := hw.n4
  have hn5 : sg_cn P 5 ≤ 90 := hw.n5
  have hK := hC.K
  have hD := hD0.self (sz := s.heap.size)
  have hAlo0 := va_A_lo hD0 hC.1
  generalize hAe : va_A (sg_St cI cZ a P q) s.heap.size = A at hD hAlo0 ⊢
  have hA : ∀ q : Nat, s.heap.size ≤ q → A q := fun q h => by rw [← hAe]; exact Or.inr h
  have hAlo : ∀ q, A q → lo ≤ q := hAlo0
  have hS : va_S A s.heap s.heap [] := va_S.rf
  have hP : va_P D vwCl (sg_St cI cZ a P q) s.heap := hP
  have hl := lv_entry ([.ref (a 0)]) (n := 3) (Nat.le_of_ble_eq_true rfl)
  rw [lg_entry_eq]
  generalize (lg_sl ([.ref (a 0)]) ++ List.replicate (3 - (lg_sl ([.ref (a 0)])).length) Slot.unset).toArray = ls at hl ⊢
  have hl : lv_has ls 3 [(0, .ref (a 0))] := hl
  have in0 : ∀ w ∈ u_ws RX0 TX0 5, w ∈ wsX6_reviewAll := by decide +kernel
  have in5 : ∀ w ∈ u_ws RX5 TX5 3, w ∈ wsX6_reviewAll := by decide +kernel
  have in6 : ∀ w ∈ u_ws RX6 TX6 9, w ∈ wsX6_reviewAll := by decide +kernel
  refine lv_iconst (v := 0) hx hb dX6_reviewAll_0 (by decide) ?_
  refine lv_istore_n (lv' := [(1, .int 0), (0, .ref (a 0))]) hx hb dX6_reviewAll_1 rfl hl (by decide) rfl (fun ls hl => ?_)
  obtain ⟨H, hH9⟩ : ∃ z : Heap, z = s.heap := ⟨_, rfl⟩
  replace hS : va_S A s.heap H [] := by rw [hH9]; exact va_S.rf
  replace hP : va_P D vwCl (sg_St cI cZ a P q) H := by rw [hH9]; exact hP
  rw [← hH9]
  clear hH9
  generalize ([] : List Loc) = locs at hS ⊢
  obtain ⟨j2, h0j2⟩ : ∃ j : Nat, j = 0 := ⟨_, rfl⟩
  obtain ⟨P2, hP2⟩ : ∃ z9 : sg_Pic, z9 = sg_reviewAll_2 P j2 := ⟨_, rfl⟩
  replace hl : lv_has ls 3 [(1, .int (nI j2)), (0, .ref (a 0))] := by rw [h0j2]; exact hl
  replace hP : va_P D vwCl (sg_St cI cZ a P2 q) H := by rw [hP2, h0j2]; exact hP
  replace hD : va_D A (sg_St cI cZ a P2 q) := by rw [hP2, h0j2]; exact hD
  have hjj2 : j2 ≤ sg_cn P 1 := by omega
  clear h0j2
  obtain ⟨n2, hn2⟩ : ∃ n : Nat, sg_cn P 1 < j2 + n := ⟨sg_cn P 1 + 1, by omega⟩
  revert hP
  revert hD
  revert hS
  revert hl
  revert hn2
  revert hjj2
  revert hP2
  revert ls
  revert locs
  revert H
  revert P2
  revert j2
  induction n2 with
  | zero =>
    intro j2 P2 H locs ls hP2 hjj2 hn2 hl hS hD hP
    exact absurd hn2 (by omega)
  | succ n2 ih2 =>
    intro j2 P2 H locs ls hP2 hjj2 hn2 hl hS hD hP
    refine lv_iload_n hx hb dX6_reviewAll_2 rfl (lv_at hl 0 rfl) ?_
    refine lv_aload_n hx hb dX6_reviewAll_3 rfl (lv_at hl 1 rfl) ?_
    refine va_get (D := D) (ci := 6) (v := .ref (a 1)) (C := RX6) (T := TX6) (N := 9) hx hb hts in6 hown hK hP 0 rfl rfl 1 (by decide) (hts (.fieldLink RX6 12 "Granary$Stock" "items" "LGranary$Items;") (by decide +kernel)) (fun _ h9 => h9) rfl dX6_reviewAll_4 ?_
    refine va_get (D := D) (ci := 0) (v := .int (P2 0 1)) (C := RX0) (T := TX0) (N := 5) hx hb hts in0 hown hK hP 1 rfl rfl 0 (by decide) (hts (.fieldLink RX6 287 "Granary$Items" "count" "I") (by decide +kernel)) (fun _ h9 => h9) rfl dX6_reviewAll_7 ?_
    have hkP2 : sg_K5 P2 P := by rw [hP2]; exact sg_reviewAll_2_K P j2
    have hB2 : ((P2 0 1) : Int32) = nI (sg_cn P 1) := ((hkP2.e 1 (by decide)).trans hw.e1)
    refine lv_icmp_ge (tgt := 44) hx hb dX6_reviewAll_10 (by decide) (fun c_1 => ?_) (fun c_1 => ?_)
    · have hE2 : sg_cn P 1 = j2 := (sg_eq hB2 c_1 hjj2 (by omega)).symm
      clear ih2 hn2
      subst hE2
      subst hP2
      refine W.widen (k := 0) (n := 0) (by omega) (by omega) ?_
      have hP9 : va_P D vwCl (sg_St cI cZ a (sg_reviewAll P) q) H := by exact hP
      have hD9 : va_D A (sg_St cI cZ a (sg_reviewAll P) q) := by exact hD
      exact W.vret hx hb hr (fun t ht hW => ⟨⟨(), rfl, trivial, by rw [ht]; exact hP9, hD9⟩, hS.F ht⟩) hS.2.2 dX6_reviewAll_44
    · have hL2 : j2 < sg_cn P 1 := sg_lt hB2 c_1 (by omega)
      refine lv_iconst (v := 0) hx hb dX6_reviewAll_13 (by decide) ?_
      refine lv_istore_n (lv' := [(2, .int 0), (1, .int (nI j2)), (0, .ref (a 0))]) hx hb dX6_reviewAll_14 rfl hl (by decide) rfl (fun ls hl => ?_)
      obtain ⟨j15, h0j15⟩ : ∃ j : Nat, j = 0 := ⟨_, rfl⟩
      obtain ⟨P15, hP15⟩ : ∃ z9 : sg_Pic, z9 = sg_reviewAll_15 P j2 P2 j15 := ⟨_, rfl⟩
      replace hl : lv_has ls 3 [(2, .int (nI j15)), (1, .int (nI j2)), (0, .ref (a 0))] := by rw [h0j15]; exact hl
      replace hP : va_P D vwCl (sg_St cI cZ a P15 q) H := by rw [hP15, h0j15]; exact hP
      replace hD : va_D A (sg_St cI cZ a P15 q) := by rw [hP15, h0j15]; exact hD
      have hjj15 : j15 ≤ sg_cn P 2 := by omega
      clear h0j15
      obtain ⟨n15, hn15⟩ : ∃ n : Nat, sg_cn P 2 < j15 + n := ⟨sg_cn P 2 + 1, by omega⟩
      revert hP
      revert hD
      revert hS
      revert hl
      revert hn15
      revert hjj15
      revert hP15
      revert ls
      revert locs
      revert H
      revert P15
      revert j15
      induction n15 with
      | zero =>
        intro j15 P15 H locs ls hP15 hjj15 hn15 hl hS hD hP
        exact absurd hn15 (by omega)
      | succ n15 ih15 =>
        intro j15 P15 H locs ls hP15 hjj15 hn15 hl hS hD hP
        refine lv_iload_n hx hb dX6_reviewAll_15 rfl (lv_at hl 0 rfl) ?_
        refine lv_aload_n hx hb dX6_reviewAll_16 rfl (lv_at hl 2 rfl) ?_
        refine va_get (D := D) (ci := 6) (v := .ref (a 2)) (C := RX6) (T := TX6) (N := 9) hx hb hts in6 hown hK hP 0 rfl rfl 2 (by decide) (hts (.fieldLink RX6 21 "Granary$Stock" "sites" "LGranary$Sites;") (by decide +kernel)) (fun _ h9 => h9) rfl dX6_reviewAll_17 ?_
        refine va_get (D := D) (ci := 5) (v := .int (P15 0 2)) (C := RX5) (T := TX5) (N := 3) hx hb hts in5 hown hK hP 2 rfl rfl 0 (by decide) (hts (.fieldLink RX6 288 "Granary$Sites" "count" "I") (by decide +kernel)) (fun _ h9 => h9) rfl dX6_reviewAll_20 ?_
        have hkP15 : sg_K5 P15 P2 := by rw [hP15]; exact sg_reviewAll_15_K P j2 P2 j15
        have hB15 : ((P15 0 2) : Int32) = nI (sg_cn P 2) := ((hkP15.e 2 (by decide)).trans ((hkP2.e 2 (by decide)).trans hw.e2))
        refine lv_icmp_ge (tgt := 38) hx hb dX6_reviewAll_23 (by decide) (fun c_2 => ?_) (fun c_2 => ?_)
        · have hE15 : sg_cn P 2 = j15 := (sg_eq hB15 c_2 hjj15 (by omega)).symm
          clear ih15 hn15
          subst hE15
          subst hP15
          refine lv_iinc (v := nI (j2 + 1)) (lv' := [(1, .int (nI (j2 + 1))), (2, .int (nI (sg_cn P 2))), (0, .ref (a 0))]) hx hb dX6_reviewAll_38 hl (k := 1) rfl (nI_1 j2) (by decide) rfl (fun ls hl => ?_)
          refine lv_goto (tgt := 2) hx hb dX6_reviewAll_41 (by decide) ?_
          have hl8 := hl; have hS8 := hS; have hD8 := hD; have hP8 := hP
          subst hP2
          exact ih2 (j2 + 1) (sg_reviewAll_15 P j2 (sg_reviewAll_2 P j2) (sg_cn P 2)) _ _ _ rfl (by omega) (by omega) (lv_sub hl8 [0, 2] rfl) hS8 hD8 hP8
        · have hL15 : j15 < sg_cn P 2 := sg_lt hB15 c_2 (by omega)
          refine lv_aload_n hx hb dX6_reviewAll_26 rfl (lv_at hl 2 rfl) ?_
          refine lv_iload_n hx hb dX6_reviewAll_27 rfl (lv_at hl 1 rfl) ?_
          refine lv_iload_n hx hb dX6_reviewAll_28 rfl (lv_at hl 0 rfl) ?_
          have hPc : va_P D vwCl (sg_St cI cZ a P15 q) H := hP
          have hDc : va_D A (sg_St cI cZ a P15 q) := hD
          have hFc := va_free (wc := (sg_St cI cZ a P15 q)) hD hS hA [0, 1, 2, 3, 4, 5, 6, 7, 8, 9, 10, 11, 12, 13, 14, 15, 16, 17, 18, 19, 20, 21, 22, 23, 24, 25, 26, 27, 28, 29, 30, 31, 32, 33, 34, 35, 36, 37, 38, 39, 40] rfl
          refine va_callv (va_runV (As := [.int (nI j2), .int (nI j15)]) (rest := []) ⟨hx, hb, hml, hown, hts⟩ (c_review l D cI cZ cJ lo H.size a P15 q j2 j15 (hkP15.W (hkP2.W hw)) (by omega) (by omega)) (cwV 2 hts gX6_reviewAll_X6_review rfl rfl rfl (by decide +kernel) ⟨(Nat.le_of_ble_eq_true rfl), (Nat.le_of_ble_eq_true rfl)⟩) ⟨Pre.blind, va_recv hK hP (ci := 6) (q0 := 0) rfl rfl, Pre.mk hPc (hDc.weaken (fun _ _ _ h => hAlo _ h)) hC hS hAlo⟩ rfl rfl hl.1 rfl (lv_room (Nat.le_of_ble_eq_true rfl)) dX6_reviewAll_29 ⟨(Nat.le_of_ble_eq_true rfl), (Nat.le_of_ble_eq_true rfl)⟩) hS (fun q _ h => hFc q h) hFc (fun u t H1 locs1 ht hvm e_3 hB hz1 hk1 hS1 => ?_)
          have hS := hS1
          obtain ⟨hP1, hD1⟩ := hB
          rw [ht] at hP1
          obtain ⟨hP, hD⟩ := va_join (wr := []) (w1 := (sg_St cI cZ a (sg_review P15 j2 j15) q)) hP hD [0, 1, 2, 3, 4, 5, 6, 7, 8, 9, 10, 11, 12, 13, 14, 15, 16, 17, 18, 19, 20, 21, 22, 23, 24, 25, 26, 27, 28, 29, 30, 31, 32, 33, 34, 35, 36, 37, 38, 39, 40] [] rfl rfl (by decide) (by decide) hk1 hFc hP1 hD1
          have e_3 : True := e_3
          clear hFc hPc hDc ht hvm hz1 hk1 hS1 hP1 hD1
          generalize H1 = H at hP hS ⊢
          replace hP : va_P D vwCl (sg_St cI cZ a (sg_review P15 j2 j15) q) H := hP
          replace hD : va_D A (sg_St cI cZ a (sg_review P15 j2 j15) q) := hD
          refine lv_iinc (v := nI (j15 + 1)) (lv' := [(2, .int (nI (j15 + 1))), (1, .int (nI j2)), (0, .ref (a 0))]) hx hb dX6_reviewAll_32 hl (k := 0) rfl (nI_1 j15) (by decide) rfl (fun ls hl => ?_)
          refine lv_goto (tgt := 15) hx hb dX6_reviewAll_35 (by decide) ?_
          have hl8 := hl; have hS8 := hS; have hD8 := hD; have hP8 := hP
          subst hP15
          exact ih15 (j15 + 1) (sg_review (sg_reviewAll_15 P j2 P2 j15) j2 j15) _ _ _ rfl (by omega) (by omega) (lv_sub hl8 [0, 1, 2] rfl) hS8 hD8 hP8

def sg_countHolding_2 (P : sg_Pic) : Nat → sg_Pic
  | 0 => P
  | j2 + 1 => (sg_up (sg_countHolding_2 P j2) 70 0 (((sg_countHolding_2 P j2) 70 0) + (((sg_countHolding_2 P j2) 42 j2) * (sg_priceOf (sg_countHolding_2 P j2) ((sg_countHolding_2 P j2) 40 j2)))))
theorem sg_countHolding_2_K (P : sg_Pic) : ∀ j : Nat, sg_K (sg_countHolding_2 P j) P
  | 0 => by exact ⟨rfl, rfl⟩
  | j + 1 => by
    have h := sg_countHolding_2_K P j
    rw [sg_countHolding_2]
    repeat' split
    all_goals first | exact h | (refine sg_K.trans ?_ h; exact ⟨rfl, rfl⟩)

def sg_countHolding (P : sg_Pic) : sg_Pic := (sg_countHolding_2 P (sg_cn P 3))

theorem sg_countHolding_K (P : sg_Pic) : sg_K (sg_countHolding P) P := by
  unfold sg_countHolding
  repeat' split
  all_goals first | exact ⟨rfl, rfl⟩ | exact sg_countHolding_2_K _ _
theorem sg_countHolding_W {P : sg_Pic} (hw : sg_W P) : sg_W (sg_countHolding P) := (sg_countHolding_K P).W hw

set_option maxHeartbeats 4000000 in
set_option maxRecDepth 100000 in
/-- X6_countHolding -/
theorem c_countHolding (l : Launch) (D : va_G) (cI cZ cJ : ClassId) (lo sz : Nat) (a : Nat → Nat) (P : sg_Pic) (q : Nat → Int32) (hw : sg_W P) : Met l yX6_countHolding wsX6_countHolding ({ frames := 2, cells := 0, slots := 0, locals := 42 }) (Pre lo D cI cZ cJ [.ref (a 0)] sz (sg_St cI cZ a P q)) (va_Qv (fun _ : Unit => True) (fun _ t => va_P D vwCl (sg_St cI cZ a (sg_countHolding P) q) t.heap ∧ va_D (va_A (sg_St cI cZ a P q) sz) (sg_St cI cZ a (sg_countHolding P) q)) (va_A (sg_St cI cZ a P q) sz)) 0 0 (va_A (sg_St cI cZ a P q) sz) := by
  refine Met.ofW (cc := cX6_countHolding) (maxL := 2) (ret := none) (by decide) rfl ?_
  intro p e s m args below meth c s₁ B hml hv
  obtain ⟨rfl, hsz, hP, hD0, hC⟩ := hv
  have hx := B.exec
  have hb := B.bytes
  have hr := B.returns
  have hts := atoms_spec (ws := wsX6_countHolding) B.pre
  have hown : s.vm.findClass RX6 = some m.cls := findClass_of_methodNamed B.named
  have hlocks := B.notSynchronized
  subst hsz
  have hn1 : sg_cn P 1 ≤ 6 := hw.n1
  have hn2 : sg_cn P 2 ≤ 5 := hw.n2
  have hn3 : sg_cn P 3 ≤ 200 := hw.n3
  have hn4 : sg_cn P 4 ≤ 60 := hw.n4
  have hn5 : sg_cn P 5 ≤ 90 := hw.n5
  have hK := hC.K
  have hD := hD0.self (sz := s.heap.size)
  have hAlo0 := va_A_lo hD0 hC.1
  generalize hAe : va_A (sg_St cI cZ a P q) s.heap.size = A at hD hAlo0 ⊢
  have hA : ∀ q : Nat, s.heap.size ≤ q → A q := fun q h => by rw [← hAe]; exact Or.inr h
  have hAlo : ∀ q, A q → lo ≤ q := hAlo0
  have hS : va_S A s.heap s.heap [] := va_S.rf
  have hP : va_P D vwCl (sg_St cI cZ a P q) s.heap := hP
  have hl := lv_entry ([.ref (a 0)]) (n := 2) (Nat.le_of_ble_eq_true rfl)
  rw [lg_entry_eq]
  generalize (lg_sl ([.ref (a 0)]) ++ List.replicate (2 - (lg_sl ([.ref (a 0)])).length) Slot.unset).toArray = ls at hl ⊢
  have hl : lv_has ls 2 [(0, .ref (a 0))] := hl
  have in1 : ∀ w ∈ u_ws RX1 TX1 6, w ∈ wsX6_countHolding := by decide +kernel
  have in6 : ∀ w ∈ u_ws RX6 TX6 9, w ∈ wsX6_countHolding := by decide +kernel
  refine lv_iconst (v := 0) hx hb dX6_countHolding_0 (by decide) ?_
  refine lv_istore_n (lv' := [(1, .int 0), (0, .ref (a 0))]) hx hb dX6_countHolding_1 rfl hl (by decide) rfl (fun ls hl => ?_)
  obtain ⟨H, hH9⟩ : ∃ z : Heap, z = s.heap := ⟨_, rfl⟩
  replace hS : va_S A s.heap H [] := by rw [hH9]; exact va_S.rf
  replace hP : va_P D vwCl (sg_St cI cZ a P q) H := by rw [hH9]; exact hP
  rw [← hH9]
  clear hH9
  generalize ([] : List Loc) = locs at hS ⊢
  obtain ⟨j2, h0j2⟩ : ∃ j : Nat, j = 0 := ⟨_, rfl⟩
  obtain ⟨P2, hP2⟩ : ∃ z9 : sg_Pic, z9 = sg_countHolding_2 P j2 := ⟨_, rfl⟩
  replace hl : lv_has ls 2 [(1, .int (nI j2)), (0, .ref (a 0))] := by rw [h0j2]; exact hl
  replace hP : va_P D vwCl (sg_St cI cZ a P2 q) H := by rw [hP2, h0j2]; exact hP
  replace hD : va_D A (sg_St cI cZ a P2 q) := by rw [hP2, h0j2]; exact hD
  have hjj2 : j2 ≤ sg_cn P 3 := by omega
  clear h0j2
  obtain ⟨n2, hn2⟩ : ∃ n : Nat, sg_cn P 3 < j2 + n := ⟨sg_cn P 3 + 1, by omega⟩
  revert hP
  revert hD
  revert hS
  revert hl
  revert hn2
  revert hjj2
  revert hP2
  revert ls
  revert locs
  revert H
  revert P2
  revert j2
  induction n2 with
  | zero =>
    intro j2 P2 H locs ls hP2 hjj2 hn2 hl hS hD hP
    exact absurd hn2 (by omega)
  | succ n2 ih2 =>
    intro j2 P2 H locs ls hP2 hjj2 hn2 hl hS hD hP
    refine lv_iload_n hx hb dX6_countHolding_2 rfl (lv_at hl 0 rfl) ?_
    refine lv_aload_n hx hb dX6_countHolding_3 rfl (lv_at hl 1 rfl) ?_
    refine va_get (D := D) (ci := 6) (v := .ref (a 4)) (C := RX6) (T := TX6) (N := 9) hx hb hts in6 hown hK hP 0 rfl rfl 4 (by decide) (hts (.fieldLink RX6 35 "Granary$Stock" "lots" "LGranary$Lots;") (by decide +kernel)) (fun _ h9 => h9) rfl dX6_countHolding_4 ?_
    refine va_get (D := D) (ci := 1) (v := .int (P2 0 3)) (C := RX1) (T := TX1) (N := 6) hx hb hts in1 hown hK hP 4 rfl rfl 0 (by decide) (hts (.fieldLink RX6 148 "Granary$Lots" "count" "I") (by decide +kernel)) (fun _ h9 => h9) rfl dX6_countHolding_7 ?_
    have hkP2 : sg_K P2 P := by rw [hP2]; exact sg_countHolding_2_K P j2
    have hB2 : ((P2 0 3) : Int32) = nI (sg_cn P 3) := ((hkP2.e 3).trans hw.e3)
    refine lv_icmp_ge (tgt := 54) hx hb dX6_countHolding_10 (by decide) (fun c_1 => ?_) (fun c_1 => ?_)
    · have hE2 : sg_cn P 3 = j2 := (sg_eq hB2 c_1 hjj2 (by omega)).symm
      clear ih2 hn2
      subst hE2
      subst hP2
      refine W.widen (k := 0) (n := 0) (by omega) (by omega) ?_
      have hP9 : va_P D vwCl (sg_St cI cZ a (sg_countHolding P) q) H := by exact hP
      have hD9 : va_D A (sg_St cI cZ a (sg_countHolding P) q) := by exact hD
      exact W.vret hx hb hr (fun t ht hW => ⟨⟨(), rfl, trivial, by rw [ht]; exact hP9, hD9⟩, hS.F ht⟩) hS.2.2 dX6_countHolding_54
    · have hL2 : j2 < sg_cn P 3 := sg_lt hB2 c_1 (by omega)
      refine lv_aload_n hx hb dX6_countHolding_13 rfl (lv_at hl 1 rfl) ?_
      refine va_get (D := D) (ci := 6) (v := .ref (a 70)) (C := RX6) (T := TX6) (N := 9) hx hb hts in6 hown hK hP 0 rfl rfl 7 (by decide) (hts (.fieldLink RX6 53 "Granary$Stock" "account" "[I") (by decide +kernel)) (fun _ h9 => h9) rfl dX6_countHolding_14 ?_
      refine lv_iconst (v := 0) hx hb dX6_countHolding_17 (by decide) ?_
      refine lv_dup2_11 hx hb dX6_countHolding_18 rfl rfl ?_
      refine sg_iald hx hb hK hP 39 0 rfl rfl (j := 0) (by decide) (Nat.le_of_ble_eq_true rfl) (Nat.le_of_ble_eq_true rfl) dX6_countHolding_19 ?_
      refine lv_toi (y := P2 70 0) rfl ?_
      refine lv_aload_n hx hb dX6_countHolding_20 rfl (lv_at hl 1 rfl) ?_
      refine va_get (D := D) (ci := 6) (v := .ref (a 4)) (C := RX6) (T := TX6) (N := 9) hx hb hts in6 hown hK hP 0 rfl rfl 4 (by decide) (hts (.fieldLink RX6 35 "Granary$Stock" "lots" "LGranary$Lots;") (by decide +kernel)) (fun _ h9 => h9) rfl dX6_countHolding_21 ?_
      refine va_get (D := D) (ci := 1) (v := .ref (a 42)) (C := RX1) (T := TX1) (N := 6) hx hb hts in1 hown hK hP 4 rfl rfl 3 (by decide) (hts (.fieldLink RX6 195 "Granary$Lots" "units" "[I") (by decide +kernel)) (fun _ h9 => h9) rfl dX6_countHolding_24 ?_
      refine lv_iload_n hx hb dX6_countHolding_27 rfl (lv_at hl 0 rfl) ?_
      refine sg_iald hx hb hK hP 20 0 rfl rfl (j := j2) rfl (by omega) (Nat.le_of_ble_eq_true rfl) dX6_countHolding_28 ?_
      refine lv_toi (y := P2 42 j2) rfl ?_
      refine lv_aload_n hx hb dX6_countHolding_29 rfl (lv_at hl 1 rfl) ?_
      refine va_get (D := D) (ci := 6) (v := .ref (a 1)) (C := RX6) (T := TX6) (N := 9) hx hb hts in6 hown hK hP 0 rfl rfl 1 (by decide) (hts (.fieldLink RX6 12 "Granary$Stock" "items" "LGranary$Items;") (by decide +kernel)) (fun _ h9 => h9) rfl dX6_countHolding_30 ?_
      refine lv_aload_n hx hb dX6_countHolding_33 rfl (lv_at hl 1 rfl) ?_
      refine va_get (D := D) (ci := 6) (v := .ref (a 4)) (C := RX6) (T := TX6) (N := 9) hx hb hts in6 hown hK hP 0 rfl rfl 4 (by decide) (hts (.fieldLink RX6 35 "Granary$Stock" "lots" "LGranary$Lots;") (by decide +kernel)) (fun _ h9 => h9) rfl dX6_countHolding_34 ?_
      refine va_get (D := D) (ci := 1) (v := .ref (a 40)) (C := RX1) (T := TX1) (N := 6) hx hb hts in1 hown hK hP 4 rfl rfl 1 (by decide) (hts (.fieldLink RX6 260 "Granary$Lots" "item" "[I") (by decide +kernel)) (fun _ h9 => h9) rfl dX6_countHolding_37 ?_
      refine lv_iload_n hx hb dX6_countHolding_40 rfl (lv_at hl 0 rfl) ?_
      refine sg_iald hx hb hK hP 18 0 rfl rfl (j := j2) rfl (by omega) (Nat.le_of_ble_eq_true rfl) dX6_countHolding_41 ?_
      refine lv_toi (y := P2 40 j2) rfl ?_
      have hPc := hP.sub (ws' := [(a 1, .inr (0, [.int (P2 0 1), .ref (a 10), .ref (a 11), .ref (a 12), .ref (a 13)])), (a 11, .inl (cI, 6, .inl (P2 11)))]) [1, 8] rfl
      have hDc := hD.sub (ws' := [(a 1, .inr (0, [.int (P2 0 1), .ref (a 10), .ref (a 11), .ref (a 12), .ref (a 13)])), (a 11, .inl (cI, 6, .inl (P2 11)))]) [1, 8] (by decide) rfl
      refine vp_callSi (W.runV (As := [.int (P2 40 j2)]) (rest := [.int (P2 42 j2), .int (P2 70 0), .int 0, .ref (a 70)]) ⟨hx, hb, hml, hown, hts⟩ (c_priceOf l D cI cZ cJ lo H.size a P2 (P2 40 j2) (hkP2.W hw)) (cwV 1 hts gX6_countHolding_X0_priceOf rfl rfl rfl (by decide +kernel) ⟨(Nat.le_of_ble_eq_true rfl), (Nat.le_of_ble_eq_true rfl)⟩) ⟨Pre.blind, va_recv hK hP (ci := 0) (q0 := 1) rfl rfl, Pre.mk hPc (hDc.weaken (fun _ _ _ h => hAlo _ h)) hC hS hAlo⟩ rfl rfl hl.1 rfl (lv_room (Nat.le_of_ble_eq_true rfl)) dX6_countHolding_42 ⟨(Nat.le_of_ble_eq_true rfl), (Nat.le_of_ble_eq_true rfl)⟩) (fun r_2 e_3 => ?_)
      clear hPc hDc
      have e_3 : sg_priceOf P2 (P2 40 j2) = r_2 := Eq.symm e_3
      subst e_3
      refine lv_imul hx hb dX6_countHolding_45 ?_
      refine lv_iadd hx hb dX6_countHolding_46 ?_
      refine sg_iast hx hb hK hP hD hS 39 0 rfl rfl (j := 0) (by decide) (Nat.le_of_ble_eq_true rfl) (Nat.le_of_ble_eq_true rfl) dX6_countHolding_47 (fun H locs hP hD hS => ?_)
      replace hP : va_P D vwCl (sg_St cI cZ a (sg_up P2 70 0 ((P2 70 0) + ((P2 42 j2) * (sg_priceOf P2 (P2 40 j2))))) q) H := hP
      replace hD : va_D A (sg_St cI cZ a (sg_up P2 70 0 ((P2 70 0) + ((P2 42 j2) * (sg_priceOf P2 (P2 40 j2))))) q) := hD
      refine lv_iinc (v := nI (j2 + 1)) (lv' := [(1, .int (nI (j2 + 1))), (0, .ref (a 0))]) hx hb dX6_countHolding_48 hl (k := 0) rfl (nI_1 j2) (by decide) rfl (fun ls hl => ?_)
      refine lv_goto (tgt := 2) hx hb dX6_countHolding_51 (by decide) ?_
      have hl8 := hl; have hS8 := hS; have hD8 := hD; have hP8 := hP
      subst hP2
      exact ih2 (j2 + 1) (sg_up (sg_countHolding_2 P j2) 70 0 (((sg_countHolding_2 P j2) 70 0) + (((sg_countHolding_2 P j2) 42 j2) * (sg_priceOf (sg_countHolding_2 P j2) ((sg_countHolding_2 P j2) 40 j2))))) _ _ _ rfl (by omega) (by omega) (lv_sub hl8 [0, 1] rfl) hS8 hD8 hP8

def sg_serveDueOrders_2 (P : sg_Pic) : Nat → sg_Pic
  | 0 => P
  | j2 + 1 => (if ((sg_serveDueOrders_2 P j2) 57 j2) = 0 then (if ((sg_serveDueOrders_2 P j2) 0 0) < ((sg_serveDueOrders_2 P j2) 54 j2) then (sg_serveDueOrders_2 P j2) else (if (sg_missing (sg_serveDueOrders_2 P j2) j2) = 0 then (sg_shipOrder (sg_serveDueOrders_2 P j2) j2) else (sg_up (sg_serveDueOrders_2 P j2) 70 2 (((sg_serveDueOrders_2 P j2) 70 2) + (sg_missing (sg_serveDueOrders_2 P j2) j2))))) else (sg_serveDueOrders_2 P j2))
theorem sg_serveDueOrders_2_K (P : sg_Pic) : ∀ j : Nat, sg_K (sg_serveDueOrders_2 P j) P
  | 0 => by exact ⟨rfl, rfl⟩
  | j + 1 => by
    have h := sg_serveDueOrders_2_K P j
    rw [sg_serveDueOrders_2]
    repeat' split
    all_goals first | exact h | (refine sg_K.trans ?_ h; exact ⟨rfl, rfl⟩) | (refine sg_K.trans ?_ h; exact sg_shipOrder_K _ _)

def sg_serveDueOrders (P : sg_Pic) : sg_Pic := (sg_serveDueOrders_2 P (sg_cn P 4))

theorem sg_serveDueOrders_K (P : sg_Pic) : sg_K (sg_serveDueOrders P) P := by
  unfold sg_serveDueOrders
  repeat' split
  all_goals first | exact ⟨rfl, rfl⟩ | exact sg_serveDueOrders_2_K _ _
theorem sg_serveDueOrders_W {P : sg_Pic} (hw : sg_W P) : sg_W (sg_serveDueOrders P) := (sg_serveDueOrders_K P).W hw

set_option maxHeartbeats 4000000 in
set_option maxRecDepth 100000 in
/-- X6_serveDueOrders -/
theorem c_serveDueOrders (l : Launch) (D : va_G) (cI cZ cJ : ClassId) (lo sz : Nat) (a : Nat → Nat) (P : sg_Pic) (q : Nat → Int32) (hw : sg_W P) : Met l yX6_serveDueOrders wsX6_serveDueOrders ({ frames := 3, cells := 0, slots := 0, locals := 65 }) (Pre lo D cI cZ cJ [.ref (a 0)] sz (sg_St cI cZ a P q)) (va_Qv (fun _ : Unit => True) (fun _ t => va_P D vwCl (sg_St cI cZ a (sg_serveDueOrders P) q) t.heap ∧ va_D (va_A (sg_St cI cZ a P q) sz) (sg_St cI cZ a (sg_serveDueOrders P) q)) (va_A (sg_St cI cZ a P q) sz)) 0 0 (va_A (sg_St cI cZ a P q) sz) := by
  refine Met.ofW (cc := cX6_serveDueOrders) (maxL := 2) (ret := none) (by decide) rfl ?_
  intro p e s m args below meth c s₁ B hml hv
  obtain ⟨rfl, hsz, hP, hD0, hC⟩ := hv
  have hx := B.exec
  have hb := B.bytes
  have hr := B.returns
  have hts := atoms_spec (ws := wsX6_serveDueOrders) B.pre
  have hown : s.vm.findClass RX6 = some m.cls := findClass_of_methodNamed B.named
  have hlocks := B.notSynchronized
  subst hsz
  have hn1 : sg_cn P 1 ≤ 6 := hw.n1
  have hn2 : sg_cn P 2 ≤ 5 := hw.n2
  have hn3 : sg_cn P 3 ≤ 200 := hw.n3
  have hn4 : sg_cn P 4 ≤ 60 := hw.n4
  have hn5 : sg_cn P 5 ≤ 90 := hw.n5
  have hK := hC.K
  have hD := hD0.self (sz := s.heap.size)
  have hAlo0 := va_A_lo hD0 hC.1
  generalize hAe : va_A (sg_St cI cZ a P q) s.heap.size = A at hD hAlo0 ⊢
  have hA : ∀ q : Nat, s.heap.size ≤ q → A q := fun q h => by rw [← hAe]; exact Or.inr h
  have hAlo : ∀ q, A q → lo ≤ q := hAlo0
  have hS : va_S A s.heap s.heap [] := va_S.rf
  have hP : va_P D vwCl (sg_St cI cZ a P q) s.heap := hP
  have hl := lv_entry ([.ref (a 0)]) (n := 2) (Nat.le_of_ble_eq_true rfl)
  rw [lg_entry_eq]
  generalize (lg_sl ([.ref (a 0)]) ++ List.replicate (2 - (lg_sl ([.ref (a 0)])).length) Slot.unset).toArray = ls at hl ⊢
  have hl : lv_has ls 2 [(0, .ref (a 0))] := hl
  have in2 : ∀ w ∈ u_ws RX2 TX2 11, w ∈ wsX6_serveDueOrders := by decide +kernel
  have in6 : ∀ w ∈ u_ws RX6 TX6 9, w ∈ wsX6_serveDueOrders := by decide +kernel
  refine lv_iconst (v := 0) hx hb dX6_serveDueOrders_0 (by decide) ?_
  refine lv_istore_n (lv' := [(1, .int 0), (0, .ref (a 0))]) hx hb dX6_serveDueOrders_1 rfl hl (by decide) rfl (fun ls hl => ?_)
  obtain ⟨H, hH9⟩ : ∃ z : Heap, z = s.heap := ⟨_, rfl⟩
  replace hS : va_S A s.heap H [] := by rw [hH9]; exact va_S.rf
  replace hP : va_P D vwCl (sg_St cI cZ a P q) H := by rw [hH9]; exact hP
  rw [← hH9]
  clear hH9
  generalize ([] : List Loc) = locs at hS ⊢
  obtain ⟨j2, h0j2⟩ : ∃ j : Nat, j = 0 := ⟨_, rfl⟩
  obtain ⟨P2, hP2⟩ : ∃ z9 : sg_Pic, z9 = sg_serveDueOrders_2 P j2 := ⟨_, rfl⟩
  replace hl : lv_has ls 2 [(1, .int (nI j2)), (0, .ref (a 0))] := by rw [h0j2]; exact hl
  replace hP : va_P D vwCl (sg_St cI cZ a P2 q) H := by rw [hP2, h0j2]; exact hP
  replace hD : va_D A (sg_St cI cZ a P2 q) := by rw [hP2, h0j2]; exact hD
  have hjj2 : j2 ≤ sg_cn P 4 := by omega
  clear h0j2
  obtain ⟨n2, hn2⟩ : ∃ n : Nat, sg_cn P 4 < j2 + n := ⟨sg_cn P 4 + 1, by omega⟩
  revert hP
  revert hD
  revert hS
  revert hl
  revert hn2
  revert hjj2
  revert hP2
  revert ls
  revert locs
  revert H
  revert P2
  revert j2
  induction n2 with
  | zero =>
    intro j2 P2 H locs ls hP2 hjj2 hn2 hl hS hD hP
    exact absurd hn2 (by omega)
  | succ n2 ih2 =>
    intro j2 P2 H locs ls hP2 hjj2 hn2 hl hS hD hP
    refine lv_iload_n hx hb dX6_serveDueOrders_2 rfl (lv_at hl 0 rfl) ?_
    refine lv_aload_n hx hb dX6_serveDueOrders_3 rfl (lv_at hl 1 rfl) ?_
    refine va_get (D := D) (ci := 6) (v := .ref (a 5)) (C := RX6) (T := TX6) (N := 9) hx hb hts in6 hown hK hP 0 rfl rfl 5 (by decide) (hts (.fieldLink RX6 42 "Granary$Stock" "orders" "LGranary$Orders;") (by decide +kernel)) (fun _ h9 => h9) rfl dX6_serveDueOrders_4 ?_
    refine va_get (D := D) (ci := 2) (v := .int (P2 0 4)) (C := RX2) (T := TX2) (N := 11) hx hb hts in2 hown hK hP 5 rfl rfl 0 (by decide) (hts (.fieldLink RX6 188 "Granary$Orders" "count" "I") (by decide +kernel)) (fun _ h9 => h9) rfl dX6_serveDueOrders_7 ?_
    have hkP2 : sg_K P2 P := by rw [hP2]; exact sg_serveDueOrders_2_K P j2
    have hB2 : ((P2 0 4) : Int32) = nI (sg_cn P 4) := ((hkP2.e 4).trans hw.e4)
    refine lv_icmp_ge (tgt := 83) hx hb dX6_serveDueOrders_10 (by decide) (fun c_1 => ?_) (fun c_1 => ?_)
    · have hE2 : sg_cn P 4 = j2 := (sg_eq hB2 c_1 hjj2 (by omega)).symm
      clear ih2 hn2
      subst hE2
      subst hP2
      refine W.widen (k := 0) (n := 0) (by omega) (by omega) ?_
      have hP9 : va_P D vwCl (sg_St cI cZ a (sg_serveDueOrders P) q) H := by exact hP
      have hD9 : va_D A (sg_St cI cZ a (sg_serveDueOrders P) q) := by exact hD
      exact W.vret hx hb hr (fun t ht hW => ⟨⟨(), rfl, trivial, by rw [ht]; exact hP9, hD9⟩, hS.F ht⟩) hS.2.2 dX6_serveDueOrders_83
    · have hL2 : j2 < sg_cn P 4 := sg_lt hB2 c_1 (by omega)
      refine lv_aload_n hx hb dX6_serveDueOrders_13 rfl (lv_at hl 1 rfl) ?_
      refine va_get (D := D) (ci := 6) (v := .ref (a 5)) (C := RX6) (T := TX6) (N := 9) hx hb hts in6 hown hK hP 0 rfl rfl 5 (by decide) (hts (.fieldLink RX6 42 "Granary$Stock" "orders" "LGranary$Orders;") (by decide +kernel)) (fun _ h9 => h9) rfl dX6_serveDueOrders_14 ?_
      refine va_get (D := D) (ci := 2) (v := .ref (a 57)) (C := RX2) (T := TX2) (N := 11) hx hb hts in2 hown hK hP 5 rfl rfl 8 (by decide) (hts (.fieldLink RX6 189 "Granary$Orders" "state" "[I") (by decide +kernel)) (fun _ h9 => h9) rfl dX6_serveDueOrders_17 ?_
      refine lv_iload_n hx hb dX6_serveDueOrders_20 rfl (lv_at hl 0 rfl) ?_
      refine sg_iald hx hb hK hP 30 0 rfl rfl (j := j2) rfl (by omega) (Nat.le_of_ble_eq_true rfl) dX6_serveDueOrders_21 ?_
      refine lv_toi (y := P2 57 j2) rfl ?_
      refine lv_if_ne (tgt := 77) hx hb dX6_serveDueOrders_22 (by decide) (fun c_2 => ?_) (fun c_2 => ?_)
      · refine lv_iinc (v := nI (j2 + 1)) (lv' := [(1, .int (nI (j2 + 1))), (0, .ref (a 0))]) hx hb dX6_serveDueOrders_77 hl (k := 0) rfl (nI_1 j2) (by decide) rfl (fun ls hl => ?_)
        refine lv_goto (tgt := 2) hx hb dX6_serveDueOrders_80 (by decide) ?_
        have hl8 := hl; have hS8 := hS; have hD8 := hD; have hP8 := hP
        subst hP2
        exact ih2 (j2 + 1) (sg_serveDueOrders_2 P j2) _ _ _ (show ((sg_serveDueOrders_2 P j2) : sg_Pic) = sg_serveDueOrders_2 P (j2 + 1) from by rw [sg_serveDueOrders_2, if_neg c_2]) (by omega) (by omega) (lv_sub hl8 [0, 1] rfl) hS8 hD8 hP8
      · refine lv_aload_n hx hb dX6_serveDueOrders_25 rfl (lv_at hl 1 rfl) ?_
        refine va_get (D := D) (ci := 6) (v := .ref (a 5)) (C := RX6) (T := TX6) (N := 9) hx hb hts in6 hown hK hP 0 rfl rfl 5 (by decide) (hts (.fieldLink RX6 42 "Granary$Stock" "orders" "LGranary$Orders;") (by decide +kernel)) (fun _ h9 => h9) rfl dX6_serveDueOrders_26 ?_
        refine va_get (D := D) (ci := 2) (v := .ref (a 54)) (C := RX2) (T := TX2) (N := 11) hx hb hts in2 hown hK hP 5 rfl rfl 5 (by decide) (hts (.fieldLink RX6 158 "Granary$Orders" "due" "[I") (by decide +kernel)) (fun _ h9 => h9) rfl dX6_serveDueOrders_29 ?_
        refine lv_iload_n hx hb dX6_serveDueOrders_32 rfl (lv_at hl 0 rfl) ?_
        refine sg_iald hx hb hK hP 27 0 rfl rfl (j := j2) rfl (by omega) (Nat.le_of_ble_eq_true rfl) dX6_serveDueOrders_33 ?_
        refine lv_toi (y := P2 54 j2) rfl ?_
        refine lv_aload_n hx hb dX6_serveDueOrders_34 rfl (lv_at hl 1 rfl) ?_
        refine va_get (D := D) (ci := 6) (v := .int (P2 0 0)) (C := RX6) (T := TX6) (N := 9) hx hb hts in6 hown hK hP 0 rfl rfl 0 (by decide) (hts (.fieldLink RX6 60 "Granary$Stock" "day" "I") (by decide +kernel)) (fun _ h9 => h9) rfl dX6_serveDueOrders_35 ?_
        refine lv_icmp_gt (tgt := 77) hx hb dX6_serveDueOrders_38 (by decide) (fun c_3 => ?_) (fun c_3 => ?_)
        · refine lv_iinc (v := nI (j2 + 1)) (lv' := [(1, .int (nI (j2 + 1))), (0, .ref (a 0))]) hx hb dX6_serveDueOrders_77 hl (k := 0) rfl (nI_1 j2) (by decide) rfl (fun ls hl => ?_)
          refine lv_goto (tgt := 2) hx hb dX6_serveDueOrders_80 (by decide) ?_
          have hl8 := hl; have hS8 := hS; have hD8 := hD; have hP8 := hP
          subst hP2
          exact ih2 (j2 + 1) (sg_serveDueOrders_2 P j2) _ _ _ (show ((sg_serveDueOrders_2 P j2) : sg_Pic) = sg_serveDueOrders_2 P (j2 + 1) from by rw [sg_serveDueOrders_2, if_pos c_2, if_pos c_3]) (by omega) (by omega) (lv_sub hl8 [0, 1] rfl) hS8 hD8 hP8
        · refine lv_aload_n hx hb dX6_serveDueOrders_41 rfl (lv_at hl 1 rfl) ?_
          refine va_get (D := D) (ci := 6) (v := .ref (a 5)) (C := RX6) (T := TX6) (N := 9) hx hb hts in6 hown hK hP 0 rfl rfl 5 (by decide) (hts (.fieldLink RX6 42 "Granary$Stock" "orders" "LGranary$Orders;") (by decide +kernel)) (fun _ h9 => h9) rfl dX6_serveDueOrders_42 ?_
          refine lv_iload_n hx hb dX6_serveDueOrders_45 rfl (lv_at hl 0 rfl) ?_
          have hPc := hP.sub (ws' := [(a 5, .inr (2, [.int (P2 0 4), .ref (a 50), .ref (a 51), .ref (a 52), .ref (a 53), .ref (a 54), .ref (a 55), .ref (a 56), .ref (a 57), .ref (a 58), .ref (a 59)])), (a 52, .inl (cI, 60, .inl (P2 52))), (a 53, .inl (cI, 60, .inl (P2 53)))]) [5, 25, 26] rfl
          have hDc := hD.sub (ws' := [(a 5, .inr (2, [.int (P2 0 4), .ref (a 50), .ref (a 51), .ref (a 52), .ref (a 53), .ref (a 54), .ref (a 55), .ref (a 56), .ref (a 57), .ref (a 58), .ref (a 59)])), (a 52, .inl (cI, 60, .inl (P2 52))), (a 53, .inl (cI, 60, .inl (P2 53)))]) [5, 25, 26] (by decide) rfl
          refine vp_callSi (W.runV (As := [.int (nI j2)]) (rest := []) ⟨hx, hb, hml, hown, hts⟩ (c_missing l D cI cZ cJ lo H.size a P2 j2 (by omega)) (cwV 1 hts gX6_serveDueOrders_X2_missing rfl rfl rfl (by decide +kernel) ⟨(Nat.le_of_ble_eq_true rfl), (Nat.le_of_ble_eq_true rfl)⟩) ⟨Pre.blind, va_recv hK hP (ci := 2) (q0 := 5) rfl rfl, Pre.mk hPc (hDc.weaken (fun _ _ _ h => hAlo _ h)) hC hS hAlo⟩ rfl rfl hl.1 rfl (lv_room (Nat.le_of_ble_eq_true rfl)) dX6_serveDueOrders_46 ⟨(Nat.le_of_ble_eq_true rfl), (Nat.le_of_ble_eq_true rfl)⟩) (fun r_4 e_5 => ?_)
          clear hPc hDc
          have e_5 : sg_missing P2 j2 = r_4 := Eq.symm e_5
          subst e_5
          refine lv_if_ne (tgt := 60) hx hb dX6_serveDueOrders_49 (by decide) (fun c_6 => ?_) (fun c_6 => ?_)
          · refine lv_aload_n hx hb dX6_serveDueOrders_60 rfl (lv_at hl 1 rfl) ?_
            refine va_get (D := D) (ci := 6) (v := .ref (a 70)) (C := RX6) (T := TX6) (N := 9) hx hb hts in6 hown hK hP 0 rfl rfl 7 (by decide) (hts (.fieldLink RX6 53 "Granary$Stock" "account" "[I") (by decide +kernel)) (fun _ h9 => h9) rfl dX6_serveDueOrders_61 ?_
            refine lv_iconst (v := 2) hx hb dX6_serveDueOrders_64 (by decide) ?_
            refine lv_dup2_11 hx hb dX6_serveDueOrders_65 rfl rfl ?_
            refine sg_iald hx hb hK hP 39 0 rfl rfl (j := 2) (by decide) (Nat.le_of_ble_eq_true rfl) (Nat.le_of_ble_eq_true rfl) dX6_serveDueOrders_66 ?_
            refine lv_toi (y := P2 70 2) rfl ?_
            refine lv_aload_n hx hb dX6_serveDueOrders_67 rfl (lv_at hl 1 rfl) ?_
            refine va_get (D := D) (ci := 6) (v := .ref (a 5)) (C := RX6) (T := TX6) (N := 9) hx hb hts in6 hown hK hP 0 rfl rfl 5 (by decide) (hts (.fieldLink RX6 42 "Granary$Stock" "orders" "LGranary$Orders;") (by decide +kernel)) (fun _ h9 => h9) rfl dX6_serveDueOrders_68 ?_
            refine lv_iload_n hx hb dX6_serveDueOrders_71 rfl (lv_at hl 0 rfl) ?_
            have hPc := hP.sub (ws' := [(a 5, .inr (2, [.int (P2 0 4), .ref (a 50), .ref (a 51), .ref (a 52), .ref (a 53), .ref (a 54), .ref (a 55), .ref (a 56), .ref (a 57), .ref (a 58), .ref (a 59)])), (a 52, .inl (cI, 60, .inl (P2 52))), (a 53, .inl (cI, 60, .inl (P2 53)))]) [5, 25, 26] rfl
            have hDc := hD.sub (ws' := [(a 5, .inr (2, [.int (P2 0 4), .ref (a 50), .ref (a 51), .ref (a 52), .ref (a 53), .ref (a 54), .ref (a 55), .ref (a 56), .ref (a 57), .ref (a 58), .ref (a 59)])), (a 52, .inl (cI, 60, .inl (P2 52))), (a 53, .inl (cI, 60, .inl (P2 53)))]) [5, 25, 26] (by decide) rfl
            refine vp_callSi (W.runV (As := [.int (nI j2)]) (rest := [.int (P2 70 2), .int 2, .ref (a 70)]) ⟨hx, hb, hml, hown, hts⟩ (c_missing l D cI cZ cJ lo H.size a P2 j2 (by omega)) (cwV 1 hts gX6_serveDueOrders_X2_missing rfl rfl rfl (by decide +kernel) ⟨(Nat.le_of_ble_eq_true rfl), (Nat.le_of_ble_eq_true rfl)⟩) ⟨Pre.blind, va_recv hK hP (ci := 2) (q0 := 5) rfl rfl, Pre.mk hPc (hDc.weaken (fun _ _ _ h => hAlo _ h)) hC hS hAlo⟩ rfl rfl hl.1 rfl (lv_room (Nat.le_of_ble_eq_true rfl)) dX6_serveDueOrders_72 ⟨(Nat.le_of_ble_eq_true rfl), (Nat.le_of_ble_eq_true rfl)⟩) (fun r_7 e_8 => ?_)
            clear hPc hDc
            have e_8 : sg_missing P2 j2 = r_7 := Eq.symm e_8
            subst e_8
            refine lv_iadd hx hb dX6_serveDueOrders_75 ?_
            refine sg_iast hx hb hK hP hD hS 39 0 rfl rfl (j := 2) (by decide) (Nat.le_of_ble_eq_true rfl) (Nat.le_of_ble_eq_true rfl) dX6_serveDueOrders_76 (fun H locs hP hD hS => ?_)
            replace hP : va_P D vwCl (sg_St cI cZ a (sg_up P2 70 2 ((P2 70 2) + (sg_missing P2 j2))) q) H := hP
            replace hD : va_D A (sg_St cI cZ a (sg_up P2 70 2 ((P2 70 2) + (sg_missing P2 j2))) q) := hD
            refine lv_iinc (v := nI (j2 + 1)) (lv' := [(1, .int (nI (j2 + 1))), (0, .ref (a 0))]) hx hb dX6_serveDueOrders_77 hl (k := 0) rfl (nI_1 j2) (by decide) rfl (fun ls hl => ?_)
            refine lv_goto (tgt := 2) hx hb dX6_serveDueOrders_80 (by decide) ?_
            have hl8 := hl; have hS8 := hS; have hD8 := hD; have hP8 := hP
            subst hP2
            exact ih2 (j2 + 1) (sg_up (sg_serveDueOrders_2 P j2) 70 2 (((sg_serveDueOrders_2 P j2) 70 2) + (sg_missing (sg_serveDueOrders_2 P j2) j2))) _ _ _ (show (sg_up (sg_serveDueOrders_2 P j2) 70 2 (((sg_serveDueOrders_2 P j2) 70 2) + (sg_missing (sg_serveDueOrders_2 P j2) j2)) : sg_Pic) = sg_serveDueOrders_2 P (j2 + 1) from by rw [sg_serveDueOrders_2, if_pos c_2, if_neg c_3, if_neg c_6]) (by omega) (by omega) (lv_sub hl8 [0, 1] rfl) hS8 hD8 hP8
          · refine lv_aload_n hx hb dX6_serveDueOrders_52 rfl (lv_at hl 1 rfl) ?_
            refine lv_iload_n hx hb dX6_serveDueOrders_53 rfl (lv_at hl 0 rfl) ?_
            have hPc : va_P D vwCl (sg_St cI cZ a P2 q) H := hP
            have hDc : va_D A (sg_St cI cZ a P2 q) := hD
            have hFc := va_free (wc := (sg_St cI cZ a P2 q)) hD hS hA [0, 1, 2, 3, 4, 5, 6, 7, 8, 9, 10, 11, 12, 13, 14, 15, 16, 17, 18, 19, 20, 21, 22, 23, 24, 25, 26, 27, 28, 29, 30, 31, 32, 33, 34, 35, 36, 37, 38, 39, 40] rfl
            refine va_callv (va_runV (As := [.int (nI j2)]) (rest := []) ⟨hx, hb, hml, hown, hts⟩ (c_shipOrder l D cI cZ cJ lo H.size a P2 q j2 (hkP2.W hw) (by omega)) (cwV 1 hts gX6_serveDueOrders_X6_shipOrder rfl rfl rfl (by decide +kernel) ⟨(Nat.le_of_ble_eq_true rfl), (Nat.le_of_ble_eq_true rfl)⟩) ⟨Pre.blind, va_recv hK hP (ci := 6) (q0 := 0) rfl rfl, Pre.mk hPc (hDc.weaken (fun _ _ _ h => hAlo _ h)) hC hS hAlo⟩ rfl rfl hl.1 rfl (lv_room (Nat.le_of_ble_eq_true rfl)) dX6_serveDueOrders_54 ⟨(Nat.le_of_ble_eq_true rfl), (Nat.le_of_ble_eq_true rfl)⟩) hS (fun q _ h => hFc q h) hFc (fun u t H1 locs1 ht hvm e_9 hB hz1 hk1 hS1 => ?_)
            have hS := hS1
            obtain ⟨hP1, hD1⟩ := hB
            rw [ht] at hP1
            obtain ⟨hP, hD⟩ := va_join (wr := []) (w1 := (sg_St cI cZ a (sg_shipOrder P2 j2) q)) hP hD [0, 1, 2, 3, 4, 5, 6, 7, 8, 9, 10, 11, 12, 13, 14, 15, 16, 17, 18, 19, 20, 21, 22, 23, 24, 25, 26, 27, 28, 29, 30, 31, 32, 33, 34, 35, 36, 37, 38, 39, 40] [] rfl rfl (by decide) (by decide) hk1 hFc hP1 hD1
            have e_9 : True := e_9
            clear hFc hPc hDc ht hvm hz1 hk1 hS1 hP1 hD1
            generalize H1 = H at hP hS ⊢
            replace hP : va_P D vwCl (sg_St cI cZ a (sg_shipOrder P2 j2) q) H := hP
            replace hD : va_D A (sg_St cI cZ a (sg_shipOrder P2 j2) q) := hD
            refine lv_goto (tgt := 77) hx hb dX6_serveDueOrders_57 (by decide) ?_
            refine lv_iinc (v := nI (j2 + 1)) (lv' := [(1, .int (nI (j2 + 1))), (0, .ref (a 0))]) hx hb dX6_serveDueOrders_77 hl (k := 0) rfl (nI_1 j2) (by decide) rfl (fun ls hl => ?_)
            refine lv_goto (tgt := 2) hx hb dX6_serveDueOrders_80 (by decide) ?_
            have hl8 := hl; have hS8 := hS; have hD8 := hD; have hP8 := hP
            subst hP2
            exact ih2 (j2 + 1) (sg_shipOrder (sg_serveDueOrders_2 P j2) j2) _ _ _ (show (sg_shipOrder (sg_serveDueOrders_2 P j2) j2 : sg_Pic) = sg_serveDueOrders_2 P (j2 + 1) from by rw [sg_serveDueOrders_2, if_pos c_2, if_neg c_3, if_pos c_6]) (by omega) (by omega) (lv_sub hl8 [0, 1] rfl) hS8 hD8 hP8

def sg_takeIn (P : sg_Pic) (xl : Nat) : sg_Pic := (if (P 64 xl) < (P 0 0) then (sg_waste (sg_up P 65 xl 0) (P 60 xl) ((P 62 xl) - 0)) else (if (P 0 3) < 200 then (if (if (sg_roomAt (sg_up P 65 xl 0) (P 61 xl)) < (P 62 xl) then (sg_roomAt (sg_up P 65 xl 0) (P 61 xl)) else (P 62 xl)) ≤ 0 then (sg_waste (sg_up P 65 xl 0) (P 60 xl) ((P 62 xl) - (if (sg_roomAt (sg_up P 65 xl 0) (P 61 xl)) < (P 62 xl) then (sg_roomAt (sg_up P 65 xl 0) (P 61 xl)) else (P 62 xl)))) else (sg_waste (sg_ladd (sg_up P 65 xl 0) (P 60 xl) (P 61 xl) (if (sg_roomAt (sg_up P 65 xl 0) (P 61 xl)) < (P 62 xl) then (sg_roomAt (sg_up P 65 xl 0) (P 61 xl)) else (P 62 xl)) (P 64 xl)) (P 60 xl) (((sg_ladd (sg_up P 65 xl 0) (P 60 xl) (P 61 xl) (if (sg_roomAt (sg_up P 65 xl 0) (P 61 xl)) < (P 62 xl) then (sg_roomAt (sg_up P 65 xl 0) (P 61 xl)) else (P 62 xl)) (P 64 xl)) 62 xl) - (if (sg_roomAt (sg_up P 65 xl 0) (P 61 xl)) < (P 62 xl) then (sg_roomAt (sg_up P 65 xl 0) (P 61 xl)) else (P 62 xl))))) else (sg_waste (sg_up P 65 xl 0) (P 60 xl) ((P 62 xl) - 0))))

theorem sg_takeIn_K (P : sg_Pic) (xl : Nat) : sg_K3 (sg_takeIn P xl) P := by
  unfold sg_takeIn
  repeat' split
  all_goals first | exact sg_K3.of ⟨rfl, rfl⟩ | exact sg_K3.of (sg_K.trans (sg_waste_K _ _ _) ⟨rfl, rfl⟩) | exact sg_K3.trans (sg_K3.of (sg_waste_K _ _ _)) (sg_K3.trans (sg_ladd_K _ _ _ _ _) (sg_K3.of ⟨rfl, rfl⟩))
theorem sg_takeIn_W {P : sg_Pic} {xl : Nat} (hw : sg_W P) : sg_W (sg_takeIn P xl) := (sg_takeIn_K P xl).W hw

set_option maxHeartbeats 4000000 in
set_option maxRecDepth 100000 in
/-- X6_takeIn -/
theorem c_takeIn (l : Launch) (D : va_G) (cI cZ cJ : ClassId) (lo sz : Nat) (a : Nat → Nat) (P : sg_Pic) (q : Nat → Int32) (xl : Nat) (hw : sg_W P) (ho : xl < 90) : Met l yX6_takeIn wsX6_takeIn ({ frames := 3, cells := 0, slots := 0, locals := 64 }) (Pre lo D cI cZ cJ [.ref (a 0), .int (nI xl)] sz (sg_St cI cZ a P q)) (va_Qv (fun _ : Unit => True) (fun _ t => va_P D vwCl (sg_St cI cZ a (sg_takeIn P xl) q) t.heap ∧ va_D (va_A (sg_St cI cZ a P q) sz) (sg_St cI cZ a (sg_takeIn P xl) q)) (va_A (sg_St cI cZ a P q) sz)) 0 0 (va_A (sg_St cI cZ a P q) sz) := by
  refine Met.ofW (cc := cX6_takeIn) (maxL := 6) (ret := none) (by decide) rfl ?_
  intro p e s m args below meth c s₁ B hml hv
  obtain ⟨rfl, hsz, hP, hD0, hC⟩ := hv
  have hx := B.exec
  have hb := B.bytes
  have hr := B.returns
  have hts := atoms_spec (ws := wsX6_takeIn) B.pre
  have hown : s.vm.findClass RX6 = some m.cls := findClass_of_methodNamed B.named
  have hlocks := B.notSynchronized
  subst hsz
  have hn1 : sg_cn P 1 ≤ 6 := hw.n1
  have hn2 : sg_cn P 2 ≤ 5 := hw.n2
  have hn3 : sg_cn P 3 ≤ 200 := hw.n3
  have hn4 : sg_cn P 4 ≤ 60 := hw.n4
  have hn5 : sg_cn P 5 ≤ 90 := hw.n5
  have hK := hC.K
  have hD := hD0.self (sz := s.heap.size)
  have hAlo0 := va_A_lo hD0 hC.1
  generalize hAe : va_A (sg_St cI cZ a P q) s.heap.size = A at hD hAlo0 ⊢
  have hA : ∀ q : Nat, s.heap.size ≤ q → A q := fun q h => by rw [← hAe]; exact Or.inr h
  have hAlo : ∀ q, A q → lo ≤ q := hAlo0
  have hS : va_S A s.heap s.heap [] := va_S.rf
  have hP : va_P D vwCl (sg_St cI cZ a P q) s.heap := hP
  have hl := lv_entry ([.ref (a 0), .int (nI xl)]) (n := 6) (Nat.le_of_ble_eq_true rfl)
  rw [lg_entry_eq]
  generalize (lg_sl ([.ref (a 0), .int (nI xl)]) ++ List.replicate (6 - (lg_sl ([.ref (a 0), .int (nI xl)])).length) Slot.unset).toArray = ls at hl ⊢
  have hl : lv_has ls 6 [(0, .ref (a 0)), (1, .int (nI xl))] := hl
  have in1 : ∀ w ∈ u_ws RX1 TX1 6, w ∈ wsX6_takeIn := by decide +kernel
  have in6 : ∀ w ∈ u_ws RX6 TX6 9, w ∈ wsX6_takeIn := by decide +kernel
  have in7 : ∀ w ∈ u_ws RX7 TX7 7, w ∈ wsX6_takeIn := by decide +kernel
  refine lv_aload_n hx hb dX6_takeIn_0 rfl (lv_at hl 0 rfl) ?_
  refine va_get (D := D) (ci := 6) (v := .ref (a 6)) (C := RX6) (T := TX6) (N := 9) hx hb hts in6 hown hK hP 0 rfl rfl 6 (by decide) (hts (.fieldLink RX6 49 "Granary$Stock" "transports" "LGranary$Transports;") (by decide +kernel)) (fun _ h9 => h9) rfl dX6_takeIn_1 ?_
  refine va_get (D := D) (ci := 7) (v := .ref (a 65)) (C := RX7) (T := TX7) (N := 7) hx hb hts in7 hown hK hP 6 rfl rfl 6 (by decide) (hts (.fieldLink RX6 266 "Granary$Transports" "moving" "[I") (by decide +kernel)) (fun _ h9 => h9) rfl dX6_takeIn_4 ?_
  refine lv_iload_n hx hb dX6_takeIn_7 rfl (lv_at hl 1 rfl) ?_
  refine lv_iconst (v := 0) hx hb dX6_takeIn_8 (by decide) ?_
  refine sg_iast hx hb hK hP hD hS 38 0 rfl rfl (j := xl) rfl (by omega) (Nat.le_of_ble_eq_true rfl) dX6_takeIn_9 (fun H locs hP hD hS => ?_)
  replace hP : va_P D vwCl (sg_St cI cZ a (sg_up P 65 xl 0) q) H := hP
  replace hD : va_D A (sg_St cI cZ a (sg_up P 65 xl 0) q) := hD
  refine lv_aload_n hx hb dX6_takeIn_10 rfl (lv_at hl 0 rfl) ?_
  refine va_get (D := D) (ci := 6) (v := .ref (a 6)) (C := RX6) (T := TX6) (N := 9) hx hb hts in6 hown hK hP 0 rfl rfl 6 (by decide) (hts (.fieldLink RX6 49 "Granary$Stock" "transports" "LGranary$Transports;") (by decide +kernel)) (fun _ h9 => h9) rfl dX6_takeIn_11 ?_
  refine va_get (D := D) (ci := 7) (v := .ref (a 60)) (C := RX7) (T := TX7) (N := 7) hx hb hts in7 hown hK hP 6 rfl rfl 1 (by decide) (hts (.fieldLink RX6 275 "Granary$Transports" "item" "[I") (by decide +kernel)) (fun _ h9 => h9) rfl dX6_takeIn_14 ?_
  refine lv_iload_n hx hb dX6_takeIn_17 rfl (lv_at hl 1 rfl) ?_
  refine sg_iald hx hb hK hP 33 0 rfl rfl (j := xl) rfl (by omega) (Nat.le_of_ble_eq_true rfl) dX6_takeIn_18 ?_
  refine lv_toi (y := P 60 xl) rfl ?_
  refine lv_istore_n (lv' := [(2, .int (P 60 xl)), (0, .ref (a 0)), (1, .int (nI xl))]) hx hb dX6_takeIn_19 rfl hl (by decide) rfl (fun ls hl => ?_)
  refine lv_aload_n hx hb dX6_takeIn_20 rfl (lv_at hl 1 rfl) ?_
  refine va_get (D := D) (ci := 6) (v := .ref (a 6)) (C := RX6) (T := TX6) (N := 9) hx hb hts in6 hown hK hP 0 rfl rfl 6 (by decide) (hts (.fieldLink RX6 49 "Granary$Stock" "transports" "LGranary$Transports;") (by decide +kernel)) (fun _ h9 => h9) rfl dX6_takeIn_21 ?_
  refine va_get (D := D) (ci := 7) (v := .ref (a 61)) (C := RX7) (T := TX7) (N := 7) hx hb hts in7 hown hK hP 6 rfl rfl 2 (by decide) (hts (.fieldLink RX6 276 "Granary$Transports" "site" "[I") (by decide +kernel)) (fun _ h9 => h9) rfl dX6_takeIn_24 ?_
  refine lv_iload_n hx hb dX6_takeIn_27 rfl (lv_at hl 2 rfl) ?_
  refine sg_iald hx hb hK hP 34 0 rfl rfl (j := xl) rfl (by omega) (Nat.le_of_ble_eq_true rfl) dX6_takeIn_28 ?_
  refine lv_toi (y := P 61 xl) rfl ?_
  refine lv_istore_n (lv' := [(3, .int (P 61 xl)), (2, .int (P 60 xl)), (0, .ref (a 0)), (1, .int (nI xl))]) hx hb dX6_takeIn_29 rfl hl (by decide) rfl (fun ls hl => ?_)
  refine lv_aload_n hx hb dX6_takeIn_30 rfl (lv_at hl 2 rfl) ?_
  refine va_get (D := D) (ci := 6) (v := .ref (a 6)) (C := RX6) (T := TX6) (N := 9) hx hb hts in6 hown hK hP 0 rfl rfl 6 (by decide) (hts (.fieldLink RX6 49 "Granary$Stock" "transports" "LGranary$Transports;") (by decide +kernel)) (fun _ h9 => h9) rfl dX6_takeIn_31 ?_
  refine va_get (D := D) (ci := 7) (v := .ref (a 64)) (C := RX7) (T := TX7) (N := 7) hx hb hts in7 hown hK hP 6 rfl rfl 5 (by decide) (hts (.fieldLink RX6 277 "Granary$Transports" "last" "[I") (by decide +kernel)) (fun _ h9 => h9) rfl dX6_takeIn_34 ?_
  refine lv_iload_n hx hb dX6_takeIn_37 rfl (lv_at hl 3 rfl) ?_
  refine sg_iald hx hb hK hP 37 0 rfl rfl (j := xl) rfl (by omega) (Nat.le_of_ble_eq_true rfl) dX6_takeIn_38 ?_
  refine lv_toi (y := P 64 xl) rfl ?_
  refine lv_istore (lv' := [(4, .int (P 64 xl)), (3, .int (P 61 xl)), (2, .int (P 60 xl)), (0, .ref (a 0)), (1, .int (nI xl))]) hx hb dX6_takeIn_39 hl (by decide) rfl (fun ls hl => ?_)
  refine lv_aload_n hx hb dX6_takeIn_41 rfl (lv_at hl 3 rfl) ?_
  refine va_get (D := D) (ci := 6) (v := .ref (a 6)) (C := RX6) (T := TX6) (N := 9) hx hb hts in6 hown hK hP 0 rfl rfl 6 (by decide) (hts (.fieldLink RX6 49 "Granary$Stock" "transports" "LGranary$Transports;") (by decide +kernel)) (fun _ h9 => h9) rfl dX6_takeIn_42 ?_
  refine va_get (D := D) (ci := 7) (v := .ref (a 62)) (C := RX7) (T := TX7) (N := 7) hx hb hts in7 hown hK hP 6 rfl rfl 3 (by decide) (hts (.fieldLink RX6 278 "Granary$Transports" "units" "[I") (by decide +kernel)) (fun _ h9 => h9) rfl dX6_takeIn_45 ?_
  refine lv_iload_n hx hb dX6_takeIn_48 rfl (lv_at hl 4 rfl) ?_
  refine sg_iald hx hb hK hP 35 0 rfl rfl (j := xl) rfl (by omega) (Nat.le_of_ble_eq_true rfl) dX6_takeIn_49 ?_
  refine lv_toi (y := P 62 xl) rfl ?_
  refine lv_aload_n hx hb dX6_takeIn_50 rfl (lv_at hl 3 rfl) ?_
  refine lv_iload_n hx hb dX6_takeIn_51 rfl (lv_at hl 1 rfl) ?_
  have hPc := hP.sub (ws' := [(a 0, .inr (6, [.int ((sg_up P 65 xl 0) 0 0), .ref (a 1), .ref (a 2), .ref (a 3), .ref (a 4), .ref (a 5), .ref (a 6), .ref (a 70), .ref (a 71)])), (a 2, .inr (5, [.int ((sg_up P 65 xl 0) 0 2), .ref (a 20), .ref (a 21)])), (a 4, .inr (1, [.int ((sg_up P 65 xl 0) 0 3), .ref (a 40), .ref (a 41), .ref (a 42), .ref (a 43), .ref (a 44)])), (a 20, .inl (cI, 5, .inl ((sg_up P 65 xl 0) 20))), (a 21, .inl (cI, 25, .inl ((sg_up P 65 xl 0) 21))), (a 40, .inl (cI, 200, .inl ((sg_up P 65 xl 0) 40))), (a 41, .inl (cI, 200, .inl ((sg_up P 65 xl 0) 41))), (a 42, .inl (cI, 200, .inl ((sg_up P 65 xl 0) 42))), (a 43, .inl (cI, 200, .inl ((sg_up P 65 xl 0) 43))), (a 44, .inl (cI, 200, .inl ((sg_up P 65 xl 0) 44)))]) [0, 2, 4, 11, 12, 18, 19, 20, 21, 22] rfl
  have hDc := hD.sub (ws' := [(a 0, .inr (6, [.int ((sg_up P 65 xl 0) 0 0), .ref (a 1), .ref (a 2), .ref (a 3), .ref (a 4), .ref (a 5), .ref (a 6), .ref (a 70), .ref (a 71)])), (a 2, .inr (5, [.int ((sg_up P 65 xl 0) 0 2), .ref (a 20), .ref (a 21)])), (a 4, .inr (1, [.int ((sg_up P 65 xl 0) 0 3), .ref (a 40), .ref (a 41), .ref (a 42), .ref (a 43), .ref (a 44)])), (a 20, .inl (cI, 5, .inl ((sg_up P 65 xl 0) 20))), (a 21, .inl (cI, 25, .inl ((sg_up P 65 xl 0) 21))), (a 40, .inl (cI, 200, .inl ((sg_up P 65 xl 0) 40))), (a 41, .inl (cI, 200, .inl ((sg_up P 65 xl 0) 41))), (a 42, .inl (cI, 200, .inl ((sg_up P 65 xl 0) 42))), (a 43, .inl (cI, 200, .inl ((sg_up P 65 xl 0) 43))), (a 44, .inl (cI, 200, .inl ((sg_up P 65 xl 0) 44)))]) [0, 2, 4, 11, 12, 18, 19, 20, 21, 22] (by decide) rfl
  refine vp_callSi (W.runV (As := [.int (P 61 xl)]) (rest := [.int (P 62 xl)]) ⟨hx, hb, hml, hown, hts⟩ (c_roomAt l D cI cZ cJ lo H.size a (sg_up P 65 xl 0) (P 61 xl) hw) (cwV 1 hts gX6_takeIn_X6_roomAt rfl rfl rfl (by decide +kernel) ⟨(Nat.le_of_ble_eq_true rfl), (Nat.le_of_ble_eq_true rfl)⟩) ⟨Pre.blind, va_recv hK hP (ci := 6) (q0 := 0) rfl rfl, Pre.mk hPc (hDc.weaken (fun _ _ _ h => hAlo _ h)) hC hS hAlo⟩ rfl rfl hl.1 rfl (lv_room (Nat.le_of_ble_eq_true rfl)) dX6_takeIn_52 ⟨(Nat.le_of_ble_eq_true rfl), (Nat.le_of_ble_eq_true rfl)⟩) (fun r_1 e_2 => ?_)
  clear hPc hDc
  have e_2 : sg_roomAt (sg_up P 65 xl 0) (P 61 xl) = r_1 := Eq.symm e_2
  subst e_2
  refine va_mmin hx hb (hml.trans hl.1.symm) hown (hts (.methodLink RX6 134 Lib.Math.min.name) (by decide +kernel)) (hts (.static Lib.Math.min.name) (by decide +kernel)) (hts (.initialized "java/lang/Math") (by decide +kernel)) (hts (.code Lib.Math.min.name Lib.Math.min.code 2 (some .int)) (by decide +kernel)) (Nat.le_of_ble_eq_true rfl) (Nat.le_of_ble_eq_true rfl) (Nat.le_of_ble_eq_true rfl) (Nat.le_of_ble_eq_true rfl) dX6_takeIn_55 ?_
  refine lv_istore (lv' := [(5, .int (if (sg_roomAt (sg_up P 65 xl 0) (P 61 xl)) < (P 62 xl) then (sg_roomAt (sg_up P 65 xl 0) (P 61 xl)) else (P 62 xl))), (4, .int (P 64 xl)), (3, .int (P 61 xl)), (2, .int (P 60 xl)), (0, .ref (a 0)), (1, .int (nI xl))]) hx hb dX6_takeIn_58 hl (by decide) rfl (fun ls hl => ?_)
  refine lv_iload hx hb dX6_takeIn_60 (lv_at hl 1 rfl) ?_
  refine lv_aload_n hx hb dX6_takeIn_62 rfl (lv_at hl 4 rfl) ?_
  refine va_get (D := D) (ci := 6) (v := .int ((sg_up P 65 xl 0) 0 0)) (C := RX6) (T := TX6) (N := 9) hx hb hts in6 hown hK hP 0 rfl rfl 0 (by decide) (hts (.fieldLink RX6 60 "Granary$Stock" "day" "I") (by decide +kernel)) (fun _ h9 => h9) rfl dX6_takeIn_63 ?_
  refine lv_toi (y := P 0 0) rfl ?_
  refine lv_icmp_lt (tgt := 82) hx hb dX6_takeIn_66 (by decide) (fun c_3 => ?_) (fun c_3 => ?_)
  · refine lv_iconst (v := 0) hx hb dX6_takeIn_82 (by decide) ?_
    refine lv_istore (lv' := [(5, .int 0), (4, .int (P 64 xl)), (3, .int (P 61 xl)), (2, .int (P 60 xl)), (0, .ref (a 0)), (1, .int (nI xl))]) hx hb dX6_takeIn_83 hl (by decide) rfl (fun ls hl => ?_)
    refine lv_iload hx hb dX6_takeIn_85 (lv_at hl 0 rfl) ?_
    refine lv_if_le (tgt := 104) hx hb dX6_takeIn_87 (by decide) (fun _ => ?_) (fun c9 => absurd (show (0 : Int32) ≤ (0 : Int32) from (by decide)) c9)
    refine lv_aload_n hx hb dX6_takeIn_104 rfl (lv_at hl 4 rfl) ?_
    refine lv_iload_n hx hb dX6_takeIn_105 rfl (lv_at hl 3 rfl) ?_
    refine lv_aload_n hx hb dX6_takeIn_106 rfl (lv_at hl 4 rfl) ?_
    refine va_get (D := D) (ci := 6) (v := .ref (a 6)) (C := RX6) (T := TX6) (N := 9) hx hb hts in6 hown hK hP 0 rfl rfl 6 (by decide) (hts (.fieldLink RX6 49 "Granary$Stock" "transports" "LGranary$Transports;") (by decide +kernel)) (fun _ h9 => h9) rfl dX6_takeIn_107 ?_
    refine va_get (D := D) (ci := 7) (v := .ref (a 62)) (C := RX7) (T := TX7) (N := 7) hx hb hts in7 hown hK hP 6 rfl rfl 3 (by decide) (hts (.fieldLink RX6 278 "Granary$Transports" "units" "[I") (by decide +kernel)) (fun _ h9 => h9) rfl dX6_takeIn_110 ?_
    refine lv_iload_n hx hb dX6_takeIn_113 rfl (lv_at hl 5 rfl) ?_
    refine sg_iald hx hb hK hP 35 0 rfl rfl (j := xl) rfl (by omega) (Nat.le_of_ble_eq_true rfl) dX6_takeIn_114 ?_
    refine lv_toi (y := P 62 xl) rfl ?_
    refine lv_iload hx hb dX6_takeIn_115 (lv_at hl 0 rfl) ?_
    refine lv_isub hx hb dX6_takeIn_117 ?_
    have hPc : va_P D vwCl (sg_St cI cZ a (sg_up P 65 xl 0) q) H := hP
    have hDc : va_D A (sg_St cI cZ a (sg_up P 65 xl 0) q) := hD
    have hFc := va_free (wc := (sg_St cI cZ a (sg_up P 65 xl 0) q)) hD hS hA [0, 1, 2, 3, 4, 5, 6, 7, 8, 9, 10, 11, 12, 13, 14, 15, 16, 17, 18, 19, 20, 21, 22, 23, 24, 25, 26, 27, 28, 29, 30, 31, 32, 33, 34, 35, 36, 37, 38, 39, 40] rfl
    refine va_callv (va_runV (As := [.int (P 60 xl), .int ((P 62 xl) - 0)]) (rest := []) ⟨hx, hb, hml, hown, hts⟩ (c_waste l D cI cZ cJ lo H.size a (sg_up P 65 xl 0) q (P 60 xl) ((P 62 xl) - 0) hw) (cwV 2 hts gX6_takeIn_X6_waste rfl rfl rfl (by decide +kernel) ⟨(Nat.le_of_ble_eq_true rfl), (Nat.le_of_ble_eq_true rfl)⟩) ⟨Pre.blind, va_recv hK hP (ci := 6) (q0 := 0) rfl rfl, Pre.mk hPc (hDc.weaken (fun _ _ _ h => hAlo _ h)) hC hS hAlo⟩ rfl rfl hl.1 rfl (lv_room (Nat.le_of_ble_eq_true rfl)) dX6_takeIn_118 ⟨(Nat.le_of_ble_eq_true rfl), (Nat.le_of_ble_eq_true rfl)⟩) hS (fun q _ h => hFc q h) hFc (fun u t H1 locs1 ht hvm e_4 hB hz1 hk1 hS1 => ?_)
    have hS := hS1
    obtain ⟨hP1, hD1⟩ := hB
    rw [ht] at hP1
    obtain ⟨hP, hD⟩ := va_join (wr := []) (w1 := (sg_St cI cZ a (sg_waste (sg_up P 65 xl 0) (P 60 xl) ((P 62 xl) - 0)) q)) hP hD [0, 1, 2, 3, 4, 5, 6, 7, 8, 9, 10, 11, 12, 13, 14, 15, 16, 17, 18, 19, 20, 21, 22, 23, 24, 25, 26, 27, 28, 29, 30, 31, 32, 33, 34, 35, 36, 37, 38, 39, 40] [] rfl rfl (by decide) (by decide) hk1 hFc hP1 hD1
    have e_4 : True := e_4
    clear hFc hPc hDc ht hvm hz1 hk1 hS1 hP1 hD1
    generalize H1 = H at hP hS ⊢
    replace hP : va_P D vwCl (sg_St cI cZ a (sg_waste (sg_up P 65 xl 0) (P 60 xl) ((P 62 xl) - 0)) q) H := hP
    replace hD : va_D A (sg_St cI cZ a (sg_waste (sg_up P 65 xl 0) (P 60 xl) ((P 62 xl) - 0)) q) := hD
    refine W.widen (k := 0) (n := 0) (by omega) (by omega) ?_
    have e9 : sg_takeIn P xl = sg_waste (sg_up P 65 xl 0) (P 60 xl) ((P 62 xl) - 0) := by rw [sg_takeIn, if_pos c_3]
    have hP9 : va_P D vwCl (sg_St cI cZ a (sg_takeIn P xl) q) H := by rw [e9]; exact hP
    have hD9 : va_D A (sg_St cI cZ a (sg_takeIn P xl) q) := by rw [e9]; exact hD
    exact W.vret hx hb hr (fun t ht hW => ⟨⟨(), rfl, trivial, by rw [ht]; exact hP9, hD9⟩, hS.F ht⟩) hS.2.2 dX6_takeIn_121
  · refine lv_aload_n hx hb dX6_takeIn_69 rfl (lv_at hl 4 rfl) ?_
    refine va_get (D := D) (ci := 6) (v := .ref (a 4)) (C := RX6) (T := TX6) (N := 9) hx hb hts in6 hown hK hP 0 rfl rfl 4 (by decide) (hts (.fieldLink RX6 35 "Granary$Stock" "lots" "LGranary$Lots;") (by decide +kernel)) (fun _ h9 => h9) rfl dX6_takeIn_70 ?_
    refine va_get (D := D) (ci := 1) (v := .int ((sg_up P 65 xl 0) 0 3)) (C := RX1) (T := TX1) (N := 6) hx hb hts in1 hown hK hP 4 rfl rfl 0 (by decide) (hts (.fieldLink RX6 148 "Granary$Lots" "count" "I") (by decide +kernel)) (fun _ h9 => h9) rfl dX6_takeIn_73 ?_
    refine lv_toi (y := P 0 3) rfl ?_
    refine lv_sipush (v := 200) hx hb dX6_takeIn_76 (by decide) ?_
    refine lv_icmp_lt (tgt := 85) hx hb dX6_takeIn_79 (by decide) (fun c_5 => ?_) (fun c_5 => ?_)
    · refine lv_iload hx hb dX6_takeIn_85 (lv_at hl 0 rfl) ?_
      refine lv_if_le (tgt := 104) hx hb dX6_takeIn_87 (by decide) (fun c_6 => ?_) (fun c_6 => ?_)
      · refine lv_aload_n hx hb dX6_takeIn_104 rfl (lv_at hl 4 rfl) ?_
        refine lv_iload_n hx hb dX6_takeIn_105 rfl (lv_at hl 3 rfl) ?_
        refine lv_aload_n hx hb dX6_takeIn_106 rfl (lv_at hl 4 rfl) ?_
        refine va_get (D := D) (ci := 6) (v := .ref (a 6)) (C := RX6) (T := TX6) (N := 9) hx hb hts in6 hown hK hP 0 rfl rfl 6 (by decide) (hts (.fieldLink RX6 49 "Granary$Stock" "transports" "LGranary$Transports;") (by decide +kernel)) (fun _ h9 => h9) rfl dX6_takeIn_107 ?_
        refine va_get (D := D) (ci := 7) (v := .ref (a 62)) (C := RX7) (T := TX7) (N := 7) hx hb hts in7 hown hK hP 6 rfl rfl 3 (by decide) (hts (.fieldLink RX6 278 "Granary$Transports" "units" "[I") (by decide +kernel)) (fun _ h9 => h9) rfl dX6_takeIn_110 ?_
        refine lv_iload_n hx hb dX6_takeIn_113 rfl (lv_at hl 5 rfl) ?_
        refine sg_iald hx hb hK hP 35 0 rfl rfl (j := xl) rfl (by omega) (Nat.le_of_ble_eq_true rfl) dX6_takeIn_114 ?_
        refine lv_toi (y := P 62 xl) rfl ?_
        refine lv_iload hx hb dX6_takeIn_115 (lv_at hl 0 rfl) ?_
        refine lv_isub hx hb dX6_takeIn_117 ?_
        have hPc : va_P D vwCl (sg_St cI cZ a (sg_up P 65 xl 0) q) H := hP
        have hDc : va_D A (sg_St cI cZ a (sg_up P 65 xl 0) q) := hD
        have hFc := va_free (wc := (sg_St cI cZ a (sg_up P 65 xl 0) q)) hD hS hA [0, 1, 2, 3, 4, 5, 6, 7, 8, 9, 10, 11, 12, 13, 14, 15, 16, 17, 18, 19, 20, 21, 22, 23, 24, 25, 26, 27, 28, 29, 30, 31, 32, 33, 34, 35, 36, 37, 38, 39, 40] rfl
        refine va_callv (va_runV (As := [.int (P 60 xl), .int ((P 62 xl) - (if (sg_roomAt (sg_up P 65 xl 0) (P 61 xl)) < (P 62 xl) then (sg_roomAt (sg_up P 65 xl 0) (P 61 xl)) else (P 62 xl)))]) (rest := []) ⟨hx, hb, hml, hown, hts⟩ (c_waste l D cI cZ cJ lo H.size a (sg_up P 65 xl 0) q (P 60 xl) ((P 62 xl) - (if (sg_roomAt (sg_up P 65 xl 0) (P 61 xl)) < (P 62 xl) then (sg_roomAt (sg_up P 65 xl 0) (P 61 xl)) else (P 62 xl))) hw) (cwV 2 hts gX6_takeIn_X6_waste rfl rfl rfl (by decide +kernel) ⟨(Nat.le_of_ble_eq_true rfl), (Nat.le_of_ble_eq_true rfl)⟩) ⟨Pre.blind, va_recv hK hP (ci := 6) (q0 := 0) rfl rfl, Pre.mk hPc (hDc.weaken (fun _ _ _ h => hAlo _ h)) hC hS hAlo⟩ rfl rfl hl.1 rfl (lv_room (Nat.le_of_ble_eq_true rfl)) dX6_takeIn_118 ⟨(Nat.le_of_ble_eq_true rfl), (Nat.le_of_ble_eq_true rfl)⟩) hS (fun q _ h => hFc q h) hFc (fun u t H1 locs1 ht hvm e_7 hB hz1 hk1 hS1 => ?_)
        have hS := hS1
        obtain ⟨hP1, hD1⟩ := hB
        rw [ht] at hP1
        obtain ⟨hP, hD⟩ := va_join (wr := []) (w1 := (sg_St cI cZ a (sg_waste (sg_up P 65 xl 0) (P 60 xl) ((P 62 xl) - (if (sg_roomAt (sg_up P 65 xl 0) (P 61 xl)) < (P 62 xl) then (sg_roomAt (sg_up P 65 xl 0) (P 61 xl)) else (P 62 xl)))) q)) hP hD [0, 1, 2, 3, 4, 5, 6, 7, 8, 9, 10, 11, 12, 13, 14, 15, 16, 17, 18, 19, 20, 21, 22, 23, 24, 25, 26, 27, 28, 29, 30, 31, 32, 33, 34, 35, 36, 37, 38, 39, 40] [] rfl rfl (by decide) (by decide) hk1 hFc hP1 hD1
        have e_7 : True := e_7
        clear hFc hPc hDc ht hvm hz1 hk1 hS1 hP1 hD1
        generalize H1 = H at hP hS ⊢
        replace hP : va_P D vwCl (sg_St cI cZ a (sg_waste (sg_up P 65 xl 0) (P 60 xl) ((P 62 xl) - (if (sg_roomAt (sg_up P 65 xl 0) (P 61 xl)) < (P 62 xl) then (sg_roomAt (sg_up P 65 xl 0) (P 61 xl)) else (P 62 xl)))) q) H := hP
        replace hD : va_D A (sg_St cI cZ a (sg_waste (sg_up P 65 xl 0) (P 60 xl) ((P 62 xl) - (if (sg_roomAt (sg_up P 65 xl 0) (P 61 xl)) < (P 62 xl) then (sg_roomAt (sg_up P 65 xl 0) (P 61 xl)) else (P 62 xl)))) q) := hD
        refine W.widen (k := 0) (n := 0) (by omega) (by omega) ?_
        have e9 : sg_takeIn P xl = sg_waste (sg_up P 65 xl 0) (P 60 xl) ((P 62 xl) - (if (sg_roomAt (sg_up P 65 xl 0) (P 61 xl)) < (P 62 xl) then (sg_roomAt (sg_up P 65 xl 0) (P 61 xl)) else (P 62 xl))) := by rw [sg_takeIn, if_neg c_3, if_pos c_5, if_pos c_6]
        have hP9 : va_P D vwCl (sg_St cI cZ a (sg_takeIn P xl) q) H := by rw [e9]; exact hP
        have hD9 : va_D A (sg_St cI cZ a (sg_takeIn P xl) q) := by rw [e9]; exact hD
        exact W.vret hx hb hr (fun t ht hW => ⟨⟨(), rfl, trivial, by rw [ht]; exact hP9, hD9⟩, hS.F ht⟩) hS.2.2 dX6_takeIn_121
      · refine lv_aload_n hx hb dX6_takeIn_90 rfl (lv_at hl 4 rfl) ?_
        refine va_get (D := D) (ci := 6) (v := .ref (a 4)) (C := RX6) (T := TX6) (N := 9) hx hb hts in6 hown hK hP 0 rfl rfl 4 (by decide) (hts (.fieldLink RX6 35 "Granary$Stock" "lots" "LGranary$Lots;") (by decide +kernel)) (fun _ h9 => h9) rfl dX6_takeIn_91 ?_
        refine lv_iload_n hx hb dX6_takeIn_94 rfl (lv_at hl 3 rfl) ?_
        refine lv_iload_n hx hb dX6_takeIn_95 rfl (lv_at hl 2 rfl) ?_
        refine lv_iload hx hb dX6_takeIn_96 (lv_at hl 0 rfl) ?_
        refine lv_iload hx hb dX6_takeIn_98 (lv_at hl 1 rfl) ?_
        have hPc : va_P D vwCl (sg_St cI cZ a (sg_up P 65 xl 0) q) H := hP
        have hDc : va_D A (sg_St cI cZ a (sg_up P 65 xl 0) q) := hD
        have hFc := va_free (wc := (sg_St cI cZ a (sg_up P 65 xl 0) q)) hD hS hA [0, 1, 2, 3, 4, 5, 6, 7, 8, 9, 10, 11, 12, 13, 14, 15, 16, 17, 18, 19, 20, 21, 22, 23, 24, 25, 26, 27, 28, 29, 30, 31, 32, 33, 34, 35, 36, 37, 38, 39, 40] rfl
        refine va_calli (va_runV (As := [.int (P 60 xl), .int (P 61 xl), .int (if (sg_roomAt (sg_up P 65 xl 0) (P 61 xl)) < (P 62 xl) then (sg_roomAt (sg_up P 65 xl 0) (P 61 xl)) else (P 62 xl)), .int (P 64 xl)]) (rest := []) ⟨hx, hb, hml, hown, hts⟩ (c_ladd l D cI cZ cJ lo H.size a (sg_up P 65 xl 0) q (P 60 xl) (P 61 xl) (if (sg_roomAt (sg_up P 65 xl 0) (P 61 xl)) < (P 62 xl) then (sg_roomAt (sg_up P 65 xl 0) (P 61 xl)) else (P 62 xl)) (P 64 xl) hw) (cwV 4 hts gX6_takeIn_X1_add rfl rfl rfl (by decide +kernel) ⟨(Nat.le_of_ble_eq_true rfl), (Nat.le_of_ble_eq_true rfl)⟩) ⟨Pre.blind, va_recv hK hP (ci := 1) (q0 := 4) rfl rfl, Pre.mk hPc (hDc.weaken (fun _ _ _ h => hAlo _ h)) hC hS hAlo⟩ rfl rfl hl.1 rfl (lv_room (Nat.le_of_ble_eq_true rfl)) dX6_takeIn_100 ⟨(Nat.le_of_ble_eq_true rfl), (Nat.le_of_ble_eq_true rfl)⟩) hS (fun q _ h => hFc q h) hFc (fun r_8 u t H1 locs1 ht hvm e_9 hB hz1 hk1 hS1 => ?_)
        have hS := hS1
        obtain ⟨hP1, hD1⟩ := hB
        rw [ht] at hP1
        obtain ⟨hP, hD⟩ := va_join (wr := []) (w1 := (sg_St cI cZ a (sg_ladd (sg_up P 65 xl 0) (P 60 xl) (P 61 xl) (if (sg_roomAt (sg_up P 65 xl 0) (P 61 xl)) < (P 62 xl) then (sg_roomAt (sg_up P 65 xl 0) (P 61 xl)) else (P 62 xl)) (P 64 xl)) q)) hP hD [0, 1, 2, 3, 4, 5, 6, 7, 8, 9, 10, 11, 12, 13, 14, 15, 16, 17, 18, 19, 20, 21, 22, 23, 24, 25, 26, 27, 28, 29, 30, 31, 32, 33, 34, 35, 36, 37, 38, 39, 40] [] rfl rfl (by decide) (by decide) hk1 hFc hP1 hD1
        have e_9 : sg_ladd_r (sg_up P 65 xl 0) (P 60 xl) (P 61 xl) (if (sg_roomAt (sg_up P 65 xl 0) (P 61 xl)) < (P 62 xl) then (sg_roomAt (sg_up P 65 xl 0) (P 61 xl)) else (P 62 xl)) (P 64 xl) = r_8 := Eq.symm e_9
        subst e_9
        clear hFc hPc hDc ht hvm hz1 hk1 hS1 hP1 hD1
        generalize H1 = H at hP hS ⊢
        replace hP : va_P D vwCl (sg_St cI cZ a (sg_ladd (sg_up P 65 xl 0) (P 60 xl) (P 61 xl) (if (sg_roomAt (sg_up P 65 xl 0) (P 61 xl)) < (P 62 xl) then (sg_roomAt (sg_up P 65 xl 0) (P 61 xl)) else (P 62 xl)) (P 64 xl)) q) H := hP
        replace hD : va_D A (sg_St cI cZ a (sg_ladd (sg_up P 65 xl 0) (P 60 xl) (P 61 xl) (if (sg_roomAt (sg_up P 65 xl 0) (P 61 xl)) < (P 62 xl) then (sg_roomAt (sg_up P 65 xl 0) (P 61 xl)) else (P 62 xl)) (P 64 xl)) q) := hD
        refine lv_pop hx hb dX6_takeIn_103 rfl ?_
        refine lv_aload_n hx hb dX6_takeIn_104 rfl (lv_at hl 4 rfl) ?_
        refine lv_iload_n hx hb dX6_takeIn_105 rfl (lv_at hl 3 rfl) ?_
        refine lv_aload_n hx hb dX6_takeIn_106 rfl (lv_at hl 4 rfl) ?_
        refine va_get (D := D) (ci := 6) (v := .ref (a 6)) (C := RX6) (T := TX6) (N := 9) hx hb hts in6 hown hK hP 0 rfl rfl 6 (by decide) (hts (.fieldLink RX6 49 "Granary$Stock" "transports" "LGranary$Transports;") (by decide +kernel)) (fun _ h9 => h9) rfl dX6_takeIn_107 ?_
        refine va_get (D := D) (ci := 7) (v := .ref (a 62)) (C := RX7) (T := TX7) (N := 7) hx hb hts in7 hown hK hP 6 rfl rfl 3 (by decide) (hts (.fieldLink RX6 278 "Granary$Transports" "units" "[I") (by decide +kernel)) (fun _ h9 => h9) rfl dX6_takeIn_110 ?_
        refine lv_iload_n hx hb dX6_takeIn_113 rfl (lv_at hl 5 rfl) ?_
        refine sg_iald hx hb hK hP 35 0 rfl rfl (j := xl) rfl (by omega) (Nat.le_of_ble_eq_true rfl) dX6_takeIn_114 ?_
        refine lv_toi (y := (sg_ladd (sg_up P 65 xl 0) (P 60 xl) (P 61 xl) (if (sg_roomAt (sg_up P 65 xl 0) (P 61 xl)) < (P 62 xl) then (sg_roomAt (sg_up P 65 xl 0) (P 61 xl)) else (P 62 xl)) (P 64 xl)) 62 xl) rfl ?_
        refine lv_iload hx hb dX6_takeIn_115 (lv_at hl 0 rfl) ?_
        refine lv_isub hx hb dX6_takeIn_117 ?_
        have hPc : va_P D vwCl (sg_St cI cZ a (sg_ladd (sg_up P 65 xl 0) (P 60 xl) (P 61 xl) (if (sg_roomAt (sg_up P 65 xl 0) (P 61 xl)) < (P 62 xl) then (sg_roomAt (sg_up P 65 xl 0) (P 61 xl)) else (P 62 xl)) (P 64 xl)) q) H := hP
        have hDc : va_D A (sg_St cI cZ a (sg_ladd (sg_up P 65 xl 0) (P 60 xl) (P 61 xl) (if (sg_roomAt (sg_up P 65 xl 0) (P 61 xl)) < (P 62 xl) then (sg_roomAt (sg_up P 65 xl 0) (P 61 xl)) else (P 62 xl)) (P 64 xl)) q) := hD
        have hFc := va_free (wc := (sg_St cI cZ a (sg_ladd (sg_up P 65 xl 0) (P 60 xl) (P 61 xl) (if (sg_roomAt (sg_up P 65 xl 0) (P 61 xl)) < (P 62 xl) then (sg_roomAt (sg_up P 65 xl 0) (P 61 xl)) else (P 62 xl)) (P 64 xl)) q)) hD hS hA [0, 1, 2, 3, 4, 5, 6, 7, 8, 9, 10, 11, 12, 13, 14, 15, 16, 17, 18, 19, 20, 21, 22, 23, 24, 25, 26, 27, 28, 29, 30, 31, 32, 33, 34, 35, 36, 37, 38, 39, 40] rfl
        refine va_callv (va_runV (As := [.int (P 60 xl), .int (((sg_ladd (sg_up P 65 xl 0) (P 60 xl) (P 61 xl) (if (sg_roomAt (sg_up P 65 xl 0) (P 61 xl)) < (P 62 xl) then (sg_roomAt (sg_up P 65 xl 0) (P 61 xl)) else (P 62 xl)) (P 64 xl)) 62 xl) - (if (sg_roomAt (sg_up P 65 xl 0) (P 61 xl)) < (P 62 xl) then (sg_roomAt (sg_up P 65 xl 0) (P 61 xl)) else (P 62 xl)))]) (rest := []) ⟨hx, hb, hml, hown, hts⟩ (c_waste l D cI cZ cJ lo H.size a (sg_ladd (sg_up P 65 xl 0) (P 60 xl) (P 61 xl) (if (sg_roomAt (sg_up P 65 xl 0) (P 61 xl)) < (P 62 xl) then (sg_roomAt (sg_up P 65 xl 0) (P 61 xl)) else (P 62 xl)) (P 64 xl)) q (P 60 xl) (((sg_ladd (sg_up P 65 xl 0) (P 60 xl) (P 61 xl) (if (sg_roomAt (sg_up P 65 xl 0) (P 61 xl)) < (P 62 xl) then (sg_roomAt (sg_up P 65 xl 0) (P 61 xl)) else (P 62 xl)) (P 64 xl)) 62 xl) - (if (sg_roomAt (sg_up P 65 xl 0) (P 61 xl)) < (P 62 xl) then (sg_roomAt (sg_up P 65 xl 0) (P 61 xl)) else (P 62 xl))) (sg_ladd_W hw)) (cwV 2 hts gX6_takeIn_X6_waste rfl rfl rfl (by decide +kernel) ⟨(Nat.le_of_ble_eq_true rfl), (Nat.le_of_ble_eq_true rfl)⟩) ⟨Pre.blind, va_recv hK hP (ci := 6) (q0 := 0) rfl rfl, Pre.mk hPc (hDc.weaken (fun _ _ _ h => hAlo _ h)) hC hS hAlo⟩ rfl rfl hl.1 rfl (lv_room (Nat.le_of_ble_eq_true rfl)) dX6_takeIn_118 ⟨(Nat.le_of_ble_eq_true rfl), (Nat.le_of_ble_eq_true rfl)⟩) hS (fun q _ h => hFc q h) hFc (fun u t H1 locs1 ht hvm e_10 hB hz1 hk1 hS1 => ?_)
        have hS := hS1
        obtain ⟨hP1, hD1⟩ := hB
        rw [ht] at hP1
        obtain ⟨hP, hD⟩ := va_join (wr := []) (w1 := (sg_St cI cZ a (sg_waste (sg_ladd (sg_up P 65 xl 0) (P 60 xl) (P 61 xl) (if (sg_roomAt (sg_up P 65 xl 0) (P 61 xl)) < (P 62 xl) then (sg_roomAt (sg_up P 65 xl 0) (P 61 xl)) else (P 62 xl)) (P 64 xl)) (P 60 xl) (((sg_ladd (sg_up P 65 xl 0) (P 60 xl) (P 61 xl) (if (sg_roomAt (sg_up P 65 xl 0) (P 61 xl)) < (P 62 xl) then (sg_roomAt (sg_up P 65 xl 0) (P 61 xl)) else (P 62 xl)) (P 64 xl)) 62 xl) - (if (sg_roomAt (sg_up P 65 xl 0) (P 61 xl)) < (P 62 xl) then (sg_roomAt (sg_up P 65 xl 0) (P 61 xl)) else (P 62 xl)))) q)) hP hD [0, 1, 2, 3, 4, 5, 6, 7, 8, 9, 10, 11, 12, 13, 14, 15, 16, 17, 18, 19, 20, 21, 22, 23, 24, 25, 26, 27, 28, 29, 30, 31, 32, 33, 34, 35, 36, 37, 38, 39, 40] [] rfl rfl (by decide) (by decide) hk1 hFc hP1 hD1
        have e_10 : True := e_10
        clear hFc hPc hDc ht hvm hz1 hk1 hS1 hP1 hD1
        generalize H1 = H at hP hS ⊢
        replace hP : va_P D vwCl (sg_St cI cZ a (sg_waste (sg_ladd (sg_up P 65 xl 0) (P 60 xl) (P 61 xl) (if (sg_roomAt (sg_up P 65 xl 0) (P 61 xl)) < (P 62 xl) then (sg_roomAt (sg_up P 65 xl 0) (P 61 xl)) else (P 62 xl)) (P 64 xl)) (P 60 xl) (((sg_ladd (sg_up P 65 xl 0) (P 60 xl) (P 61 xl) (if (sg_roomAt (sg_up P 65 xl 0) (P 61 xl)) < (P 62 xl) then (sg_roomAt (sg_up P 65 xl 0) (P 61 xl)) else (P 62 xl)) (P 64 xl)) 62 xl) - (if (sg_roomAt (sg_up P 65 xl 0) (P 61 xl)) < (P 62 xl) then (sg_roomAt (sg_up P 65 xl 0) (P 61 xl)) else (P 62 xl)))) q) H := hP
        replace hD : va_D A (sg_St cI cZ a (sg_waste (sg_ladd (sg_up P 65 xl 0) (P 60 xl) (P 61 xl) (if (sg_roomAt (sg_up P 65 xl 0) (P 61 xl)) < (P 62 xl) then (sg_roomAt (sg_up P 65 xl 0) (P 61 xl)) else (P 62 xl)) (P 64 xl)) (P 60 xl) (((sg_ladd (sg_up P 65 xl 0) (P 60 xl) (P 61 xl) (if (sg_roomAt (sg_up P 65 xl 0) (P 61 xl)) < (P 62 xl) then (sg_roomAt (sg_up P 65 xl 0) (P 61 xl)) else (P 62 xl)) (P 64 xl)) 62 xl) - (if (sg_roomAt (sg_up P 65 xl 0) (P 61 xl)) < (P 62 xl) then (sg_roomAt (sg_up P 65 xl 0) (P 61 xl)) else (P 62 xl)))) q) := hD
        refine W.widen (k := 0) (n := 0) (by omega) (by omega) ?_
        have e9 : sg_takeIn P xl = sg_waste (sg_ladd (sg_up P 65 xl 0) (P 60 xl) (P 61 xl) (if (sg_roomAt (sg_up P 65 xl 0) (P 61 xl)) < (P 62 xl) then (sg_roomAt (sg_up P 65 xl 0) (P 61 xl)) else (P 62 xl)) (P 64 xl)) (P 60 xl) (((sg_ladd (sg_up P 65 xl 0) (P 60 xl) (P 61 xl) (if (sg_roomAt (sg_up P 65 xl 0) (P 61 xl)) < (P 62 xl) then (sg_roomAt (sg_up P 65 xl 0) (P 61 xl)) else (P 62 xl)) (P 64 xl)) 62 xl) - (if (sg_roomAt (sg_up P 65 xl 0) (P 61 xl)) < (P 62 xl) then (sg_roomAt (sg_up P 65 xl 0) (P 61 xl)) else (P 62 xl))) := by rw [sg_takeIn, if_neg c_3, if_pos c_5, if_neg c_6]
        have hP9 : va_P D vwCl (sg_St cI cZ a (sg_takeIn P xl) q) H := by rw [e9]; exact hP
        have hD9 : va_D A (sg_St cI cZ a (sg_takeIn P xl) q) := by rw [e9]; exact hD
        exact W.vret hx hb hr (fun t ht hW => ⟨⟨(), rfl, trivial, by rw [ht]; exact hP9, hD9⟩, hS.F ht⟩) hS.2.2 dX6_takeIn_121
    · refine lv_iconst (v := 0) hx hb dX6_takeIn_82 (by decide) ?_
      refine lv_istore (lv' := [(5, .int 0), (4, .int (P 64 xl)), (3, .int (P 61 xl)), (2, .int (P 60 xl)), (0, .ref (a 0)), (1, .int (nI xl))]) hx hb dX6_takeIn_83 hl (by decide) rfl (fun ls hl => ?_)
      refine lv_iload hx hb dX6_takeIn_85 (lv_at hl 0 rfl) ?_
      refine lv_if_le (tgt := 104) hx hb dX6_takeIn_87 (by decide) (fun _ => ?_) (fun c9 => absurd (show (0 : Int32) ≤ (0 : Int32) from (by decide)) c9)
      refine lv_aload_n hx hb dX6_takeIn_104 rfl (lv_at hl 4 rfl) ?_
      refine lv_iload_n hx hb dX6_takeIn_105 rfl (lv_at hl 3 rfl) ?_
      refine lv_aload_n hx hb dX6_takeIn_106 rfl (lv_at hl 4 rfl) ?_
      refine va_get (D := D) (ci := 6) (v := .ref (a 6)) (C := RX6) (T := TX6) (N := 9) hx hb hts in6 hown hK hP 0 rfl rfl 6 (by decide) (hts (.fieldLink RX6 49 "Granary$Stock" "transports" "LGranary$Transports;") (by decide +kernel)) (fun _ h9 => h9) rfl dX6_takeIn_107 ?_
      refine va_get (D := D) (ci := 7) (v := .ref (a 62)) (C := RX7) (T := TX7) (N := 7) hx hb hts in7 hown hK hP 6 rfl rfl 3 (by decide) (hts (.fieldLink RX6 278 "Granary$Transports" "units" "[I") (by decide +kernel)) (fun _ h9 => h9) rfl dX6_takeIn_110 ?_
      refine lv_iload_n hx hb dX6_takeIn_113 rfl (lv_at hl 5 rfl) ?_
      refine sg_iald hx hb hK hP 35 0 rfl rfl (j := xl) rfl (by omega) (Nat.le_of_ble_eq_true rfl) dX6_takeIn_114 ?_
      refine lv_toi (y := P 62 xl) rfl ?_
      refine lv_iload hx hb dX6_takeIn_115 (lv_at hl 0 rfl) ?_
      refine lv_isub hx hb dX6_takeIn_117 ?_
      have hPc : va_P D vwCl (sg_St cI cZ a (sg_up P 65 xl 0) q) H := hP
      have hDc : va_D A (sg_St cI cZ a (sg_up P 65 xl 0) q) := hD
      have hFc := va_free (wc := (sg_St cI cZ a (sg_up P 65 xl 0) q)) hD hS hA [0, 1, 2, 3, 4, 5, 6, 7, 8, 9, 10, 11, 12, 13, 14, 15, 16, 17, 18, 19, 20, 21, 22, 23, 24, 25, 26, 27, 28, 29, 30, 31, 32, 33, 34, 35, 36, 37, 38, 39, 40] rfl
      refine va_callv (va_runV (As := [.int (P 60 xl), .int ((P 62 xl) - 0)]) (rest := []) ⟨hx, hb, hml, hown, hts⟩ (c_waste l D cI cZ cJ lo H.size a (sg_up P 65 xl 0) q (P 60 xl) ((P 62 xl) - 0) hw) (cwV 2 hts gX6_takeIn_X6_waste rfl rfl rfl (by decide +kernel) ⟨(Nat.le_of_ble_eq_true rfl), (Nat.le_of_ble_eq_true rfl)⟩) ⟨Pre.blind, va_recv hK hP (ci := 6) (q0 := 0) rfl rfl, Pre.mk hPc (hDc.weaken (fun _ _ _ h => hAlo _ h)) hC hS hAlo⟩ rfl rfl hl.1 rfl (lv_room (Nat.le_of_ble_eq_true rfl)) dX6_takeIn_118 ⟨(Nat.le_of_ble_eq_true rfl), (Nat.le_of_ble_eq_true rfl)⟩) hS (fun q _ h => hFc q h) hFc (fun u t H1 locs1 ht hvm e_11 hB hz1 hk1 hS1 => ?_)
      have hS := hS1
      obtain ⟨hP1, hD1⟩ := hB
      rw [ht] at hP1
      obtain ⟨hP, hD⟩ := va_join (wr := []) (w1 := (sg_St cI cZ a (sg_waste (sg_up P 65 xl 0) (P 60 xl) ((P 62 xl) - 0)) q)) hP hD [0, 1, 2, 3, 4, 5, 6, 7, 8, 9, 10, 11, 12, 13, 14, 15, 16, 17, 18, 19, 20, 21, 22, 23, 24, 25, 26, 27, 28, 29, 30, 31, 32, 33, 34, 35, 36, 37, 38, 39, 40] [] rfl rfl (by decide) (by decide) hk1 hFc hP1 hD1
      have e_11 : True := e_11
      clear hFc hPc hDc ht hvm hz1 hk1 hS1 hP1 hD1
      generalize H1 = H at hP hS ⊢
      replace hP : va_P D vwCl (sg_St cI cZ a (sg_waste (sg_up P 65 xl 0) (P 60 xl) ((P 62 xl) - 0)) q) H := hP
      replace hD : va_D A (sg_St cI cZ a (sg_waste (sg_up P 65 xl 0) (P 60 xl) ((P 62 xl) - 0)) q) := hD
      refine W.widen (k := 0) (n := 0) (by omega) (by omega) ?_
      have e9 : sg_takeIn P xl = sg_waste (sg_up P 65 xl 0) (P 60 xl) ((P 62 xl) - 0) := by rw [sg_takeIn, if_neg c_3, if_neg c_5]
      have hP9 : va_P D vwCl (sg_St cI cZ a (sg_takeIn P xl) q) H := by rw [e9]; exact hP
      have hD9 : va_D A (sg_St cI cZ a (sg_takeIn P xl) q) := by rw [e9]; exact hD
      exact W.vret hx hb hr (fun t ht hW => ⟨⟨(), rfl, trivial, by rw [ht]; exact hP9, hD9⟩, hS.F ht⟩) hS.2.2 dX6_takeIn_121

def sg_takeArrivals_2 (P : sg_Pic) : Nat → sg_Pic
  | 0 => P
  | j2 + 1 => (if ((sg_takeArrivals_2 P j2) 65 j2) = 1 then (if ((sg_takeArrivals_2 P j2) 63 j2) = ((sg_takeArrivals_2 P j2) 0 0) then (sg_takeIn (sg_takeArrivals_2 P j2) j2) else (sg_takeArrivals_2 P j2)) else (sg_takeArrivals_2 P j2))
theorem sg_takeArrivals_2_K (P : sg_Pic) : ∀ j : Nat, sg_K3 (sg_takeArrivals_2 P j) P
  | 0 => by exact sg_K3.of ⟨rfl, rfl⟩
  | j + 1 => by
    have h := sg_takeArrivals_2_K P j
    rw [sg_takeArrivals_2]
    repeat' split
    all_goals first | exact h | (refine sg_K3.trans ?_ h; exact sg_K3.of ⟨rfl, rfl⟩) | (refine sg_K3.trans ?_ h; exact sg_takeIn_K _ _)

def sg_takeArrivals (P : sg_Pic) : sg_Pic := (sg_takeArrivals_2 P (sg_cn P 5))

theorem sg_takeArrivals_K (P : sg_Pic) : sg_K3 (sg_takeArrivals P) P := by
  unfold sg_takeArrivals
  repeat' split
  all_goals first | exact sg_K3.of ⟨rfl, rfl⟩ | exact sg_takeArrivals_2_K _ _
theorem sg_takeArrivals_W {P : sg_Pic} (hw : sg_W P) : sg_W (sg_takeArrivals P) := (sg_takeArrivals_K P).W hw

set_option maxHeartbeats 4000000 in
set_option maxRecDepth 100000 in
/-- X6_takeArrivals -/
theorem c_takeArrivals (l : Launch) (D : va_G) (cI cZ cJ : ClassId) (lo sz : Nat) (a : Nat → Nat) (P : sg_Pic) (q : Nat → Int32) (hw : sg_W P) : Met l yX6_takeArrivals wsX6_takeArrivals ({ frames := 4, cells := 0, slots := 0, locals := 89 }) (Pre lo D cI cZ cJ [.ref (a 0)] sz (sg_St cI cZ a P q)) (va_Qv (fun _ : Unit => True) (fun _ t => va_P D vwCl (sg_St cI cZ a (sg_takeArrivals P) q) t.heap ∧ va_D (va_A (sg_St cI cZ a P q) sz) (sg_St cI cZ a (sg_takeArrivals P) q)) (va_A (sg_St cI cZ a P q) sz)) 0 0 (va_A (sg_St cI cZ a P q) sz) := by
  refine Met.ofW (cc := cX6_takeArrivals) (maxL := 2) (ret := none) (by decide) rfl ?_
  intro p e s m args below meth c s₁ B hml hv
  obtain ⟨rfl, hsz, hP, hD0, hC⟩ := hv
  have hx := B.exec
  have hb := B.bytes
  have hr := B.returns
  have hts := atoms_spec (ws := wsX6_takeArrivals) B.pre
  have hown : s.vm.findClass RX6 = some m.cls := findClass_of_methodNamed B.named
  have hlocks := B.notSynchronized
  subst hsz
  have hn1 : sg_cn P 1 ≤ 6 := hw.n1
  have hn2 : sg_cn P 2 ≤ 5 := hw.n2
  have hn3 : sg_cn P 3 ≤ 200 := hw.n3
  have hn4 : sg_cn P 4 ≤ 60 := hw.n4
  have hn5 : sg_cn P 5 ≤ 90 := hw.n5
  have hK := hC.K
  have hD := hD0.self (sz := s.heap.size)
  have hAlo0 := va_A_lo hD0 hC.1
  generalize hAe : va_A (sg_St cI cZ a P q) s.heap.size = A at hD hAlo0 ⊢
  have hA : ∀ q : Nat, s.heap.size ≤ q → A q := fun q h => by rw [← hAe]; exact Or.inr h
  have hAlo : ∀ q, A q → lo ≤ q := hAlo0
  have hS : va_S A s.heap s.heap [] := va_S.rf
  have hP : va_P D vwCl (sg_St cI cZ a P q) s.heap := hP
  have hl := lv_entry ([.ref (a 0)]) (n := 2) (Nat.le_of_ble_eq_true rfl)
  rw [lg_entry_eq]
  generalize (lg_sl ([.ref (a 0)]) ++ List.replicate (2 - (lg_sl ([.ref (a 0)])).length) Slot.unset).toArray = ls at hl ⊢
  have hl : lv_has ls 2 [(0, .ref (a 0))] := hl
  have in6 : ∀ w ∈ u_ws RX6 TX6 9, w ∈ wsX6_takeArrivals := by decide +kernel
  have in7 : ∀ w ∈ u_ws RX7 TX7 7, w ∈ wsX6_takeArrivals := by decide +kernel
  refine lv_iconst (v := 0) hx hb dX6_takeArrivals_0 (by decide) ?_
  refine lv_istore_n (lv' := [(1, .int 0), (0, .ref (a 0))]) hx hb dX6_takeArrivals_1 rfl hl (by decide) rfl (fun ls hl => ?_)
  obtain ⟨H, hH9⟩ : ∃ z : Heap, z = s.heap := ⟨_, rfl⟩
  replace hS : va_S A s.heap H [] := by rw [hH9]; exact va_S.rf
  replace hP : va_P D vwCl (sg_St cI cZ a P q) H := by rw [hH9]; exact hP
  rw [← hH9]
  clear hH9
  generalize ([] : List Loc) = locs at hS ⊢
  obtain ⟨j2, h0j2⟩ : ∃ j : Nat, j = 0 := ⟨_, rfl⟩
  obtain ⟨P2, hP2⟩ : ∃ z9 : sg_Pic, z9 = sg_takeArrivals_2 P j2 := ⟨_, rfl⟩
  replace hl : lv_has ls 2 [(1, .int (nI j2)), (0, .ref (a 0))] := by rw [h0j2]; exact hl
  replace hP : va_P D vwCl (sg_St cI cZ a P2 q) H := by rw [hP2, h0j2]; exact hP
  replace hD : va_D A (sg_St cI cZ a P2 q) := by rw [hP2, h0j2]; exact hD
  have hjj2 : j2 ≤ sg_cn P 5 := by omega
  clear h0j2
  obtain ⟨n2, hn2⟩ : ∃ n : Nat, sg_cn P 5 < j2 + n := ⟨sg_cn P 5 + 1, by omega⟩
  revert hP
  revert hD
  revert hS
  revert hl
  revert hn2
  revert hjj2
  revert hP2
  revert ls
  revert locs
  revert H
  revert P2
  revert j2
  induction n2 with
  | zero =>
    intro j2 P2 H locs ls hP2 hjj2 hn2 hl hS hD hP
    exact absurd hn2 (by omega)
  | succ n2 ih2 =>
    intro j2 P2 H locs ls hP2 hjj2 hn2 hl hS hD hP
    refine lv_iload_n hx hb dX6_takeArrivals_2 rfl (lv_at hl 0 rfl) ?_
    refine lv_aload_n hx hb dX6_takeArrivals_3 rfl (lv_at hl 1 rfl) ?_
    refine va_get (D := D) (ci := 6) (v := .ref (a 6)) (C := RX6) (T := TX6) (N := 9) hx hb hts in6 hown hK hP 0 rfl rfl 6 (by decide) (hts (.fieldLink RX6 49 "Granary$Stock" "transports" "LGranary$Transports;") (by decide +kernel)) (fun _ h9 => h9) rfl dX6_takeArrivals_4 ?_
    refine va_get (D := D) (ci := 7) (v := .int (P2 0 5)) (C := RX7) (T := TX7) (N := 7) hx hb hts in7 hown hK hP 6 rfl rfl 0 (by decide) (hts (.fieldLink RX6 265 "Granary$Transports" "count" "I") (by decide +kernel)) (fun _ h9 => h9) rfl dX6_takeArrivals_7 ?_
    have hkP2 : sg_K3 P2 P := by rw [hP2]; exact sg_takeArrivals_2_K P j2
    have hB2 : ((P2 0 5) : Int32) = nI (sg_cn P 5) := ((hkP2.e 5 (by decide)).trans hw.e5)
    refine lv_icmp_ge (tgt := 53) hx hb dX6_takeArrivals_10 (by decide) (fun c_1 => ?_) (fun c_1 => ?_)
    · have hE2 : sg_cn P 5 = j2 := (sg_eq hB2 c_1 hjj2 (by omega)).symm
      clear ih2 hn2
      subst hE2
      subst hP2
      refine W.widen (k := 0) (n := 0) (by omega) (by omega) ?_
      have hP9 : va_P D vwCl (sg_St cI cZ a (sg_takeArrivals P) q) H := by exact hP
      have hD9 : va_D A (sg_St cI cZ a (sg_takeArrivals P) q) := by exact hD
      exact W.vret hx hb hr (fun t ht hW => ⟨⟨(), rfl, trivial, by rw [ht]; exact hP9, hD9⟩, hS.F ht⟩) hS.2.2 dX6_takeArrivals_53
    · have hL2 : j2 < sg_cn P 5 := sg_lt hB2 c_1 (by omega)
      refine lv_aload_n hx hb dX6_takeArrivals_13 rfl (lv_at hl 1 rfl) ?_
      refine va_get (D := D) (ci := 6) (v := .ref (a 6)) (C := RX6) (T := TX6) (N := 9) hx hb hts in6 hown hK hP 0 rfl rfl 6 (by decide) (hts (.fieldLink RX6 49 "Granary$Stock" "transports" "LGranary$Transports;") (by decide +kernel)) (fun _ h9 => h9) rfl dX6_takeArrivals_14 ?_
      refine va_get (D := D) (ci := 7) (v := .ref (a 65)) (C := RX7) (T := TX7) (N := 7) hx hb hts in7 hown hK hP 6 rfl rfl 6 (by decide) (hts (.fieldLink RX6 266 "Granary$Transports" "moving" "[I") (by decide +kernel)) (fun _ h9 => h9) rfl dX6_takeArrivals_17 ?_
      refine lv_iload_n hx hb dX6_takeArrivals_20 rfl (lv_at hl 0 rfl) ?_
      refine sg_iald hx hb hK hP 38 0 rfl rfl (j := j2) rfl (by omega) (Nat.le_of_ble_eq_true rfl) dX6_takeArrivals_21 ?_
      refine lv_toi (y := P2 65 j2) rfl ?_
      refine lv_iconst (v := 1) hx hb dX6_takeArrivals_22 (by decide) ?_
      refine lv_icmp_ne (tgt := 47) hx hb dX6_takeArrivals_23 (by decide) (fun c_2 => ?_) (fun c_2 => ?_)
      · refine lv_iinc (v := nI (j2 + 1)) (lv' := [(1, .int (nI (j2 + 1))), (0, .ref (a 0))]) hx hb dX6_takeArrivals_47 hl (k := 0) rfl (nI_1 j2) (by decide) rfl (fun ls hl => ?_)
        refine lv_goto (tgt := 2) hx hb dX6_takeArrivals_50 (by decide) ?_
        have hl8 := hl; have hS8 := hS; have hD8 := hD; have hP8 := hP
        subst hP2
        exact ih2 (j2 + 1) (sg_takeArrivals_2 P j2) _ _ _ (show ((sg_takeArrivals_2 P j2) : sg_Pic) = sg_takeArrivals_2 P (j2 + 1) from by rw [sg_takeArrivals_2, if_neg c_2]) (by omega) (by omega) (lv_sub hl8 [0, 1] rfl) hS8 hD8 hP8
      · refine lv_aload_n hx hb dX6_takeArrivals_26 rfl (lv_at hl 1 rfl) ?_
        refine va_get (D := D) (ci := 6) (v := .ref (a 6)) (C := RX6) (T := TX6) (N := 9) hx hb hts in6 hown hK hP 0 rfl rfl 6 (by decide) (hts (.fieldLink RX6 49 "Granary$Stock" "transports" "LGranary$Transports;") (by decide +kernel)) (fun _ h9 => h9) rfl dX6_takeArrivals_27 ?_
        refine va_get (D := D) (ci := 7) (v := .ref (a 63)) (C := RX7) (T := TX7) (N := 7) hx hb hts in7 hown hK hP 6 rfl rfl 4 (by decide) (hts (.fieldLink RX6 269 "Granary$Transports" "arrival" "[I") (by decide +kernel)) (fun _ h9 => h9) rfl dX6_takeArrivals_30 ?_
        refine lv_iload_n hx hb dX6_takeArrivals_33 rfl (lv_at hl 0 rfl) ?_
        refine sg_iald hx hb hK hP 36 0 rfl rfl (j := j2) rfl (by omega) (Nat.le_of_ble_eq_true rfl) dX6_takeArrivals_34 ?_
        refine lv_toi (y := P2 63 j2) rfl ?_
        refine lv_aload_n hx hb dX6_takeArrivals_35 rfl (lv_at hl 1 rfl) ?_
        refine va_get (D := D) (ci := 6) (v := .int (P2 0 0)) (C := RX6) (T := TX6) (N := 9) hx hb hts in6 hown hK hP 0 rfl rfl 0 (by decide) (hts (.fieldLink RX6 60 "Granary$Stock" "day" "I") (by decide +kernel)) (fun _ h9 => h9) rfl dX6_takeArrivals_36 ?_
        refine lv_icmp_ne (tgt := 47) hx hb dX6_takeArrivals_39 (by decide) (fun c_3 => ?_) (fun c_3 => ?_)
        · refine lv_iinc (v := nI (j2 + 1)) (lv' := [(1, .int (nI (j2 + 1))), (0, .ref (a 0))]) hx hb dX6_takeArrivals_47 hl (k := 0) rfl (nI_1 j2) (by decide) rfl (fun ls hl => ?_)
          refine lv_goto (tgt := 2) hx hb dX6_takeArrivals_50 (by decide) ?_
          have hl8 := hl; have hS8 := hS; have hD8 := hD; have hP8 := hP
          subst hP2
          exact ih2 (j2 + 1) (sg_takeArrivals_2 P j2) _ _ _ (show ((sg_takeArrivals_2 P j2) : sg_Pic) = sg_takeArrivals_2 P (j2 + 1) from by rw [sg_takeArrivals_2, if_pos c_2, if_neg c_3]) (by omega) (by omega) (lv_sub hl8 [0, 1] rfl) hS8 hD8 hP8
        · refine lv_aload_n hx hb dX6_takeArrivals_42 rfl (lv_at hl 1 rfl) ?_
          refine lv_iload_n hx hb dX6_takeArrivals_43 rfl (lv_at hl 0 rfl) ?_
          have hPc : va_P D vwCl (sg_St cI cZ a P2 q) H := hP
          have hDc : va_D A (sg_St cI cZ a P2 q) := hD
          have hFc := va_free (wc := (sg_St cI cZ a P2 q)) hD hS hA [0, 1, 2, 3, 4, 5, 6, 7, 8, 9, 10, 11, 12, 13, 14, 15, 16, 17, 18, 19, 20, 21, 22, 23, 24, 25, 26, 27, 28, 29, 30, 31, 32, 33, 34, 35, 36, 37, 38, 39, 40] rfl
          refine va_callv (va_runV (As := [.int (nI j2)]) (rest := []) ⟨hx, hb, hml, hown, hts⟩ (c_takeIn l D cI cZ cJ lo H.size a P2 q j2 (hkP2.W hw) (by omega)) (cwV 1 hts gX6_takeArrivals_X6_takeIn rfl rfl rfl (by decide +kernel) ⟨(Nat.le_of_ble_eq_true rfl), (Nat.le_of_ble_eq_true rfl)⟩) ⟨Pre.blind, va_recv hK hP (ci := 6) (q0 := 0) rfl rfl, Pre.mk hPc (hDc.weaken (fun _ _ _ h => hAlo _ h)) hC hS hAlo⟩ rfl rfl hl.1 rfl (lv_room (Nat.le_of_ble_eq_true rfl)) dX6_takeArrivals_44 ⟨(Nat.le_of_ble_eq_true rfl), (Nat.le_of_ble_eq_true rfl)⟩) hS (fun q _ h => hFc q h) hFc (fun u t H1 locs1 ht hvm e_4 hB hz1 hk1 hS1 => ?_)
          have hS := hS1
          obtain ⟨hP1, hD1⟩ := hB
          rw [ht] at hP1
          obtain ⟨hP, hD⟩ := va_join (wr := []) (w1 := (sg_St cI cZ a (sg_takeIn P2 j2) q)) hP hD [0, 1, 2, 3, 4, 5, 6, 7, 8, 9, 10, 11, 12, 13, 14, 15, 16, 17, 18, 19, 20, 21, 22, 23, 24, 25, 26, 27, 28, 29, 30, 31, 32, 33, 34, 35, 36, 37, 38, 39, 40] [] rfl rfl (by decide) (by decide) hk1 hFc hP1 hD1
          have e_4 : True := e_4
          clear hFc hPc hDc ht hvm hz1 hk1 hS1 hP1 hD1
          generalize H1 = H at hP hS ⊢
          replace hP : va_P D vwCl (sg_St cI cZ a (sg_takeIn P2 j2) q) H := hP
          replace hD : va_D A (sg_St cI cZ a (sg_takeIn P2 j2) q) := hD
          refine lv_iinc (v := nI (j2 + 1)) (lv' := [(1, .int (nI (j2 + 1))), (0, .ref (a 0))]) hx hb dX6_takeArrivals_47 hl (k := 0) rfl (nI_1 j2) (by decide) rfl (fun ls hl => ?_)
          refine lv_goto (tgt := 2) hx hb dX6_takeArrivals_50 (by decide) ?_
          have hl8 := hl; have hS8 := hS; have hD8 := hD; have hP8 := hP
          subst hP2
          exact ih2 (j2 + 1) (sg_takeIn (sg_takeArrivals_2 P j2) j2) _ _ _ (show (sg_takeIn (sg_takeArrivals_2 P j2) j2 : sg_Pic) = sg_takeArrivals_2 P (j2 + 1) from by rw [sg_takeArrivals_2, if_pos c_2, if_pos c_3]) (by omega) (by omega) (lv_sub hl8 [0, 1] rfl) hS8 hD8 hP8

def sg_wasteExpired_43 (P : sg_Pic) (j2 : Nat) (P2 : sg_Pic) : Nat → sg_Pic
  | 0 => P2
  | j43 + 1 => (sg_hold (sg_wasteExpired_43 P j2 P2 j43) j43 j2 (-(sg_heldOf (sg_wasteExpired_43 P j2 P2 j43) j43 j2)))
theorem sg_wasteExpired_43_K (P : sg_Pic) (j2 : Nat) (P2 : sg_Pic) : ∀ j : Nat, sg_K (sg_wasteExpired_43 P j2 P2 j) P2
  | 0 => by exact ⟨rfl, rfl⟩
  | j + 1 => by
    have h := sg_wasteExpired_43_K P j2 P2 j
    rw [sg_wasteExpired_43]
    repeat' split
    all_goals first | exact h | (refine sg_K.trans ?_ h; exact ⟨rfl, rfl⟩)

def sg_wasteExpired_2 (P : sg_Pic) : Nat → sg_Pic
  | 0 => P
  | j2 + 1 => (if ((sg_wasteExpired_2 P j2) 0 0) ≤ ((sg_wasteExpired_2 P j2) 44 j2) then (sg_wasteExpired_2 P j2) else (if ((sg_wasteExpired_2 P j2) 42 j2) ≤ 0 then (sg_wasteExpired_2 P j2) else (sg_up (sg_waste (sg_wasteExpired_43 P j2 (sg_wasteExpired_2 P j2) (sg_cn P 4)) ((sg_wasteExpired_43 P j2 (sg_wasteExpired_2 P j2) (sg_cn P 4)) 40 j2) ((sg_wasteExpired_43 P j2 (sg_wasteExpired_2 P j2) (sg_cn P 4)) 42 j2)) 42 j2 0)))
theorem sg_wasteExpired_2_K (P : sg_Pic) : ∀ j : Nat, sg_K (sg_wasteExpired_2 P j) P
  | 0 => by exact ⟨rfl, rfl⟩
  | j + 1 => by
    have h := sg_wasteExpired_2_K P j
    rw [sg_wasteExpired_2]
    repeat' split
    all_goals first | exact h | (refine sg_K.trans ?_ h; exact ⟨rfl, rfl⟩) | (refine sg_K.trans ?_ h; exact ⟨(sg_wasteExpired_43_K _ _ _ _).1, (sg_wasteExpired_43_K _ _ _ _).2⟩)

def sg_wasteExpired (P : sg_Pic) : sg_Pic := (sg_wasteExpired_2 P (sg_cn P 3))

theorem sg_wasteExpired_K (P : sg_Pic) : sg_K (sg_wasteExpired P) P := by
  unfold sg_wasteExpired
  repeat' split
  all_goals first | exact ⟨rfl, rfl⟩ | exact sg_wasteExpired_2_K _ _
theorem sg_wasteExpired_W {P : sg_Pic} (hw : sg_W P) : sg_W (sg_wasteExpired P) := (sg_wasteExpired_K P).W hw

set_option maxHeartbeats 4000000 in
set_option maxRecDepth 100000 in
/-- X6_wasteExpired -/
theorem c_wasteExpired (l : Launch) (D : va_G) (cI cZ cJ : ClassId) (lo sz : Nat) (a : Nat → Nat) (P : sg_Pic) (q : Nat → Int32) (hw : sg_W P) : Met l yX6_wasteExpired wsX6_wasteExpired ({ frames := 3, cells := 0, slots := 0, locals := 64 }) (Pre lo D cI cZ cJ [.ref (a 0)] sz (sg_St cI cZ a P q)) (va_Qv (fun _ : Unit => True) (fun _ t => va_P D vwCl (sg_St cI cZ a (sg_wasteExpired P) q) t.heap ∧ va_D (va_A (sg_St cI cZ a P q) sz) (sg_St cI cZ a (sg_wasteExpired P) q)) (va_A (sg_St cI cZ a P q) sz)) 0 0 (va_A (sg_St cI cZ a P q) sz) := by
  refine Met.ofW (cc := cX6_wasteExpired) (maxL := 3) (ret := none) (by decide) rfl ?_
  intro p e s m args below meth c s₁ B hml hv
  obtain ⟨rfl, hsz, hP, hD0, hC⟩ := hv
  have hx := B.exec
  have hb := B.bytes
  have hr := B.returns
  have hts := atoms_spec (ws := wsX6_wasteExpired) B.pre
  have hown : s.vm.findClass RX6 = some m.cls := findClass_of_methodNamed B.named
  have hlocks := B.notSynchronized
  subst hsz
  have hn1 : sg_cn P 1 ≤ 6 := hw.n1
  have hn2 : sg_cn P 2 ≤ 5 := hw.n2
  have hn3 : sg_cn P 3 ≤ 200 := hw.n3
  have hn4 : sg_cn P 4 ≤ 60 := hw.n4
  have hn5 : sg_cn P 5 ≤ 90 := hw.n5
  have hK := hC.K
  have hD := hD0.self (sz := s.heap.size)
  have hAlo0 := va_A_lo hD0 hC.1
  generalize hAe : va_A (sg_St cI cZ a P q) s.heap.size = A at hD hAlo0 ⊢
  have hA : ∀ q : Nat, s.heap.size ≤ q → A q := fun q h => by rw [← hAe]; exact Or.inr h
  have hAlo : ∀ q, A q → lo ≤ q := hAlo0
  have hS : va_S A s.heap s.heap [] := va_S.rf
  have hP : va_P D vwCl (sg_St cI cZ a P q) s.heap := hP
  have hl := lv_entry ([.ref (a 0)]) (n := 3) (Nat.le_of_ble_eq_true rfl)
  rw [lg_entry_eq]
  generalize (lg_sl ([.ref (a 0)]) ++ List.replicate (3 - (lg_sl ([.ref (a 0)])).length) Slot.unset).toArray = ls at hl ⊢
  have hl : lv_has ls 3 [(0, .ref (a 0))] := hl
  have in1 : ∀ w ∈ u_ws RX1 TX1 6, w ∈ wsX6_wasteExpired := by decide +kernel
  have in2 : ∀ w ∈ u_ws RX2 TX2 11, w ∈ wsX6_wasteExpired := by decide +kernel
  have in6 : ∀ w ∈ u_ws RX6 TX6 9, w ∈ wsX6_wasteExpired := by decide +kernel
  refine lv_iconst (v := 0) hx hb dX6_wasteExpired_0 (by decide) ?_
  refine lv_istore_n (lv' := [(1, .int 0), (0, .ref (a 0))]) hx hb dX6_wasteExpired_1 rfl hl (by decide) rfl (fun ls hl => ?_)
  obtain ⟨H, hH9⟩ : ∃ z : Heap, z = s.heap := ⟨_, rfl⟩
  replace hS : va_S A s.heap H [] := by rw [hH9]; exact va_S.rf
  replace hP : va_P D vwCl (sg_St cI cZ a P q) H := by rw [hH9]; exact hP
  rw [← hH9]
  clear hH9
  generalize ([] : List Loc) = locs at hS ⊢
  obtain ⟨j2, h0j2⟩ : ∃ j : Nat, j = 0 := ⟨_, rfl⟩
  obtain ⟨P2, hP2⟩ : ∃ z9 : sg_Pic, z9 = sg_wasteExpired_2 P j2 := ⟨_, rfl⟩
  replace hl : lv_has ls 3 [(1, .int (nI j2)), (0, .ref (a 0))] := by rw [h0j2]; exact hl
  replace hP : va_P D vwCl (sg_St cI cZ a P2 q) H := by rw [hP2, h0j2]; exact hP
  replace hD : va_D A (sg_St cI cZ a P2 q) := by rw [hP2, h0j2]; exact hD
  have hjj2 : j2 ≤ sg_cn P 3 := by omega
  clear h0j2
  obtain ⟨n2, hn2⟩ : ∃ n : Nat, sg_cn P 3 < j2 + n := ⟨sg_cn P 3 + 1, by omega⟩
  revert hP
  revert hD
  revert hS
  revert hl
  revert hn2
  revert hjj2
  revert hP2
  revert ls
  revert locs
  revert H
  revert P2
  revert j2
  induction n2 with
  | zero =>
    intro j2 P2 H locs ls hP2 hjj2 hn2 hl hS hD hP
    exact absurd hn2 (by omega)
  | succ n2 ih2 =>
    intro j2 P2 H locs ls hP2 hjj2 hn2 hl hS hD hP
    refine lv_iload_n hx hb dX6_wasteExpired_2 rfl (lv_at hl 0 rfl) ?_
    refine lv_aload_n hx hb dX6_wasteExpired_3 rfl (lv_at hl 1 rfl) ?_
    refine va_get (D := D) (ci := 6) (v := .ref (a 4)) (C := RX6) (T := TX6) (N := 9) hx hb hts in6 hown hK hP 0 rfl rfl 4 (by decide) (hts (.fieldLink RX6 35 "Granary$Stock" "lots" "LGranary$Lots;") (by decide +kernel)) (fun _ h9 => h9) rfl dX6_wasteExpired_4 ?_
    refine va_get (D := D) (ci := 1) (v := .int (P2 0 3)) (C := RX1) (T := TX1) (N := 6) hx hb hts in1 hown hK hP 4 rfl rfl 0 (by decide) (hts (.fieldLink RX6 148 "Granary$Lots" "count" "I") (by decide +kernel)) (fun _ h9 => h9) rfl dX6_wasteExpired_7 ?_
    have hkP2 : sg_K P2 P := by rw [hP2]; exact sg_wasteExpired_2_K P j2
    have hB2 : ((P2 0 3) : Int32) = nI (sg_cn P 3) := ((hkP2.e 3).trans hw.e3)
    refine lv_icmp_ge (tgt := 114) hx hb dX6_wasteExpired_10 (by decide) (fun c_1 => ?_) (fun c_1 => ?_)
    · have hE2 : sg_cn P 3 = j2 := (sg_eq hB2 c_1 hjj2 (by omega)).symm
      clear ih2 hn2
      subst hE2
      subst hP2
      refine W.widen (k := 0) (n := 0) (by omega) (by omega) ?_
      have hP9 : va_P D vwCl (sg_St cI cZ a (sg_wasteExpired P) q) H := by exact hP
      have hD9 : va_D A (sg_St cI cZ a (sg_wasteExpired P) q) := by exact hD
      exact W.vret hx hb hr (fun t ht hW => ⟨⟨(), rfl, trivial, by rw [ht]; exact hP9, hD9⟩, hS.F ht⟩) hS.2.2 dX6_wasteExpired_114
    · have hL2 : j2 < sg_cn P 3 := sg_lt hB2 c_1 (by omega)
      refine lv_aload_n hx hb dX6_wasteExpired_13 rfl (lv_at hl 1 rfl) ?_
      refine va_get (D := D) (ci := 6) (v := .ref (a 4)) (C := RX6) (T := TX6) (N := 9) hx hb hts in6 hown hK hP 0 rfl rfl 4 (by decide) (hts (.fieldLink RX6 35 "Granary$Stock" "lots" "LGranary$Lots;") (by decide +kernel)) (fun _ h9 => h9) rfl dX6_wasteExpired_14 ?_
      refine va_get (D := D) (ci := 1) (v := .ref (a 44)) (C := RX1) (T := TX1) (N := 6) hx hb hts in1 hown hK hP 4 rfl rfl 5 (by decide) (hts (.fieldLink RX6 216 "Granary$Lots" "last" "[I") (by decide +kernel)) (fun _ h9 => h9) rfl dX6_wasteExpired_17 ?_
      refine lv_iload_n hx hb dX6_wasteExpired_20 rfl (lv_at hl 0 rfl) ?_
      refine sg_iald hx hb hK hP 22 0 rfl rfl (j := j2) rfl (by omega) (Nat.le_of_ble_eq_true rfl) dX6_wasteExpired_21 ?_
      refine lv_toi (y := P2 44 j2) rfl ?_
      refine lv_aload_n hx hb dX6_wasteExpired_22 rfl (lv_at hl 1 rfl) ?_
      refine va_get (D := D) (ci := 6) (v := .int (P2 0 0)) (C := RX6) (T := TX6) (N := 9) hx hb hts in6 hown hK hP 0 rfl rfl 0 (by decide) (hts (.fieldLink RX6 60 "Granary$Stock" "day" "I") (by decide +kernel)) (fun _ h9 => h9) rfl dX6_wasteExpired_23 ?_
      refine lv_icmp_ge (tgt := 108) hx hb dX6_wasteExpired_26 (by decide) (fun c_2 => ?_) (fun c_2 => ?_)
      · refine lv_iinc (v := nI (j2 + 1)) (lv' := [(1, .int (nI (j2 + 1))), (0, .ref (a 0))]) hx hb dX6_wasteExpired_108 hl (k := 0) rfl (nI_1 j2) (by decide) rfl (fun ls hl => ?_)
        refine lv_goto (tgt := 2) hx hb dX6_wasteExpired_111 (by decide) ?_
        have hl8 := hl; have hS8 := hS; have hD8 := hD; have hP8 := hP
        subst hP2
        exact ih2 (j2 + 1) (sg_wasteExpired_2 P j2) _ _ _ (show ((sg_wasteExpired_2 P j2) : sg_Pic) = sg_wasteExpired_2 P (j2 + 1) from by rw [sg_wasteExpired_2, if_pos c_2]) (by omega) (by omega) (lv_sub hl8 [0, 1] rfl) hS8 hD8 hP8
      · refine lv_aload_n hx hb dX6_wasteExpired_29 rfl (lv_at hl 1 rfl) ?_
        refine va_get (D := D) (ci := 6) (v := .ref (a 4)) (C := RX6) (T := TX6) (N := 9) hx hb hts in6 hown hK hP 0 rfl rfl 4 (by decide) (hts (.fieldLink RX6 35 "Granary$Stock" "lots" "LGranary$Lots;") (by decide +kernel)) (fun _ h9 => h9) rfl dX6_wasteExpired_30 ?_
        refine va_get (D := D) (ci := 1) (v := .ref (a 42)) (C := RX1) (T := TX1) (N := 6) hx hb hts in1 hown hK hP 4 rfl rfl 3 (by decide) (hts (.fieldLink RX6 195 "Granary$Lots" "units" "[I") (by decide +kernel)) (fun _ h9 => h9) rfl dX6_wasteExpired_33 ?_
        refine lv_iload_n hx hb dX6_wasteExpired_36 rfl (lv_at hl 0 rfl) ?_
        refine sg_iald hx hb hK hP 20 0 rfl rfl (j := j2) rfl (by omega) (Nat.le_of_ble_eq_true rfl) dX6_wasteExpired_37 ?_
        refine lv_toi (y := P2 42 j2) rfl ?_
        refine lv_if_le (tgt := 108) hx hb dX6_wasteExpired_38 (by decide) (fun c_3 => ?_) (fun c_3 => ?_)
        · refine lv_iinc (v := nI (j2 + 1)) (lv' := [(1, .int (nI (j2 + 1))), (0, .ref (a 0))]) hx hb dX6_wasteExpired_108 hl (k := 0) rfl (nI_1 j2) (by decide) rfl (fun ls hl => ?_)
          refine lv_goto (tgt := 2) hx hb dX6_wasteExpired_111 (by decide) ?_
          have hl8 := hl; have hS8 := hS; have hD8 := hD; have hP8 := hP
          subst hP2
          exact ih2 (j2 + 1) (sg_wasteExpired_2 P j2) _ _ _ (show ((sg_wasteExpired_2 P j2) : sg_Pic) = sg_wasteExpired_2 P (j2 + 1) from by rw [sg_wasteExpired_2, if_neg c_2, if_pos c_3]) (by omega) (by omega) (lv_sub hl8 [0, 1] rfl) hS8 hD8 hP8
        · refine lv_iconst (v := 0) hx hb dX6_wasteExpired_41 (by decide) ?_
          refine lv_istore_n (lv' := [(2, .int 0), (1, .int (nI j2)), (0, .ref (a 0))]) hx hb dX6_wasteExpired_42 rfl hl (by decide) rfl (fun ls hl => ?_)
          obtain ⟨j43, h0j43⟩ : ∃ j : Nat, j = 0 := ⟨_, rfl⟩
          obtain ⟨P43, hP43⟩ : ∃ z9 : sg_Pic, z9 = sg_wasteExpired_43 P j2 P2 j43 := ⟨_, rfl⟩
          replace hl : lv_has ls 3 [(2, .int (nI j43)), (1, .int (nI j2)), (0, .ref (a 0))] := by rw [h0j43]; exact hl
          replace hP : va_P D vwCl (sg_St cI cZ a P43 q) H := by rw [hP43, h0j43]; exact hP
          replace hD : va_D A (sg_St cI cZ a P43 q) := by rw [hP43, h0j43]; exact hD
          have hjj43 : j43 ≤ sg_cn P 4 := by omega
          clear h0j43
          obtain ⟨n43, hn43⟩ : ∃ n : Nat, sg_cn P 4 < j43 + n := ⟨sg_cn P 4 + 1, by omega⟩
          revert hP
          revert hD
          revert hS
          revert hl
          revert hn43
          revert hjj43
          revert hP43
          revert ls
          revert locs
          revert H
          revert P43
          revert j43
          induction n43 with
          | zero =>
            intro j43 P43 H locs ls hP43 hjj43 hn43 hl hS hD hP
            exact absurd hn43 (by omega)
          | succ n43 ih43 =>
            intro j43 P43 H locs ls hP43 hjj43 hn43 hl hS hD hP
            refine lv_iload_n hx hb dX6_wasteExpired_43 rfl (lv_at hl 0 rfl) ?_
            refine lv_aload_n hx hb dX6_wasteExpired_44 rfl (lv_at hl 2 rfl) ?_
            refine va_get (D := D) (ci := 6) (v := .ref (a 5)) (C := RX6) (T := TX6) (N := 9) hx hb hts in6 hown hK hP 0 rfl rfl 5 (by decide) (hts (.fieldLink RX6 42 "Granary$Stock" "orders" "LGranary$Orders;") (by decide +kernel)) (fun _ h9 => h9) rfl dX6_wasteExpired_45 ?_
            refine va_get (D := D) (ci := 2) (v := .int (P43 0 4)) (C := RX2) (T := TX2) (N := 11) hx hb hts in2 hown hK hP 5 rfl rfl 0 (by decide) (hts (.fieldLink RX6 188 "Granary$Orders" "count" "I") (by decide +kernel)) (fun _ h9 => h9) rfl dX6_wasteExpired_48 ?_
            have hkP43 : sg_K P43 P2 := by rw [hP43]; exact sg_wasteExpired_43_K P j2 P2 j43
            have hB43 : ((P43 0 4) : Int32) = nI (sg_cn P 4) := ((hkP43.e 4).trans ((hkP2.e 4).trans hw.e4))
            refine lv_icmp_ge (tgt := 76) hx hb dX6_wasteExpired_51 (by decide) (fun c_4 => ?_) (fun c_4 => ?_)
            · have hE43 : sg_cn P 4 = j43 := (sg_eq hB43 c_4 hjj43 (by omega)).symm
              clear ih43 hn43
              subst hE43
              subst hP43
              refine lv_aload_n hx hb dX6_wasteExpired_76 rfl (lv_at hl 2 rfl) ?_
              refine lv_aload_n hx hb dX6_wasteExpired_77 rfl (lv_at hl 2 rfl) ?_
              refine va_get (D := D) (ci := 6) (v := .ref (a 4)) (C := RX6) (T := TX6) (N := 9) hx hb hts in6 hown hK hP 0 rfl rfl 4 (by decide) (hts (.fieldLink RX6 35 "Granary$Stock" "lots" "LGranary$Lots;") (by decide +kernel)) (fun _ h9 => h9) rfl dX6_wasteExpired_78 ?_
              refine va_get (D := D) (ci := 1) (v := .ref (a 40)) (C := RX1) (T := TX1) (N := 6) hx hb hts in1 hown hK hP 4 rfl rfl 1 (by decide) (hts (.fieldLink RX6 260 "Granary$Lots" "item" "[I") (by decide +kernel)) (fun _ h9 => h9) rfl dX6_wasteExpired_81 ?_
              refine lv_iload_n hx hb dX6_wasteExpired_84 rfl (lv_at hl 1 rfl) ?_
              refine sg_iald hx hb hK hP 18 0 rfl rfl (j := j2) rfl (by omega) (Nat.le_of_ble_eq_true rfl) dX6_wasteExpired_85 ?_
              refine lv_toi (y := (sg_wasteExpired_43 P j2 P2 (sg_cn P 4)) 40 j2) rfl ?_
              refine lv_aload_n hx hb dX6_wasteExpired_86 rfl (lv_at hl 2 rfl) ?_
              refine va_get (D := D) (ci := 6) (v := .ref (a 4)) (C := RX6) (T := TX6) (N := 9) hx hb hts in6 hown hK hP 0 rfl rfl 4 (by decide) (hts (.fieldLink RX6 35 "Granary$Stock" "lots" "LGranary$Lots;") (by decide +kernel)) (fun _ h9 => h9) rfl dX6_wasteExpired_87 ?_
              refine va_get (D := D) (ci := 1) (v := .ref (a 42)) (C := RX1) (T := TX1) (N := 6) hx hb hts in1 hown hK hP 4 rfl rfl 3 (by decide) (hts (.fieldLink RX6 195 "Granary$Lots" "units" "[I") (by decide +kernel)) (fun _ h9 => h9) rfl dX6_wasteExpired_90 ?_
              refine lv_iload_n hx hb dX6_wasteExpired_93 rfl (lv_at hl 1 rfl) ?_
              refine sg_iald hx hb hK hP 20 0 rfl rfl (j := j2) rfl (by omega) (Nat.le_of_ble_eq_true rfl) dX6_wasteExpired_94 ?_
              refine lv_toi (y := (sg_wasteExpired_43 P j2 P2 (sg_cn P 4)) 42 j2) rfl ?_
              have hPc : va_P D vwCl (sg_St cI cZ a (sg_wasteExpired_43 P j2 P2 (sg_cn P 4)) q) H := hP
              have hDc : va_D A (sg_St cI cZ a (sg_wasteExpired_43 P j2 P2 (sg_cn P 4)) q) := hD
              have hFc := va_free (wc := (sg_St cI cZ a (sg_wasteExpired_43 P j2 P2 (sg_cn P 4)) q)) hD hS hA [0, 1, 2, 3, 4, 5, 6, 7, 8, 9, 10, 11, 12, 13, 14, 15, 16, 17, 18, 19, 20, 21, 22, 23, 24, 25, 26, 27, 28, 29, 30, 31, 32, 33, 34, 35, 36, 37, 38, 39, 40] rfl
              refine va_callv (va_runV (As := [.int ((sg_wasteExpired_43 P j2 P2 (sg_cn P 4)) 40 j2), .int ((sg_wasteExpired_43 P j2 P2 (sg_cn P 4)) 42 j2)]) (rest := []) ⟨hx, hb, hml, hown, hts⟩ (c_waste l D cI cZ cJ lo H.size a (sg_wasteExpired_43 P j2 P2 (sg_cn P 4)) q ((sg_wasteExpired_43 P j2 P2 (sg_cn P 4)) 40 j2) ((sg_wasteExpired_43 P j2 P2 (sg_cn P 4)) 42 j2) (hkP43.W (hkP2.W hw))) (cwV 2 hts gX6_wasteExpired_X6_waste rfl rfl rfl (by decide +kernel) ⟨(Nat.le_of_ble_eq_true rfl), (Nat.le_of_ble_eq_true rfl)⟩) ⟨Pre.blind, va_recv hK hP (ci := 6) (q0 := 0) rfl rfl, Pre.mk hPc (hDc.weaken (fun _ _ _ h => hAlo _ h)) hC hS hAlo⟩ rfl rfl hl.1 rfl (lv_room (Nat.le_of_ble_eq_true rfl)) dX6_wasteExpired_95 ⟨(Nat.le_of_ble_eq_true rfl), (Nat.le_of_ble_eq_true rfl)⟩) hS (fun q _ h => hFc q h) hFc (fun u t H1 locs1 ht hvm e_5 hB hz1 hk1 hS1 => ?_)
              have hS := hS1
              obtain ⟨hP1, hD1⟩ := hB
              rw [ht] at hP1
              obtain ⟨hP, hD⟩ := va_join (wr := []) (w1 := (sg_St cI cZ a (sg_waste (sg_wasteExpired_43 P j2 P2 (sg_cn P 4)) ((sg_wasteExpired_43 P j2 P2 (sg_cn P 4)) 40 j2) ((sg_wasteExpired_43 P j2 P2 (sg_cn P 4)) 42 j2)) q)) hP hD [0, 1, 2, 3, 4, 5, 6, 7, 8, 9, 10, 11, 12, 13, 14, 15, 16, 17, 18, 19, 20, 21, 22, 23, 24, 25, 26, 27, 28, 29, 30, 31, 32, 33, 34, 35, 36, 37, 38, 39, 40] [] rfl rfl (by decide) (by decide) hk1 hFc hP1 hD1
              have e_5 : True := e_5
              clear hFc hPc hDc ht hvm hz1 hk1 hS1 hP1 hD1
              generalize H1 = H at hP hS ⊢
              replace hP : va_P D vwCl (sg_St cI cZ a (sg_waste (sg_wasteExpired_43 P j2 P2 (sg_cn P 4)) ((sg_wasteExpired_43 P j2 P2 (sg_cn P 4)) 40 j2) ((sg_wasteExpired_43 P j2 P2 (sg_cn P 4)) 42 j2)) q) H := hP
              replace hD : va_D A (sg_St cI cZ a (sg_waste (sg_wasteExpired_43 P j2 P2 (sg_cn P 4)) ((sg_wasteExpired_43 P j2 P2 (sg_cn P 4)) 40 j2) ((sg_wasteExpired_43 P j2 P2 (sg_cn P 4)) 42 j2)) q) := hD
              refine lv_aload_n hx hb dX6_wasteExpired_98 rfl (lv_at hl 2 rfl) ?_
              refine va_get (D := D) (ci := 6) (v := .ref (a 4)) (C := RX6) (T := TX6) (N := 9) hx hb hts in6 hown hK hP 0 rfl rfl 4 (by decide) (hts (.fieldLink RX6 35 "Granary$Stock" "lots" "LGranary$Lots;") (by decide +kernel)) (fun _ h9 => h9) rfl dX6_wasteExpired_99 ?_
              refine va_get (D := D) (ci := 1) (v := .ref (a 42)) (C := RX1) (T := TX1) (N := 6) hx hb hts in1 hown hK hP 4 rfl rfl 3 (by decide) (hts (.fieldLink RX6 195 "Granary$Lots" "units" "[I") (by decide +kernel)) (fun _ h9 => h9) rfl dX6_wasteExpired_102 ?_
              refine lv_iload_n hx hb dX6_wasteExpired_105 rfl (lv_at hl 1 rfl) ?_
              refine lv_iconst (v := 0) hx hb dX6_wasteExpired_106 (by decide) ?_
              refine sg_iast hx hb hK hP hD hS 20 0 rfl rfl (j := j2) rfl (by omega) (Nat.le_of_ble_eq_true rfl) dX6_wasteExpired_107 (fun H locs hP hD hS => ?_)
              replace hP : va_P D vwCl (sg_St cI cZ a (sg_up (sg_waste (sg_wasteExpired_43 P j2 P2 (sg_cn P 4)) ((sg_wasteExpired_43 P j2 P2 (sg_cn P 4)) 40 j2) ((sg_wasteExpired_43 P j2 P2 (sg_cn P 4)) 42 j2)) 42 j2 0) q) H := hP
              replace hD : va_D A (sg_St cI cZ a (sg_up (sg_waste (sg_wasteExpired_43 P j2 P2 (sg_cn P 4)) ((sg_wasteExpired_43 P j2 P2 (sg_cn P 4)) 40 j2) ((sg_wasteExpired_43 P j2 P2 (sg_cn P 4)) 42 j2)) 42 j2 0) q) := hD
              refine lv_iinc (v := nI (j2 + 1)) (lv' := [(1, .int (nI (j2 + 1))), (2, .int (nI (sg_cn P 4))), (0, .ref (a 0))]) hx hb dX6_wasteExpired_108 hl (k := 1) rfl (nI_1 j2) (by decide) rfl (fun ls hl => ?_)
              refine lv_goto (tgt := 2) hx hb dX6_wasteExpired_111 (by decide) ?_
              have hl8 := hl; have hS8 := hS; have hD8 := hD; have hP8 := hP
              subst hP2
              exact ih2 (j2 + 1) (sg_up (sg_waste (sg_wasteExpired_43 P j2 (sg_wasteExpired_2 P j2) (sg_cn P 4)) ((sg_wasteExpired_43 P j2 (sg_wasteExpired_2 P j2) (sg_cn P 4)) 40 j2) ((sg_wasteExpired_43 P j2 (sg_wasteExpired_2 P j2) (sg_cn P 4)) 42 j2)) 42 j2 0) _ _ _ (show (sg_up (sg_waste (sg_wasteExpired_43 P j2 (sg_wasteExpired_2 P j2) (sg_cn P 4)) ((sg_wasteExpired_43 P j2 (sg_wasteExpired_2 P j2) (sg_cn P 4)) 40 j2) ((sg_wasteExpired_43 P j2 (sg_wasteExpired_2 P j2) (sg_cn P 4)) 42 j2)) 42 j2 0 : sg_Pic) = sg_wasteExpired_2 P (j2 + 1) from by rw [sg_wasteExpired_2, if_neg c_2, if_neg c_3]) (by omega) (by omega) (lv_sub hl8 [0, 2] rfl) hS8 hD8 hP8
            · have hL43 : j43 < sg_cn P 4 := sg_lt hB43 c_4 (by omega)
              refine lv_aload_n hx hb dX6_wasteExpired_54 rfl (lv_at hl 2 rfl) ?_
              refine lv_iload_n hx hb dX6_wasteExpired_55 rfl (lv_at hl 0 rfl) ?_
              refine lv_iload_n hx hb dX6_wasteExpired_56 rfl (lv_at hl 1 rfl) ?_
              refine lv_aload_n hx hb dX6_wasteExpired_57 rfl (lv_at hl 2 rfl) ?_
              refine va_get (D := D) (ci := 6) (v := .ref (a 5)) (C := RX6) (T := TX6) (N := 9) hx hb hts in6 hown hK hP 0 rfl rfl 5 (by decide) (hts (.fieldLink RX6 42 "Granary$Stock" "orders" "LGranary$Orders;") (by decide +kernel)) (fun _ h9 => h9) rfl dX6_wasteExpired_58 ?_
              refine lv_iload_n hx hb dX6_wasteExpired_61 rfl (lv_at hl 0 rfl) ?_
              refine lv_iload_n hx hb dX6_wasteExpired_62 rfl (lv_at hl 1 rfl) ?_
              have hPc := hP.sub (ws' := [(a 5, .inr (2, [.int (P43 0 4), .ref (a 50), .ref (a 51), .ref (a 52), .ref (a 53), .ref (a 54), .ref (a 55), .ref (a 56), .ref (a 57), .ref (a 58), .ref (a 59)])), (a 59, .inl (cI, 12000, .inl (P43 59)))]) [5, 32] rfl
              have hDc := hD.sub (ws' := [(a 5, .inr (2, [.int (P43 0 4), .ref (a 50), .ref (a 51), .ref (a 52), .ref (a 53), .ref (a 54), .ref (a 55), .ref (a 56), .ref (a 57), .ref (a 58), .ref (a 59)])), (a 59, .inl (cI, 12000, .inl (P43 59)))]) [5, 32] (by decide) rfl
              refine vp_callSi (W.runV (As := [.int (nI j43), .int (nI j2)]) (rest := [.int (nI j2), .int (nI j43), .ref (a 0)]) ⟨hx, hb, hml, hown, hts⟩ (c_heldOf l D cI cZ cJ lo H.size a P43 j43 j2 (by omega) (by omega)) (cwV 2 hts gX6_wasteExpired_X2_heldOf rfl rfl rfl (by decide +kernel) ⟨(Nat.le_of_ble_eq_true rfl), (Nat.le_of_ble_eq_true rfl)⟩) ⟨Pre.blind, va_recv hK hP (ci := 2) (q0 := 5) rfl rfl, Pre.mk hPc (hDc.weaken (fun _ _ _ h => hAlo _ h)) hC hS hAlo⟩ rfl rfl hl.1 rfl (lv_room (Nat.le_of_ble_eq_true rfl)) dX6_wasteExpired_63 ⟨(Nat.le_of_ble_eq_true rfl), (Nat.le_of_ble_eq_true rfl)⟩) (fun r_6 e_7 => ?_)
              clear hPc hDc
              have e_7 : sg_heldOf P43 j43 j2 = r_6 := Eq.symm e_7
              subst e_7
              refine lv_ineg hx hb dX6_wasteExpired_66 ?_
              have hPc : va_P D vwCl (sg_St cI cZ a P43 q) H := hP
              have hDc : va_D A (sg_St cI cZ a P43 q) := hD
              have hFc := va_free (wc := (sg_St cI cZ a P43 q)) hD hS hA [0, 1, 2, 3, 4, 5, 6, 7, 8, 9, 10, 11, 12, 13, 14, 15, 16, 17, 18, 19, 20, 21, 22, 23, 24, 25, 26, 27, 28, 29, 30, 31, 32, 33, 34, 35, 36, 37, 38, 39, 40] rfl
              refine va_callv (va_runV (As := [.int (nI j43), .int (nI j2), .int (-(sg_heldOf P43 j43 j2))]) (rest := []) ⟨hx, hb, hml, hown, hts⟩ (c_hold l D cI cZ cJ lo H.size a P43 q j43 j2 (-(sg_heldOf P43 j43 j2)) (by omega) (by omega)) (cwV 3 hts gX6_wasteExpired_X6_hold rfl rfl rfl (by decide +kernel) ⟨(Nat.le_of_ble_eq_true rfl), (Nat.le_of_ble_eq_true rfl)⟩) ⟨Pre.blind, va_recv hK hP (ci := 6) (q0 := 0) rfl rfl, Pre.mk hPc (hDc.weaken (fun _ _ _ h => hAlo _ h)) hC hS hAlo⟩ rfl rfl hl.1 rfl (lv_room (Nat.le_of_ble_eq_true rfl)) dX6_wasteExpired_67 ⟨(Nat.le_of_ble_eq_true rfl), (Nat.le_of_ble_eq_true rfl)⟩) hS (fun q _ h => hFc q h) hFc (fun u t H1 locs1 ht hvm e_8 hB hz1 hk1 hS1 => ?_)
              have hS := hS1
              obtain ⟨hP1, hD1⟩ := hB
              rw [ht] at hP1
              obtain ⟨hP, hD⟩ := va_join (wr := []) (w1 := (sg_St cI cZ a (sg_hold P43 j43 j2 (-(sg_heldOf P43 j43 j2))) q)) hP hD [0, 1, 2, 3, 4, 5, 6, 7, 8, 9, 10, 11, 12, 13, 14, 15, 16, 17, 18, 19, 20, 21, 22, 23, 24, 25, 26, 27, 28, 29, 30, 31, 32, 33, 34, 35, 36, 37, 38, 39, 40] [] rfl rfl (by decide) (by decide) hk1 hFc hP1 hD1
              have e_8 : True := e_8
              clear hFc hPc hDc ht hvm hz1 hk1 hS1 hP1 hD1
              generalize H1 = H at hP hS ⊢
              replace hP : va_P D vwCl (sg_St cI cZ a (sg_hold P43 j43 j2 (-(sg_heldOf P43 j43 j2))) q) H := hP
              replace hD : va_D A (sg_St cI cZ a (sg_hold P43 j43 j2 (-(sg_heldOf P43 j43 j2))) q) := hD
              refine lv_iinc (v := nI (j43 + 1)) (lv' := [(2, .int (nI (j43 + 1))), (1, .int (nI j2)), (0, .ref (a 0))]) hx hb dX6_wasteExpired_70 hl (k := 0) rfl (nI_1 j43) (by decide) rfl (fun ls hl => ?_)
              refine lv_goto (tgt := 43) hx hb dX6_wasteExpired_73 (by decide) ?_
              have hl8 := hl; have hS8 := hS; have hD8 := hD; have hP8 := hP
              subst hP43
              exact ih43 (j43 + 1) (sg_hold (sg_wasteExpired_43 P j2 P2 j43) j43 j2 (-(sg_heldOf (sg_wasteExpired_43 P j2 P2 j43) j43 j2))) _ _ _ rfl (by omega) (by omega) (lv_sub hl8 [0, 1, 2] rfl) hS8 hD8 hP8

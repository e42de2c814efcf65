def sg_g_onHandIn_r (P : sg_Pic) (xi : Nat) (xs : Nat) (dn : Nat) : Int32 := (sg_unitsAt (sg_liveDays P dn) (nI xi) (nI xs))

set_option maxHeartbeats 4000000 in
set_option maxRecDepth 100000 in
/-- X8_onHandIn -/
theorem c_g_onHandIn (l : Launch) (D : va_G) (cI cZ cJ : ClassId) (lo sz : Nat) (g : Nat) (pa : Nat → Nat) (b : Nat → Nat) (a : Nat → Nat) (P : sg_Pic) (q : Nat → Int32) (R : sg_Pic ) (q2 : Nat → Int32) (xi : Nat) (xs : Nat) (dn : Nat) (hw : sg_W P) (hi : xi < sg_cn P 1) (hs : xs < sg_cn P 2) (hd1 : 1 ≤ dn) (hdn : dn ≤ 30) : Met l yX8_onHandIn wsX8_onHandIn ({ frames := 6, cells := 0, slots := 0, locals := 145 }) (Pre lo D cI cZ cJ [.ref g, .int (nI xi), .int (nI xs), .int (nI dn)] sz ([(g, .inr (8, [.ref (a 0), .ref (b 0), .ref (pa 0)]))] ++ sg_St cI cZ a P q ++ sg_St cI cZ b R q2)) (va_Qi (fun (r : Int32) (_ : Unit) => r = sg_g_onHandIn_r P xi xs dn) (fun _ t => ∃ (R1 : sg_Pic) (q3 : Nat → Int32), va_P D vwCl ([(g, .inr (8, [.ref (a 0), .ref (b 0), .ref (pa 0)]))] ++ sg_St cI cZ a P q ++ sg_St cI cZ b R1 q3) t.heap ∧ va_D (va_A ([(g, .inr (8, [.ref (a 0), .ref (b 0), .ref (pa 0)]))] ++ sg_St cI cZ a P q ++ sg_St cI cZ b R q2) sz) ([(g, .inr (8, [.ref (a 0), .ref (b 0), .ref (pa 0)]))] ++ sg_St cI cZ a P q ++ sg_St cI cZ b R1 q3)) (va_A ([(g, .inr (8, [.ref (a 0), .ref (b 0), .ref (pa 0)]))] ++ sg_St cI cZ a P q ++ sg_St cI cZ b R q2) sz)) 0 0 (va_A ([(g, .inr (8, [.ref (a 0), .ref (b 0), .ref (pa 0)]))] ++ sg_St cI cZ a P q ++ sg_St cI cZ b R q2) sz) := by
  refine Met.ofW (cc := cX8_onHandIn) (maxL := 4) (ret := (some .int)) (by decide) rfl ?_
  intro p e s m args below meth c s₁ B hml hv
  obtain ⟨rfl, hsz, hP, hD0, hC⟩ := hv
  have hx := B.exec
  have hb := B.bytes
  have hr := B.returns
  have hts := atoms_spec (ws := wsX8_onHandIn) B.pre
  have hown : s.vm.findClass RX8 = some m.cls := findClass_of_methodNamed B.named
  have hlocks := B.notSynchronized
  subst hsz
  have hn1 : sg_cn P 1 ≤ 6 := hw.n1
  have hn2 : sg_cn P 2 ≤ 5 := hw.n2
  have hn3 : sg_cn P 3 ≤ 200 := hw.n3
  have hn4 : sg_cn P 4 ≤ 60 := hw.n4
  have hn5 : sg_cn P 5 ≤ 90 := hw.n5
  have hK := hC.K
  have hD := hD0.self (sz := s.heap.size)
  have hAlo0 := va_A_lo hD0 hC.1
  generalize hAe : va_A ([(g, .inr (8, [.ref (a 0), .ref (b 0), .ref (pa 0)]))] ++ sg_St cI cZ a P q ++ sg_St cI cZ b R q2) s.heap.size = A at hD hAlo0 ⊢
  have hA : ∀ q : Nat, s.heap.size ≤ q → A q := fun q h => by rw [← hAe]; exact Or.inr h
  have hAlo : ∀ q, A q → lo ≤ q := hAlo0
  have hS : va_S A s.heap s.heap [] := va_S.rf
  have hP : va_P D vwCl ([(g, .inr (8, [.ref (a 0), .ref (b 0), .ref (pa 0)]))] ++ sg_St cI cZ a P q ++ sg_St cI cZ b R q2) s.heap := hP
  have hl := lv_entry ([.ref g, .int (nI xi), .int (nI xs), .int (nI dn)]) (n := 4) (Nat.le_of_ble_eq_true rfl)
  rw [lg_entry_eq]
  generalize (lg_sl ([.ref g, .int (nI xi), .int (nI xs), .int (nI dn)]) ++ List.replicate (4 - (lg_sl ([.ref g, .int (nI xi), .int (nI xs), .int (nI dn)])).length) Slot.unset).toArray = ls at hl ⊢
  have hl : lv_has ls 4 [(0, .ref g), (1, .int (nI xi)), (2, .int (nI xs)), (3, .int (nI dn))] := hl
  have in6 : ∀ w ∈ u_ws RX6 TX6 9, w ∈ wsX8_onHandIn := by decide +kernel
  have in8 : ∀ w ∈ u_ws RX8 TX8 3, w ∈ wsX8_onHandIn := by decide +kernel
  refine lv_aload_n hx hb dX8_onHandIn_0 rfl (lv_at hl 0 rfl) ?_
  refine lv_iload_n hx hb dX8_onHandIn_1 rfl (lv_at hl 1 rfl) ?_
  have hPc := hP.sub (ws' := [(g, .inr (8, [.ref (a 0), .ref (b 0), .ref (pa 0)])), (a 0, .inr (6, [.int (P 0 0), .ref (a 1), .ref (a 2), .ref (a 3), .ref (a 4), .ref (a 5), .ref (a 6), .ref (a 70), .ref (a 71)])), (a 1, .inr (0, [.int (P 0 1), .ref (a 10), .ref (a 11), .ref (a 12), .ref (a 13)]))]) [0, 1, 2] rfl
  have hDc := hD.sub (ws' := [(g, .inr (8, [.ref (a 0), .ref (b 0), .ref (pa 0)])), (a 0, .inr (6, [.int (P 0 0), .ref (a 1), .ref (a 2), .ref (a 3), .ref (a 4), .ref (a 5), .ref (a 6), .ref (a 70), .ref (a 71)])), (a 1, .inr (0, [.int (P 0 1), .ref (a 10), .ref (a 11), .ref (a 12), .ref (a 13)]))]) [0, 1, 2] (by decide) rfl
  refine va_csv (W.runV (As := [.int (nI xi)]) (rest := []) ⟨hx, hb, hml, hown, hts⟩ (c_needItem l D cI cZ cJ lo s.heap.size g pa b a P xi hw (by omega)) (cwV 1 hts gX8_onHandIn_X8_needItem rfl rfl rfl (by decide +kernel) ⟨(Nat.le_of_ble_eq_true rfl), (Nat.le_of_ble_eq_true rfl)⟩) ⟨Pre.blind, va_recv hK hP (ci := 8) (q0 := 0) rfl rfl, Pre.mk hPc (hDc.weaken (fun _ _ _ h => hAlo _ h)) hC hS hAlo⟩ rfl rfl hl.1 rfl (lv_room (Nat.le_of_ble_eq_true rfl)) dX8_onHandIn_2 ⟨(Nat.le_of_ble_eq_true rfl), (Nat.le_of_ble_eq_true rfl)⟩) (fun e_1 => ?_)
  clear hPc hDc
  refine lv_aload_n hx hb dX8_onHandIn_5 rfl (lv_at hl 0 rfl) ?_
  refine lv_iload_n hx hb dX8_onHandIn_6 rfl (lv_at hl 2 rfl) ?_
  have hPc := hP.sub (ws' := [(g, .inr (8, [.ref (a 0), .ref (b 0), .ref (pa 0)])), (a 0, .inr (6, [.int (P 0 0), .ref (a 1), .ref (a 2), .ref (a 3), .ref (a 4), .ref (a 5), .ref (a 6), .ref (a 70), .ref (a 71)])), (a 2, .inr (5, [.int (P 0 2), .ref (a 20), .ref (a 21)]))]) [0, 1, 3] rfl
  have hDc := hD.sub (ws' := [(g, .inr (8, [.ref (a 0), .ref (b 0), .ref (pa 0)])), (a 0, .inr (6, [.int (P 0 0), .ref (a 1), .ref (a 2), .ref (a 3), .ref (a 4), .ref (a 5), .ref (a 6), .ref (a 70), .ref (a 71)])), (a 2, .inr (5, [.int (P 0 2), .ref (a 20), .ref (a 21)]))]) [0, 1, 3] (by decide) rfl
  refine va_csv (W.runV (As := [.int (nI xs)]) (rest := []) ⟨hx, hb, hml, hown, hts⟩ (c_needSite l D cI cZ cJ lo s.heap.size g pa b a P xs hw (by omega)) (cwV 1 hts gX8_onHandIn_X8_needSite rfl rfl rfl (by decide +kernel) ⟨(Nat.le_of_ble_eq_true rfl), (Nat.le_of_ble_eq_true rfl)⟩) ⟨Pre.blind, va_recv hK hP (ci := 8) (q0 := 0) rfl rfl, Pre.mk hPc (hDc.weaken (fun _ _ _ h => hAlo _ h)) hC hS hAlo⟩ rfl rfl hl.1 rfl (lv_room (Nat.le_of_ble_eq_true rfl)) dX8_onHandIn_7 ⟨(Nat.le_of_ble_eq_true rfl), (Nat.le_of_ble_eq_true rfl)⟩) (fun e_2 => ?_)
  clear hPc hDc
  refine lv_iload_n hx hb dX8_onHandIn_10 rfl (lv_at hl 3 rfl) ?_
  refine lv_iconst (v := 1) hx hb dX8_onHandIn_11 (by decide) ?_
  refine lv_bipush (v := 30) hx hb dX8_onHandIn_12 (by decide) ?_
  have hPc := hP.sub (ws' := []) [] rfl
  have hDc := hD.sub (ws' := []) [] (by decide) rfl
  refine va_csv (W.runS (As := [.int (nI dn), .int 1, .int 30]) (rest := []) ⟨hx, hb, hml, hown, hts⟩ (c_needWithin l D cI cZ cJ lo s.heap.size (nI dn) 1 30 (nI_le hd1 (by omega)) (sg_leN (M := 30) (by omega))) (va_cwS 3 hts gX8_onHandIn_X8_needWithin rfl rfl rfl (by decide +kernel) ⟨(Nat.le_of_ble_eq_true rfl), (Nat.le_of_ble_eq_true rfl)⟩) ⟨Pre.blind, Pre.mk hPc (hDc.weaken (fun _ _ _ h => hAlo _ h)) hC hS hAlo⟩ rfl rfl hl.1 rfl (lv_room (Nat.le_of_ble_eq_true rfl)) dX8_onHandIn_14 ⟨(Nat.le_of_ble_eq_true rfl), (Nat.le_of_ble_eq_true rfl)⟩) (fun e_3 => ?_)
  clear hPc hDc
  refine lv_aload_n hx hb dX8_onHandIn_17 rfl (lv_at hl 0 rfl) ?_
  refine va_get (D := D) (ci := 8) (v := .ref (b 0)) (C := RX8) (T := TX8) (N := 3) hx hb hts in8 hown hK hP 0 rfl rfl 1 (by decide) (hts (.fieldLink RX8 16 "Granary" "later" "LGranary$Stock;") (by decide +kernel)) (fun _ h9 => h9) rfl dX8_onHandIn_18 ?_
  refine lv_aload_n hx hb dX8_onHandIn_21 rfl (lv_at hl 0 rfl) ?_
  refine va_get (D := D) (ci := 8) (v := .ref (a 0)) (C := RX8) (T := TX8) (N := 3) hx hb hts in8 hown hK hP 0 rfl rfl 0 (by decide) (hts (.fieldLink RX8 10 "Granary" "now" "LGranary$Stock;") (by decide +kernel)) (fun _ h9 => h9) rfl dX8_onHandIn_22 ?_
  have hPc := hP.sub (ws' := (sg_St cI cZ a P q ++ sg_St cI cZ b R q2)) [1, 2, 3, 4, 5, 6, 7, 8, 9, 10, 11, 12, 13, 14, 15, 16, 17, 18, 19, 20, 21, 22, 23, 24, 25, 26, 27, 28, 29, 30, 31, 32, 33, 34, 35, 36, 37, 38, 39, 40, 41, 42, 43, 44, 45, 46, 47, 48, 49, 50, 51, 52, 53, 54, 55, 56, 57, 58, 59, 60, 61, 62, 63, 64, 65, 66, 67, 68, 69, 70, 71, 72, 73, 74, 75, 76, 77, 78, 79, 80, 81, 82] rfl
  have hDc := hD.sub (ws' := (sg_St cI cZ a P q ++ sg_St cI cZ b R q2)) [1, 2, 3, 4, 5, 6, 7, 8, 9, 10, 11, 12, 13, 14, 15, 16, 17, 18, 19, 20, 21, 22, 23, 24, 25, 26, 27, 28, 29, 30, 31, 32, 33, 34, 35, 36, 37, 38, 39, 40, 41, 42, 43, 44, 45, 46, 47, 48, 49, 50, 51, 52, 53, 54, 55, 56, 57, 58, 59, 60, 61, 62, 63, 64, 65, 66, 67, 68, 69, 70, 71, 72, 73, 74, 75, 76, 77, 78, 79, 80, 81, 82] (by decide) rfl
  have hFc := va_free (wc := (sg_St cI cZ a P q ++ sg_St cI cZ b R q2)) hD hS hA [1, 2, 3, 4, 5, 6, 7, 8, 9, 10, 11, 12, 13, 14, 15, 16, 17, 18, 19, 20, 21, 22, 23, 24, 25, 26, 27, 28, 29, 30, 31, 32, 33, 34, 35, 36, 37, 38, 39, 40, 41, 42, 43, 44, 45, 46, 47, 48, 49, 50, 51, 52, 53, 54, 55, 56, 57, 58, 59, 60, 61, 62, 63, 64, 65, 66, 67, 68, 69, 70, 71, 72, 73, 74, 75, 76, 77, 78, 79, 80, 81, 82] rfl
  refine va_callv (va_runV (As := [.ref (a 0)]) (rest := []) ⟨hx, hb, hml, hown, hts⟩ (c_become l D cI cZ cJ lo s.heap.size a P q b R q2 hw) (cwV 1 hts gX8_onHandIn_X6_becomeLike rfl rfl rfl (by decide +kernel) ⟨(Nat.le_of_ble_eq_true rfl), (Nat.le_of_ble_eq_true rfl)⟩) ⟨Pre.blind, va_recv hK hP (ci := 6) (q0 := 42) rfl rfl, Pre.mk hPc (hDc.weaken (fun _ _ _ h => hAlo _ h)) hC hS hAlo⟩ rfl rfl hl.1 rfl (lv_room (Nat.le_of_ble_eq_true rfl)) dX8_onHandIn_25 ⟨(Nat.le_of_ble_eq_true rfl), (Nat.le_of_ble_eq_true rfl)⟩) hS (fun q _ h => hFc q h) hFc (fun u t H1 locs1 ht hvm e_4 hB hz1 hk1 hS1 => ?_)
  have hS := hS1
  obtain ⟨hP1, hD1⟩ := hB
  rw [ht] at hP1
  obtain ⟨hP, hD⟩ := va_join (wr := [(g, .inr (8, [.ref (a 0), .ref (b 0), .ref (pa 0)]))]) (w1 := (sg_St cI cZ a P q ++ sg_St cI cZ b P q2)) hP hD [1, 2, 3, 4, 5, 6, 7, 8, 9, 10, 11, 12, 13, 14, 15, 16, 17, 18, 19, 20, 21, 22, 23, 24, 25, 26, 27, 28, 29, 30, 31, 32, 33, 34, 35, 36, 37, 38, 39, 40, 41, 42, 43, 44, 45, 46, 47, 48, 49, 50, 51, 52, 53, 54, 55, 56, 57, 58, 59, 60, 61, 62, 63, 64, 65, 66, 67, 68, 69, 70, 71, 72, 73, 74, 75, 76, 77, 78, 79, 80, 81, 82] [0] rfl rfl (by decide) (by decide) hk1 hFc hP1 hD1
  have e_4 : True := e_4
  clear hFc hPc hDc ht hvm hz1 hk1 hS1 hP1 hD1
  generalize H1 = H at hP hS ⊢
  replace hP : va_P D vwCl ([(g, .inr (8, [.ref (a 0), .ref (b 0), .ref (pa 0)]))] ++ sg_St cI cZ a P q ++ sg_St cI cZ b P q2) H := hP
  replace hD : va_D A ([(g, .inr (8, [.ref (a 0), .ref (b 0), .ref (pa 0)]))] ++ sg_St cI cZ a P q ++ sg_St cI cZ b P q2) := hD
  refine lv_aload_n hx hb dX8_onHandIn_28 rfl (lv_at hl 0 rfl) ?_
  refine va_get (D := D) (ci := 8) (v := .ref (b 0)) (C := RX8) (T := TX8) (N := 3) hx hb hts in8 hown hK hP 0 rfl rfl 1 (by decide) (hts (.fieldLink RX8 16 "Granary" "later" "LGranary$Stock;") (by decide +kernel)) (fun _ h9 => h9) rfl dX8_onHandIn_29 ?_
  refine lv_iload_n hx hb dX8_onHandIn_32 rfl (lv_at hl 3 rfl) ?_
  have hPc := hP.sub (ws' := (sg_St cI cZ b P q2)) [42, 43, 44, 45, 46, 47, 48, 49, 50, 51, 52, 53, 54, 55, 56, 57, 58, 59, 60, 61, 62, 63, 64, 65, 66, 67, 68, 69, 70, 71, 72, 73, 74, 75, 76, 77, 78, 79, 80, 81, 82] rfl
  have hDc := hD.sub (ws' := (sg_St cI cZ b P q2)) [42, 43, 44, 45, 46, 47, 48, 49, 50, 51, 52, 53, 54, 55, 56, 57, 58, 59, 60, 61, 62, 63, 64, 65, 66, 67, 68, 69, 70, 71, 72, 73, 74, 75, 76, 77, 78, 79, 80, 81, 82] (by decide) rfl
  have hFc := va_free (wc := (sg_St cI cZ b P q2)) hD hS hA [42, 43, 44, 45, 46, 47, 48, 49, 50, 51, 52, 53, 54, 55, 56, 57, 58, 59, 60, 61, 62, 63, 64, 65, 66, 67, 68, 69, 70, 71, 72, 73, 74, 75, 76, 77, 78, 79, 80, 81, 82] rfl
  refine va_callv (va_runV (As := [.int (nI dn)]) (rest := []) ⟨hx, hb, hml, hown, hts⟩ (c_liveDays l D cI cZ cJ lo H.size b P q2 dn hw (by omega)) (cwV 1 hts gX8_onHandIn_X6_liveDays rfl rfl rfl (by decide +kernel) ⟨(Nat.le_of_ble_eq_true rfl), (Nat.le_of_ble_eq_true rfl)⟩) ⟨Pre.blind, va_recv hK hP (ci := 6) (q0 := 42) rfl rfl, Pre.mk hPc (hDc.weaken (fun _ _ _ h => hAlo _ h)) hC hS hAlo⟩ rfl rfl hl.1 rfl (lv_room (Nat.le_of_ble_eq_true rfl)) dX8_onHandIn_33 ⟨(Nat.le_of_ble_eq_true rfl), (Nat.le_of_ble_eq_true rfl)⟩) hS (fun q _ h => hFc q h) hFc (fun u t H1 locs1 ht hvm e_5 hB hz1 hk1 hS1 => ?_)
  have hS := hS1
  obtain ⟨q1_6, hP1, hD1⟩ := hB
  rw [ht] at hP1
  obtain ⟨hP, hD⟩ := va_join (wr := ([(g, .inr (8, [.ref (a 0), .ref (b 0), .ref (pa 0)]))] ++ sg_St cI cZ a P q)) (w1 := (sg_St cI cZ b (sg_liveDays P dn) q1_6)) hP hD [42, 43, 44, 45, 46, 47, 48, 49, 50, 51, 52, 53, 54, 55, 56, 57, 58, 59, 60, 61, 62, 63, 64, 65, 66, 67, 68, 69, 70, 71, 72, 73, 74, 75, 76, 77, 78, 79, 80, 81, 82] [0, 1, 2, 3, 4, 5, 6, 7, 8, 9, 10, 11, 12, 13, 14, 15, 16, 17, 18, 19, 20, 21, 22, 23, 24, 25, 26, 27, 28, 29, 30, 31, 32, 33, 34, 35, 36, 37, 38, 39, 40, 41] rfl rfl (by decide) (by decide) hk1 hFc hP1 hD1
  have e_5 : True := e_5
  clear hFc hPc hDc ht hvm hz1 hk1 hS1 hP1 hD1
  generalize H1 = H at hP hS ⊢
  replace hP : va_P D vwCl ([(g, .inr (8, [.ref (a 0), .ref (b 0), .ref (pa 0)]))] ++ sg_St cI cZ a P q ++ sg_St cI cZ b (sg_liveDays P dn) q1_6) H := hP
  replace hD : va_D A ([(g, .inr (8, [.ref (a 0), .ref (b 0), .ref (pa 0)]))] ++ sg_St cI cZ a P q ++ sg_St cI cZ b (sg_liveDays P dn) q1_6) := hD
  refine lv_aload_n hx hb dX8_onHandIn_36 rfl (lv_at hl 0 rfl) ?_
  refine va_get (D := D) (ci := 8) (v := .ref (b 0)) (C := RX8) (T := TX8) (N := 3) hx hb hts in8 hown hK hP 0 rfl rfl 1 (by decide) (hts (.fieldLink RX8 16 "Granary" "later" "LGranary$Stock;") (by decide +kernel)) (fun _ h9 => h9) rfl dX8_onHandIn_37 ?_
  refine va_get (D := D) (ci := 6) (v := .ref (b 4)) (C := RX6) (T := TX6) (N := 9) hx hb hts in6 hown hK hP 42 rfl rfl 4 (by decide) (hts (.fieldLink RX8 109 "Granary$Stock" "lots" "LGranary$Lots;") (by decide +kernel)) (fun _ h9 => h9) rfl dX8_onHandIn_40 ?_
  refine lv_iload_n hx hb dX8_onHandIn_43 rfl (lv_at hl 1 rfl) ?_
  refine lv_iload_n hx hb dX8_onHandIn_44 rfl (lv_at hl 2 rfl) ?_
  have hPc := hP.sub (ws' := [(b 4, .inr (1, [.int ((sg_liveDays P dn) 0 3), .ref (b 40), .ref (b 41), .ref (b 42), .ref (b 43), .ref (b 44)])), (b 40, .inl (cI, 200, .inl ((sg_liveDays P dn) 40))), (b 41, .inl (cI, 200, .inl ((sg_liveDays P dn) 41))), (b 42, .inl (cI, 200, .inl ((sg_liveDays P dn) 42))), (b 43, .inl (cI, 200, .inl ((sg_liveDays P dn) 43))), (b 44, .inl (cI, 200, .inl ((sg_liveDays P dn) 44)))]) [46, 60, 61, 62, 63, 64] rfl
  have hDc := hD.sub (ws' := [(b 4, .inr (1, [.int ((sg_liveDays P dn) 0 3), .ref (b 40), .ref (b 41), .ref (b 42), .ref (b 43), .ref (b 44)])), (b 40, .inl (cI, 200, .inl ((sg_liveDays P dn) 40))), (b 41, .inl (cI, 200, .inl ((sg_liveDays P dn) 41))), (b 42, .inl (cI, 200, .inl ((sg_liveDays P dn) 42))), (b 43, .inl (cI, 200, .inl ((sg_liveDays P dn) 43))), (b 44, .inl (cI, 200, .inl ((sg_liveDays P dn) 44)))]) [46, 60, 61, 62, 63, 64] (by decide) rfl
  refine vp_callSi (W.runV (As := [.int (nI xi), .int (nI xs)]) (rest := []) ⟨hx, hb, hml, hown, hts⟩ (c_unitsAt l D cI cZ cJ lo H.size b (sg_liveDays P dn) (nI xi) (nI xs) (sg_liveDays_W hw)) (cwV 2 hts gX8_onHandIn_X1_unitsAt rfl rfl rfl (by decide +kernel) ⟨(Nat.le_of_ble_eq_true rfl), (Nat.le_of_ble_eq_true rfl)⟩) ⟨Pre.blind, va_recv hK hP (ci := 1) (q0 := 46) rfl rfl, Pre.mk hPc (hDc.weaken (fun _ _ _ h => hAlo _ h)) hC hS hAlo⟩ rfl rfl hl.1 rfl (lv_room (Nat.le_of_ble_eq_true rfl)) dX8_onHandIn_45 ⟨(Nat.le_of_ble_eq_true rfl), (Nat.le_of_ble_eq_true rfl)⟩) (fun r_7 e_8 => ?_)
  clear hPc hDc
  have e_8 : sg_unitsAt (sg_liveDays P dn) (nI xi) (nI xs) = r_7 := Eq.symm e_8
  subst e_8
  refine W.widen (k := 0) (n := 0) (by omega) (by omega) ?_
  have hP9 : va_P D vwCl ([(g, .inr (8, [.ref (a 0), .ref (b 0), .ref (pa 0)]))] ++ sg_St cI cZ a P q ++ sg_St cI cZ b (sg_liveDays P dn) q1_6) H := by exact hP
  have hD9 : va_D A ([(g, .inr (8, [.ref (a 0), .ref (b 0), .ref (pa 0)]))] ++ sg_St cI cZ a P q ++ sg_St cI cZ b (sg_liveDays P dn) q1_6) := by exact hD
  exact W.iret (v := (sg_unitsAt (sg_liveDays P dn) (nI xi) (nI xs))) hx hb hr (fun t ht hW => ⟨⟨(sg_unitsAt (sg_liveDays P dn) (nI xi) (nI xs)), (), rfl, rfl, (sg_liveDays P dn), q1_6, by rw [ht]; exact hP9, hD9⟩, hS.F ht⟩) hS.2.2 dX8_onHandIn_48

def sg_g_firstShort_30 (P : sg_Pic) (dn : Nat) : Nat → sg_Pic → Nat × sg_Pic
  | 0, P30 => (1, P30)
  | n30 + 1, P30 => (if ((sg_liveDays P30 1) 70 2) = (P 70 2) then (sg_g_firstShort_30 P dn n30 (sg_liveDays P30 1)) else (0, sg_liveDays P30 1))
theorem sg_g_firstShort_30_K (P : sg_Pic) (dn : Nat) : ∀ (n : Nat) (P30 : sg_Pic), sg_KD ((sg_g_firstShort_30 P dn n P30).2) P30
  | 0, P30 => by
    rw [sg_g_firstShort_30]
    exact sg_KD.of ⟨rfl, rfl⟩
  | n + 1, P30 => by
    rw [sg_g_firstShort_30]
    by_cases h : ((sg_liveDays P30 1) 70 2) = (P 70 2)
    · rw [if_pos h]
      exact (sg_g_firstShort_30_K P dn n (sg_liveDays P30 1)).trans (sg_liveDays_K P30 1)
    · rw [if_neg h]
      dsimp only
      exact sg_liveDays_K P30 1

def sg_g_firstShort_r (P : sg_Pic) (dn : Nat) : Int32 := (if (sg_g_firstShort_30 P dn dn P).1 = 0 then ((((sg_g_firstShort_30 P dn dn P)).2) 0 0) else (-1))

set_option maxHeartbeats 4000000 in
set_option maxRecDepth 100000 in
/-- X8_firstShort -/
theorem c_g_firstShort (l : Launch) (D : va_G) (cI cZ cJ : ClassId) (lo sz : Nat) (g : Nat) (pa : Nat → Nat) (b : Nat → Nat) (a : Nat → Nat) (P : sg_Pic) (q : Nat → Int32) (R : sg_Pic ) (q2 : Nat → Int32) (dn : Nat) (hw : sg_W P) (hd1 : 1 ≤ dn) (hdn : dn ≤ 30) : Met l yX8_firstShort wsX8_firstShort ({ frames := 6, cells := 0, slots := 0, locals := 145 }) (Pre lo D cI cZ cJ [.ref g, .int (nI dn)] sz ([(g, .inr (8, [.ref (a 0), .ref (b 0), .ref (pa 0)]))] ++ sg_St cI cZ a P q ++ sg_St cI cZ b R q2)) (va_Qi (fun (r : Int32) (_ : Unit) => r = sg_g_firstShort_r P dn) (fun _ t => ∃ (R1 : sg_Pic) (q3 : Nat → Int32), va_P D vwCl ([(g, .inr (8, [.ref (a 0), .ref (b 0), .ref (pa 0)]))] ++ sg_St cI cZ a P q ++ sg_St cI cZ b R1 q3) t.heap ∧ va_D (va_A ([(g, .inr (8, [.ref (a 0), .ref (b 0), .ref (pa 0)]))] ++ sg_St cI cZ a P q ++ sg_St cI cZ b R q2) sz) ([(g, .inr (8, [.ref (a 0), .ref (b 0), .ref (pa 0)]))] ++ sg_St cI cZ a P q ++ sg_St cI cZ b R1 q3)) (va_A ([(g, .inr (8, [.ref (a 0), .ref (b 0), .ref (pa 0)]))] ++ sg_St cI cZ a P q ++ sg_St cI cZ b R q2) sz)) 0 0 (va_A ([(g, .inr (8, [.ref (a 0), .ref (b 0), .ref (pa 0)]))] ++ sg_St cI cZ a P q ++ sg_St cI cZ b R q2) sz) := by
  refine Met.ofW (cc := cX8_firstShort) (maxL := 4) (ret := (some .int)) (by decide) rfl ?_
  intro p e s m args below meth c s₁ B hml hv
  obtain ⟨rfl, hsz, hP, hD0, hC⟩ := hv
  have hx := B.exec
  have hb := B.bytes
  have hr := B.returns
  have hts := atoms_spec (ws := wsX8_firstShort) B.pre
  have hown : s.vm.findClass RX8 = some m.cls := findClass_of_methodNamed B.named
  have hlocks := B.notSynchronized
  subst hsz
  have hn1 : sg_cn P 1 ≤ 6 := hw.n1
  have hn2 : sg_cn P 2 ≤ 5 := hw.n2
  have hn3 : sg_cn P 3 ≤ 200 := hw.n3
  have hn4 : sg_cn P 4 ≤ 60 := hw.n4
  have hn5 : sg_cn P 5 ≤ 90 := hw.n5
  have hK := hC.K
  have hD := hD0.self (sz := s.heap.size)
  have hAlo0 := va_A_lo hD0 hC.1
  generalize hAe : va_A ([(g, .inr (8, [.ref (a 0), .ref (b 0), .ref (pa 0)]))] ++ sg_St cI cZ a P q ++ sg_St cI cZ b R q2) s.heap.size = A at hD hAlo0 ⊢
  have hA : ∀ q : Nat, s.heap.size ≤ q → A q := fun q h => by rw [← hAe]; exact Or.inr h
  have hAlo : ∀ q, A q → lo ≤ q := hAlo0
  have hS : va_S A s.heap s.heap [] := va_S.rf
  have hP : va_P D vwCl ([(g, .inr (8, [.ref (a 0), .ref (b 0), .ref (pa 0)]))] ++ sg_St cI cZ a P q ++ sg_St cI cZ b R q2) s.heap := hP
  have hl := lv_entry ([.ref g, .int (nI dn)]) (n := 4) (Nat.le_of_ble_eq_true rfl)
  rw [lg_entry_eq]
  generalize (lg_sl ([.ref g, .int (nI dn)]) ++ List.replicate (4 - (lg_sl ([.ref g, .int (nI dn)])).length) Slot.unset).toArray = ls at hl ⊢
  have hl : lv_has ls 4 [(0, .ref g), (1, .int (nI dn))] := hl
  have in6 : ∀ w ∈ u_ws RX6 TX6 9, w ∈ wsX8_firstShort := by decide +kernel
  have in8 : ∀ w ∈ u_ws RX8 TX8 3, w ∈ wsX8_firstShort := by decide +kernel
  refine lv_iload_n hx hb dX8_firstShort_0 rfl (lv_at hl 1 rfl) ?_
  refine lv_iconst (v := 1) hx hb dX8_firstShort_1 (by decide) ?_
  refine lv_bipush (v := 30) hx hb dX8_firstShort_2 (by decide) ?_
  have hPc := hP.sub (ws' := []) [] rfl
  have hDc := hD.sub (ws' := []) [] (by decide) rfl
  refine va_csv (W.runS (As := [.int (nI dn), .int 1, .int 30]) (rest := []) ⟨hx, hb, hml, hown, hts⟩ (c_needWithin l D cI cZ cJ lo s.heap.size (nI dn) 1 30 (nI_le hd1 (by omega)) (sg_leN (M := 30) (by omega))) (va_cwS 3 hts gX8_firstShort_X8_needWithin rfl rfl rfl (by decide +kernel) ⟨(Nat.le_of_ble_eq_true rfl), (Nat.le_of_ble_eq_true rfl)⟩) ⟨Pre.blind, Pre.mk hPc (hDc.weaken (fun _ _ _ h => hAlo _ h)) hC hS hAlo⟩ rfl rfl hl.1 rfl (lv_room (Nat.le_of_ble_eq_true rfl)) dX8_firstShort_4 ⟨(Nat.le_of_ble_eq_true rfl), (Nat.le_of_ble_eq_true rfl)⟩) (fun e_1 => ?_)
  clear hPc hDc
  refine lv_aload_n hx hb dX8_firstShort_7 rfl (lv_at hl 0 rfl) ?_
  refine va_get (D := D) (ci := 8) (v := .ref (b 0)) (C := RX8) (T := TX8) (N := 3) hx hb hts in8 hown hK hP 0 rfl rfl 1 (by decide) (hts (.fieldLink RX8 16 "Granary" "later" "LGranary$Stock;") (by decide +kernel)) (fun _ h9 => h9) rfl dX8_firstShort_8 ?_
  refine lv_aload_n hx hb dX8_firstShort_11 rfl (lv_at hl 0 rfl) ?_
  refine va_get (D := D) (ci := 8) (v := .ref (a 0)) (C := RX8) (T := TX8) (N := 3) hx hb hts in8 hown hK hP 0 rfl rfl 0 (by decide) (hts (.fieldLink RX8 10 "Granary" "now" "LGranary$Stock;") (by decide +kernel)) (fun _ h9 => h9) rfl dX8_firstShort_12 ?_
  have hPc := hP.sub (ws' := (sg_St cI cZ a P q ++ sg_St cI cZ b R q2)) [1, 2, 3, 4, 5, 6, 7, 8, 9, 10, 11, 12, 13, 14, 15, 16, 17, 18, 19, 20, 21, 22, 23, 24, 25, 26, 27, 28, 29, 30, 31, 32, 33, 34, 35, 36, 37, 38, 39, 40, 41, 42, 43, 44, 45, 46, 47, 48, 49, 50, 51, 52, 53, 54, 55, 56, 57, 58, 59, 60, 61, 62, 63, 64, 65, 66, 67, 68, 69, 70, 71, 72, 73, 74, 75, 76, 77, 78, 79, 80, 81, 82] rfl
  have hDc := hD.sub (ws' := (sg_St cI cZ a P q ++ sg_St cI cZ b R q2)) [1, 2, 3, 4, 5, 6, 7, 8, 9, 10, 11, 12, 13, 14, 15, 16, 17, 18, 19, 20, 21, 22, 23, 24, 25, 26, 27, 28, 29, 30, 31, 32, 33, 34, 35, 36, 37, 38, 39, 40, 41, 42, 43, 44, 45, 46, 47, 48, 49, 50, 51, 52, 53, 54, 55, 56, 57, 58, 59, 60, 61, 62, 63, 64, 65, 66, 67, 68, 69, 70, 71, 72, 73, 74, 75, 76, 77, 78, 79, 80, 81, 82] (by decide) rfl
  have hFc := va_free (wc := (sg_St cI cZ a P q ++ sg_St cI cZ b R q2)) hD hS hA [1, 2, 3, 4, 5, 6, 7, 8, 9, 10, 11, 12, 13, 14, 15, 16, 17, 18, 19, 20, 21, 22, 23, 24, 25, 26, 27, 28, 29, 30, 31, 32, 33, 34, 35, 36, 37, 38, 39, 40, 41, 42, 43, 44, 45, 46, 47, 48, 49, 50, 51, 52, 53, 54, 55, 56, 57, 58, 59, 60, 61, 62, 63, 64, 65, 66, 67, 68, 69, 70, 71, 72, 73, 74, 75, 76, 77, 78, 79, 80, 81, 82] rfl
  refine va_callv (va_runV (As := [.ref (a 0)]) (rest := []) ⟨hx, hb, hml, hown, hts⟩ (c_become l D cI cZ cJ lo s.heap.size a P q b R q2 hw) (cwV 1 hts gX8_firstShort_X6_becomeLike rfl rfl rfl (by decide +kernel) ⟨(Nat.le_of_ble_eq_true rfl), (Nat.le_of_ble_eq_true rfl)⟩) ⟨Pre.blind, va_recv hK hP (ci := 6) (q0 := 42) rfl rfl, Pre.mk hPc (hDc.weaken (fun _ _ _ h => hAlo _ h)) hC hS hAlo⟩ rfl rfl hl.1 rfl (lv_room (Nat.le_of_ble_eq_true rfl)) dX8_firstShort_15 ⟨(Nat.le_of_ble_eq_true rfl), (Nat.le_of_ble_eq_true rfl)⟩) hS (fun q _ h => hFc q h) hFc (fun u t H1 locs1 ht hvm e_2 hB hz1 hk1 hS1 => ?_)
  have hS := hS1
  obtain ⟨hP1, hD1⟩ := hB
  rw [ht] at hP1
  obtain ⟨hP, hD⟩ := va_join (wr := [(g, .inr (8, [.ref (a 0), .ref (b 0), .ref (pa 0)]))]) (w1 := (sg_St cI cZ a P q ++ sg_St cI cZ b P q2)) hP hD [1, 2, 3, 4, 5, 6, 7, 8, 9, 10, 11, 12, 13, 14, 15, 16, 17, 18, 19, 20, 21, 22, 23, 24, 25, 26, 27, 28, 29, 30, 31, 32, 33, 34, 35, 36, 37, 38, 39, 40, 41, 42, 43, 44, 45, 46, 47, 48, 49, 50, 51, 52, 53, 54, 55, 56, 57, 58, 59, 60, 61, 62, 63, 64, 65, 66, 67, 68, 69, 70, 71, 72, 73, 74, 75, 76, 77, 78, 79, 80, 81, 82] [0] rfl rfl (by decide) (by decide) hk1 hFc hP1 hD1
  have e_2 : True := e_2
  clear hFc hPc hDc ht hvm hz1 hk1 hS1 hP1 hD1
  generalize H1 = H at hP hS ⊢
  replace hP : va_P D vwCl ([(g, .inr (8, [.ref (a 0), .ref (b 0), .ref (pa 0)]))] ++ sg_St cI cZ a P q ++ sg_St cI cZ b P q2) H := hP
  replace hD : va_D A ([(g, .inr (8, [.ref (a 0), .ref (b 0), .ref (pa 0)]))] ++ sg_St cI cZ a P q ++ sg_St cI cZ b P q2) := hD
  refine lv_aload_n hx hb dX8_firstShort_18 rfl (lv_at hl 0 rfl) ?_
  refine va_get (D := D) (ci := 8) (v := .ref (b 0)) (C := RX8) (T := TX8) (N := 3) hx hb hts in8 hown hK hP 0 rfl rfl 1 (by decide) (hts (.fieldLink RX8 16 "Granary" "later" "LGranary$Stock;") (by decide +kernel)) (fun _ h9 => h9) rfl dX8_firstShort_19 ?_
  refine va_get (D := D) (ci := 6) (v := .ref (b 70)) (C := RX6) (T := TX6) (N := 9) hx hb hts in6 hown hK hP 42 rfl rfl 7 (by decide) (hts (.fieldLink RX8 119 "Granary$Stock" "account" "[I") (by decide +kernel)) (fun _ h9 => h9) rfl dX8_firstShort_22 ?_
  refine lv_iconst (v := 2) hx hb dX8_firstShort_25 (by decide) ?_
  refine sg_iald hx hb hK hP 81 0 rfl rfl (j := 2) (by decide) (Nat.le_of_ble_eq_true rfl) (Nat.le_of_ble_eq_true rfl) dX8_firstShort_26 ?_
  refine lv_toi (y := P 70 2) rfl ?_
  refine lv_istore_n (lv' := [(2, .int (P 70 2)), (0, .ref g), (1, .int (nI dn))]) hx hb dX8_firstShort_27 rfl hl (by decide) rfl (fun ls hl => ?_)
  refine lv_iconst (v := 0) hx hb dX8_firstShort_28 (by decide) ?_
  refine lv_istore_n (lv' := [(3, .int 0), (2, .int (P 70 2)), (0, .ref g), (1, .int (nI dn))]) hx hb dX8_firstShort_29 rfl hl (by decide) rfl (fun ls hl => ?_)
  generalize locs1 = locs at hS ⊢
  obtain ⟨T30, hTT30⟩ : ∃ z9 : Nat × sg_Pic, z9 = sg_g_firstShort_30 P dn dn P := ⟨_, rfl⟩
  obtain ⟨P30, hP30⟩ : ∃ z9 : sg_Pic, z9 = P := ⟨_, rfl⟩
  obtain ⟨j30, h0j30⟩ : ∃ j : Nat, j = 0 := ⟨_, rfl⟩
  obtain ⟨n30, hn30⟩ : ∃ n : Nat, n = dn := ⟨_, rfl⟩
  replace hl : lv_has ls 4 [(3, .int (nI j30)), (2, .int (P 70 2)), (0, .ref g), (1, .int (nI dn))] := by rw [h0j30]; exact hl
  obtain ⟨q30, hq30⟩ : ∃ z9 : Nat → Int32, z9 = q2 := ⟨_, rfl⟩
  replace hP : va_P D vwCl ([(g, .inr (8, [.ref (a 0), .ref (b 0), .ref (pa 0)]))] ++ sg_St cI cZ a P q ++ sg_St cI cZ b P30 q30) H := by rw [hP30, hq30]; exact hP
  replace hD : va_D A ([(g, .inr (8, [.ref (a 0), .ref (b 0), .ref (pa 0)]))] ++ sg_St cI cZ a P q ++ sg_St cI cZ b P30 q30) := by rw [hP30, hq30]; exact hD
  have hF30 : sg_g_firstShort_30 P dn n30 P30 = T30 := by rw [hP30, hn30, hTT30]
  have hw30 : sg_W P30 := by rw [hP30]; exact hw
  have hjj30 : j30 + n30 = dn := by omega
  clear h0j30 hn30
  clear hP30
  clear hq30
  revert hP
  revert hD
  revert hS
  revert hl
  revert hF30
  revert hjj30
  revert hw30
  revert ls
  revert locs
  revert H
  revert q30
  revert P30
  revert j30
  induction n30 with
  | zero =>
    intro j30 P30 q30 H locs ls hw30 hjj30 hF30 hl hS hD hP
    refine lv_iload_n hx hb dX8_firstShort_30 rfl (lv_at hl 0 rfl) ?_
    refine lv_iload_n hx hb dX8_firstShort_31 rfl (lv_at hl 3 rfl) ?_
    have c_3 : ((nI dn) : Int32) ≤ nI j30 := sg_geN (show ((nI dn) : Int32) = nI (dn) from rfl) (by omega) (by omega)
    refine lv_icmp_ge (tgt := 70) hx hb dX8_firstShort_32 (by decide) (fun _ => ?_) (fun c9 => absurd c_3 c9)
    rw [sg_g_firstShort_30] at hF30
    have hq30_0 : (T30).1 = 1 := (congrArg (fun z9 => (z9).1) hF30).symm.trans sg_p1
    have hq30_1 : (T30).2 = P30 := (congrArg (fun z9 => (z9).2) hF30).symm.trans sg_p2
    replace hl : lv_has ls 4 [(2, .int (P 70 2)), (0, .ref g), (1, .int (nI dn))] := by exact lv_sub hl [1, 2, 3] rfl
    replace hP : va_P D vwCl ([(g, .inr (8, [.ref (a 0), .ref (b 0), .ref (pa 0)]))] ++ sg_St cI cZ a P q ++ sg_St cI cZ b ((T30).2) q30) H := by rw [hq30_1]; exact hP
    replace hD : va_D A ([(g, .inr (8, [.ref (a 0), .ref (b 0), .ref (pa 0)]))] ++ sg_St cI cZ a P q ++ sg_St cI cZ b ((T30).2) q30) := by rw [hq30_1]; exact hD
    have hk30 : (T30).1 = 1 := hq30_0
    clear hq30_0 hq30_1
    clear hF30
    subst hTT30
    have hk30 : ¬ ((sg_g_firstShort_30 P dn dn P).1 = 0) := by rw [hk30]; decide
    refine lv_iconst (v := (-1)) hx hb dX8_firstShort_70 (by decide) ?_
    refine W.widen (k := 0) (n := 0) (by omega) (by omega) ?_
    have hP9 : va_P D vwCl ([(g, .inr (8, [.ref (a 0), .ref (b 0), .ref (pa 0)]))] ++ sg_St cI cZ a P q ++ sg_St cI cZ b (((sg_g_firstShort_30 P dn dn P)).2) q30) H := by exact hP
    have hD9 : va_D A ([(g, .inr (8, [.ref (a 0), .ref (b 0), .ref (pa 0)]))] ++ sg_St cI cZ a P q ++ sg_St cI cZ b (((sg_g_firstShort_30 P dn dn P)).2) q30) := by exact hD
    exact W.iret (v := (-1)) hx hb hr (fun t ht hW => ⟨⟨(-1), (), rfl, (show ((-1) : Int32) = sg_g_firstShort_r P dn from by rw [sg_g_firstShort_r, if_neg hk30]), (((sg_g_firstShort_30 P dn dn P)).2), q30, by rw [ht]; exact hP9, hD9⟩, hS.F ht⟩) hS.2.2 dX8_firstShort_71
  | succ n30 ih30 =>
    intro j30 P30 q30 H locs ls hw30 hjj30 hF30 hl hS hD hP
    refine lv_iload_n hx hb dX8_firstShort_30 rfl (lv_at hl 0 rfl) ?_
    refine lv_iload_n hx hb dX8_firstShort_31 rfl (lv_at hl 3 rfl) ?_
    have c_4 : ¬ (((nI dn) : Int32) ≤ nI j30) := sg_nge (show ((nI dn) : Int32) = nI (dn) from rfl) (by omega) (by omega)
    refine lv_icmp_ge (tgt := 70) hx hb dX8_firstShort_32 (by decide) (fun c9 => absurd c9 c_4) (fun _ => ?_)
    refine lv_aload_n hx hb dX8_firstShort_35 rfl (lv_at hl 2 rfl) ?_
    refine va_get (D := D) (ci := 8) (v := .ref (b 0)) (C := RX8) (T := TX8) (N := 3) hx hb hts in8 hown hK hP 0 rfl rfl 1 (by decide) (hts (.fieldLink RX8 16 "Granary" "later" "LGranary$Stock;") (by decide +kernel)) (fun _ h9 => h9) rfl dX8_firstShort_36 ?_
    refine lv_iconst (v := 1) hx hb dX8_firstShort_39 (by decide) ?_
    have hPc := hP.sub (ws' := (sg_St cI cZ b P30 q30)) [42, 43, 44, 45, 46, 47, 48, 49, 50, 51, 52, 53, 54, 55, 56, 57, 58, 59, 60, 61, 62, 63, 64, 65, 66, 67, 68, 69, 70, 71, 72, 73, 74, 75, 76, 77, 78, 79, 80, 81, 82] rfl
    have hDc := hD.sub (ws' := (sg_St cI cZ b P30 q30)) [42, 43, 44, 45, 46, 47, 48, 49, 50, 51, 52, 53, 54, 55, 56, 57, 58, 59, 60, 61, 62, 63, 64, 65, 66, 67, 68, 69, 70, 71, 72, 73, 74, 75, 76, 77, 78, 79, 80, 81, 82] (by decide) rfl
    have hFc := va_free (wc := (sg_St cI cZ b P30 q30)) hD hS hA [42, 43, 44, 45, 46, 47, 48, 49, 50, 51, 52, 53, 54, 55, 56, 57, 58, 59, 60, 61, 62, 63, 64, 65, 66, 67, 68, 69, 70, 71, 72, 73, 74, 75, 76, 77, 78, 79, 80, 81, 82] rfl
    refine va_callv (va_runV (As := [.int 1]) (rest := []) ⟨hx, hb, hml, hown, hts⟩ (c_liveDays l D cI cZ cJ lo H.size b P30 q30 1 hw30 (by omega)) (cwV 1 hts gX8_firstShort_X6_liveDays rfl rfl rfl (by decide +kernel) ⟨(Nat.le_of_ble_eq_true rfl), (Nat.le_of_ble_eq_true rfl)⟩) ⟨Pre.blind, va_recv hK hP (ci := 6) (q0 := 42) rfl rfl, Pre.mk hPc (hDc.weaken (fun _ _ _ h => hAlo _ h)) hC hS hAlo⟩ rfl rfl hl.1 rfl (lv_room (Nat.le_of_ble_eq_true rfl)) dX8_firstShort_40 ⟨(Nat.le_of_ble_eq_true rfl), (Nat.le_of_ble_eq_true rfl)⟩) hS (fun q _ h => hFc q h) hFc (fun u t H1 locs1 ht hvm e_5 hB hz1 hk1 hS1 => ?_)
    have hS := hS1
    obtain ⟨q1_6, hP1, hD1⟩ := hB
    rw [ht] at hP1
    obtain ⟨hP, hD⟩ := va_join (wr := ([(g, .inr (8, [.ref (a 0), .ref (b 0), .ref (pa 0)]))] ++ sg_St cI cZ a P q)) (w1 := (sg_St cI cZ b (sg_liveDays P30 1) q1_6)) hP hD [42, 43, 44, 45, 46, 47, 48, 49, 50, 51, 52, 53, 54, 55, 56, 57, 58, 59, 60, 61, 62, 63, 64, 65, 66, 67, 68, 69, 70, 71, 72, 73, 74, 75, 76, 77, 78, 79, 80, 81, 82] [0, 1, 2, 3, 4, 5, 6, 7, 8, 9, 10, 11, 12, 13, 14, 15, 16, 17, 18, 19, 20, 21, 22, 23, 24, 25, 26, 27, 28, 29, 30, 31, 32, 33, 34, 35, 36, 37, 38, 39, 40, 41] rfl rfl (by decide) (by decide) hk1 hFc hP1 hD1
    have e_5 : True := e_5
    clear hFc hPc hDc ht hvm hz1 hk1 hS1 hP1 hD1
    generalize H1 = H at hP hS ⊢
    replace hP : va_P D vwCl ([(g, .inr (8, [.ref (a 0), .ref (b 0), .ref (pa 0)]))] ++ sg_St cI cZ a P q ++ sg_St cI cZ b (sg_liveDays P30 1) q1_6) H := hP
    replace hD : va_D A ([(g, .inr (8, [.ref (a 0), .ref (b 0), .ref (pa 0)]))] ++ sg_St cI cZ a P q ++ sg_St cI cZ b (sg_liveDays P30 1) q1_6) := hD
    refine lv_aload_n hx hb dX8_firstShort_43 rfl (lv_at hl 2 rfl) ?_
    refine va_get (D := D) (ci := 8) (v := .ref (b 0)) (C := RX8) (T := TX8) (N := 3) hx hb hts in8 hown hK hP 0 rfl rfl 1 (by decide) (hts (.fieldLink RX8 16 "Granary" "later" "LGranary$Stock;") (by decide +kernel)) (fun _ h9 => h9) rfl dX8_firstShort_44 ?_
    refine va_get (D := D) (ci := 6) (v := .ref (b 70)) (C := RX6) (T := TX6) (N := 9) hx hb hts in6 hown hK hP 42 rfl rfl 7 (by decide) (hts (.fieldLink RX8 119 "Granary$Stock" "account" "[I") (by decide +kernel)) (fun _ h9 => h9) rfl dX8_firstShort_47 ?_
    refine lv_iconst (v := 2) hx hb dX8_firstShort_50 (by decide) ?_
    refine sg_iald hx hb hK hP 81 0 rfl rfl (j := 2) (by decide) (Nat.le_of_ble_eq_true rfl) (Nat.le_of_ble_eq_true rfl) dX8_firstShort_51 ?_
    refine lv_toi (y := (sg_liveDays P30 1) 70 2) rfl ?_
    refine lv_iload_n hx hb dX8_firstShort_52 rfl (lv_at hl 1 rfl) ?_
    refine lv_icmp_eq (tgt := 64) hx hb dX8_firstShort_53 (by decide) (fun c_7 => ?_) (fun c_7 => ?_)
    · refine lv_iinc (v := nI (j30 + 1)) (lv' := [(3, .int (nI (j30 + 1))), (2, .int (P 70 2)), (0, .ref g), (1, .int (nI dn))]) hx hb dX8_firstShort_64 hl (k := 0) rfl (nI_1 j30) (by decide) rfl (fun ls hl => ?_)
      refine lv_goto (tgt := 30) hx hb dX8_firstShort_67 (by decide) ?_
      exact ih30 (j30 + 1) (sg_liveDays P30 1) q1_6 _ _ _ (sg_liveDays_W hw30) (by omega) (show sg_g_firstShort_30 P dn n30 (sg_liveDays P30 1) = T30 from by rw [← hF30, sg_g_firstShort_30, if_pos c_7]) (lv_sub hl [0, 1, 2, 3] rfl) hS hD hP
    · rw [sg_g_firstShort_30, if_neg c_7] at hF30
      have hq30_0 : (T30).1 = 0 := (congrArg (fun z9 => (z9).1) hF30).symm.trans sg_p1
      have hq30_1 : (T30).2 = sg_liveDays P30 1 := (congrArg (fun z9 => (z9).2) hF30).symm.trans sg_p2
      replace hl : lv_has ls 4 [(2, .int (P 70 2)), (0, .ref g), (1, .int (nI dn))] := by exact lv_sub hl [1, 2, 3] rfl
      replace hP : va_P D vwCl ([(g, .inr (8, [.ref (a 0), .ref (b 0), .ref (pa 0)]))] ++ sg_St cI cZ a P q ++ sg_St cI cZ b ((T30).2) q1_6) H := by rw [hq30_1]; exact hP
      replace hD : va_D A ([(g, .inr (8, [.ref (a 0), .ref (b 0), .ref (pa 0)]))] ++ sg_St cI cZ a P q ++ sg_St cI cZ b ((T30).2) q1_6) := by rw [hq30_1]; exact hD
      have hk30 : (T30).1 = 0 := hq30_0
      clear hq30_0 hq30_1
      clear hF30 ih30
      subst hTT30
      refine lv_aload_n hx hb dX8_firstShort_56 rfl (lv_at hl 1 rfl) ?_
      refine va_get (D := D) (ci := 8) (v := .ref (b 0)) (C := RX8) (T := TX8) (N := 3) hx hb hts in8 hown hK hP 0 rfl rfl 1 (by decide) (hts (.fieldLink RX8 16 "Granary" "later" "LGranary$Stock;") (by decide +kernel)) (fun _ h9 => h9) rfl dX8_firstShort_57 ?_
      refine va_get (D := D) (ci := 6) (v := .int ((((sg_g_firstShort_30 P dn dn P)).2) 0 0)) (C := RX6) (T := TX6) (N := 9) hx hb hts in6 hown hK hP 42 rfl rfl 0 (by decide) (hts (.fieldLink RX8 125 "Granary$Stock" "day" "I") (by decide +kernel)) (fun _ h9 => h9) rfl dX8_firstShort_60 ?_
      refine W.widen (k := 0) (n := 0) (by omega) (by omega) ?_
      have hP9 : va_P D vwCl ([(g, .inr (8, [.ref (a 0), .ref (b 0), .ref (pa 0)]))] ++ sg_St cI cZ a P q ++ sg_St cI cZ b (((sg_g_firstShort_30 P dn dn P)).2) q1_6) H := by exact hP
      have hD9 : va_D A ([(g, .inr (8, [.ref (a 0), .ref (b 0), .ref (pa 0)]))] ++ sg_St cI cZ a P q ++ sg_St cI cZ b (((sg_g_firstShort_30 P dn dn P)).2) q1_6) := by exact hD
      exact W.iret (v := ((((sg_g_firstShort_30 P dn dn P)).2) 0 0)) hx hb hr (fun t ht hW => ⟨⟨((((sg_g_firstShort_30 P dn dn P)).2) 0 0), (), rfl, (show ((((sg_g_firstShort_30 P dn dn P)).2) 0 0 : Int32) = sg_g_firstShort_r P dn from by rw [sg_g_firstShort_r, if_pos hk30]), (((sg_g_firstShort_30 P dn dn P)).2), q1_6, by rw [ht]; exact hP9, hD9⟩, hS.F ht⟩) hS.2.2 dX8_firstShort_63

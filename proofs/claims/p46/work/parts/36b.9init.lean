set_option maxHeartbeats 4000000 in
set_option maxRecDepth 100000 in
/-- X8_init -/
theorem c_X8_init (l : Launch) (D : va_G) (cI cZ cJ : ClassId) (lo sz : Nat) (h : Nat) : Met l yX8_init wsX8_init ({ frames := 3, cells := 89, slots := 28867, locals := 52 }) (Pre lo D cI cZ cJ [.ref h] sz [(h, .inr (8, [.null, .null, .null]))]) (va_Qv (fun _ : Unit => True) (fun _ t => ∃ (a : Nat → Nat) (b : Nat → Nat) (pa : Nat → Nat), va_P D vwCl ([(h, .inr (8, [.ref (a 0), .ref (b 0), .ref (pa 0)]))] ++ sg_St cI cZ a sg_0 sg_z ++ sg_St cI cZ b sg_0 sg_z ++ sg_Pl cI cJ pa sg_0 sg_L0) t.heap ∧ va_D (va_A [(h, .inr (8, [.null, .null, .null]))] sz) ([(h, .inr (8, [.ref (a 0), .ref (b 0), .ref (pa 0)]))] ++ sg_St cI cZ a sg_0 sg_z ++ sg_St cI cZ b sg_0 sg_z ++ sg_Pl cI cJ pa sg_0 sg_L0)) (va_A [(h, .inr (8, [.null, .null, .null]))] sz)) 89 28867 (va_A [(h, .inr (8, [.null, .null, .null]))] sz) := by
  refine Met.ofW (cc := cX8_init) (maxL := 1) (ret := none) (by decide) rfl ?_
  intro p e s m args below meth c s₁ B hml hv
  obtain ⟨rfl, hsz, hP, hD0, hC⟩ := hv
  have hx := B.exec
  have hb := B.bytes
  have hr := B.returns
  have hts := atoms_spec (ws := wsX8_init) B.pre
  have hown : s.vm.findClass RX8 = some m.cls := findClass_of_methodNamed B.named
  have hlocks := B.notSynchronized
  have hin : meth.name = "<init>" := (name_of_methodNamed B.named B.method).1
  subst hsz
  have hK := hC.K
  have hD := hD0.self (sz := s.heap.size)
  have hAlo0 := va_A_lo hD0 hC.1
  generalize hAe : va_A [(h, .inr (8, [.null, .null, .null]))] s.heap.size = A at hD hAlo0 ⊢
  have hA : ∀ q : Nat, s.heap.size ≤ q → A q := fun q h => by rw [← hAe]; exact Or.inr h
  have hAlo : ∀ q, A q → lo ≤ q := hAlo0
  have hS : va_S A s.heap s.heap [] := va_S.rf
  have hP : va_P D vwCl [(h, .inr (8, [.null, .null, .null]))] s.heap := hP
  have hl := lv_entry ([.ref h]) (n := 1) (Nat.le_of_ble_eq_true rfl)
  rw [lg_entry_eq]
  generalize (lg_sl ([.ref h]) ++ List.replicate (1 - (lg_sl ([.ref h])).length) Slot.unset).toArray = ls at hl ⊢
  have hl : lv_has ls 1 [(0, .ref h)] := hl
  have in3 : ∀ w ∈ u_ws RX3 TX3 7, w ∈ wsX8_init := by decide +kernel
  have in6 : ∀ w ∈ u_ws RX6 TX6 9, w ∈ wsX8_init := by decide +kernel
  have in8 : ∀ w ∈ u_ws RX8 TX8 3, w ∈ wsX8_init := by decide +kernel
  refine lv_aload_n hx hb dX8_init_0 rfl (lv_at hl 0 rfl) ?_
  refine W.objInit hx hb hown (hts (.methodLink RX8 1 objectInit) (by decide +kernel)) (hts (.instanceMethod objectInit) (by decide +kernel)) (hts _ (by decide +kernel)) rfl (by rw [hml]; exact hl.1) rfl dX8_init_1 (Nat.le_of_ble_eq_true rfl) (Nat.le_of_ble_eq_true rfl) ?_
  refine W.eq (g2 := F0 m 4 ls []) rfl ?_
  refine lv_aload_n hx hb dX8_init_4 rfl (lv_at hl 0 rfl) ?_
  refine va_new (ci := 6) (fs := [.int 0, .null, .null, .null, .null, .null, .null, .null, .null]) (C := RX6) (T := TX6) (N := 9) hx hb hts in6 tyX6 tyX6_ok hown (hts (.classLink RX8 7 RX6) (by decide +kernel)) (hts (.instantiable RX6 9) (by decide +kernel)) (hts (.initialized RX6) (by decide +kernel)) hK hP hD hS hA rfl (fun j hj => by rcases (show j = 0 ∨ j = 1 ∨ j = 2 ∨ j = 3 ∨ j = 4 ∨ j = 5 ∨ j = 6 ∨ j = 7 ∨ j = 8 by omega) with rfl | rfl | rfl | rfl | rfl | rfl | rfl | rfl | rfl <;> rfl) (Nat.le_of_ble_eq_true rfl) (Nat.le_of_ble_eq_true rfl) dX8_init_5 (fun q_1 H hP hD hS => ?_)
  replace hP : va_P D vwCl [(h, .inr (8, [.null, .null, .null])), (q_1, .inr (6, [.int 0, .null, .null, .null, .null, .null, .null, .null, .null]))] H := hP
  replace hD : va_D A [(h, .inr (8, [.null, .null, .null])), (q_1, .inr (6, [.int 0, .null, .null, .null, .null, .null, .null, .null, .null]))] := hD
  refine W.widen (k := 1) (n := 9) (by omega) (by omega) ?_
  refine lv_dup hx hb dX8_init_8 rfl ?_
  have hPc := hP.sub (ws' := [(q_1, .inr (6, [.int 0, .null, .null, .null, .null, .null, .null, .null, .null]))]) [1] rfl
  have hDc := hD.sub (ws' := [(q_1, .inr (6, [.int 0, .null, .null, .null, .null, .null, .null, .null, .null]))]) [1] (by decide) rfl
  have hFc := va_free (wc := [(q_1, .inr (6, [.int 0, .null, .null, .null, .null, .null, .null, .null, .null]))]) hD hS hA [1] rfl
  refine va_callv (va_runIN (As := []) (rest := [.ref q_1, .ref h]) ⟨hx, hb, hml, hown, hts⟩ (c_X6_init l D cI cZ cJ lo H.size q_1) ⟨va_cnB 0 hts gX8_init_X6_init_n9 rfl rfl rfl (hC.nestX8_9) (hts (.initialized RX6) (by decide +kernel)) (by decide +kernel) ⟨(Nat.le_of_ble_eq_true rfl), (Nat.le_of_ble_eq_true rfl)⟩, rfl, (hts (.instanceMethod yX6_init) (by decide +kernel))⟩ ⟨Pre.blind, Pre.mk hPc (hDc.weaken (fun _ _ _ h => hAlo _ h)) hC hS hAlo⟩ rfl rfl hl.1 rfl (lv_room (Nat.le_of_ble_eq_true rfl)) dX8_init_9 ⟨(Nat.le_of_ble_eq_true rfl), (Nat.le_of_ble_eq_true rfl)⟩) hS (fun q _ h => hFc q h) hFc (fun u t H1 locs1 ht hvm e_2 hB hz1 hk1 hS1 => ?_)
  have hS := hS1
  refine W.widen (k := 41) (n := 14395) (by omega) (by omega) ?_
  obtain ⟨a_3, hP1, hD1, b_4⟩ := hB
  rw [ht] at hP1
  obtain ⟨hP, hD⟩ := va_join (wr := [(h, .inr (8, [.null, .null, .null]))]) (w1 := (sg_St cI cZ a_3 sg_0 sg_z)) hP hD [1] [0] rfl rfl (by decide) (by decide) hk1 hFc hP1 hD1
  have e_2 : True := e_2
  clear hFc hPc hDc ht hvm hz1 hk1 hS1 hP1 hD1
  generalize H1 = H at hP hS ⊢
  replace hP : va_P D vwCl ([(h, .inr (8, [.null, .null, .null]))] ++ sg_St cI cZ a_3 sg_0 sg_z) H := hP
  replace hD : va_D A ([(h, .inr (8, [.null, .null, .null]))] ++ sg_St cI cZ a_3 sg_0 sg_z) := hD
  have hP8 := hP; have hD8 := hD
  subst b_4
  have hP := hP8; have hD := hD8; clear hP8 hD8
  replace hP : va_P D vwCl ([(h, .inr (8, [.null, .null, .null]))] ++ sg_St cI cZ a_3 sg_0 sg_z) H := hP
  replace hD : va_D A ([(h, .inr (8, [.null, .null, .null]))] ++ sg_St cI cZ a_3 sg_0 sg_z) := hD
  refine va_putF (D := D) (ci := 8) (v := .ref (a_3 0)) (ty := .object "Granary$Stock") (C := RX8) (T := TX8) (N := 3) hx hb hts in8 tyX8 tyX8_ok nmX8 hown hK hP hD hS 0 rfl rfl 0 (by decide) (hts (.fieldLink RX8 10 "Granary" "now" "LGranary$Stock;") (by decide +kernel)) (fun _ h9 => h9) rfl hin rfl (by decide +kernel) rfl rfl (Nat.le_of_ble_eq_true rfl) dX8_init_12 (fun H locs hP hD hS => ?_)
  replace hP : va_P D vwCl ([(h, .inr (8, [.ref (a_3 0), .null, .null]))] ++ sg_St cI cZ a_3 sg_0 sg_z) H := hP
  replace hD : va_D A ([(h, .inr (8, [.ref (a_3 0), .null, .null]))] ++ sg_St cI cZ a_3 sg_0 sg_z) := hD
  refine lv_aload_n hx hb dX8_init_15 rfl (lv_at hl 0 rfl) ?_
  refine va_new (ci := 6) (fs := [.int 0, .null, .null, .null, .null, .null, .null, .null, .null]) (C := RX6) (T := TX6) (N := 9) hx hb hts in6 tyX6 tyX6_ok hown (hts (.classLink RX8 7 RX6) (by decide +kernel)) (hts (.instantiable RX6 9) (by decide +kernel)) (hts (.initialized RX6) (by decide +kernel)) hK hP hD hS hA rfl (fun j hj => by rcases (show j = 0 ∨ j = 1 ∨ j = 2 ∨ j = 3 ∨ j = 4 ∨ j = 5 ∨ j = 6 ∨ j = 7 ∨ j = 8 by omega) with rfl | rfl | rfl | rfl | rfl | rfl | rfl | rfl | rfl <;> rfl) (Nat.le_of_ble_eq_true rfl) (Nat.le_of_ble_eq_true rfl) dX8_init_16 (fun q_5 H hP hD hS => ?_)
  replace hP : va_P D vwCl ([(h, .inr (8, [.ref (a_3 0), .null, .null]))] ++ sg_St cI cZ a_3 sg_0 sg_z ++ [(q_5, .inr (6, [.int 0, .null, .null, .null, .null, .null, .null, .null, .null]))]) H := hP
  replace hD : va_D A ([(h, .inr (8, [.ref (a_3 0), .null, .null]))] ++ sg_St cI cZ a_3 sg_0 sg_z ++ [(q_5, .inr (6, [.int 0, .null, .null, .null, .null, .null, .null, .null, .null]))]) := hD
  refine W.widen (k := 42) (n := 14404) (by omega) (by omega) ?_
  refine lv_dup hx hb dX8_init_19 rfl ?_
  have hPc := hP.sub (ws' := [(q_5, .inr (6, [.int 0, .null, .null, .null, .null, .null, .null, .null, .null]))]) [42] rfl
  have hDc := hD.sub (ws' := [(q_5, .inr (6, [.int 0, .null, .null, .null, .null, .null, .null, .null, .null]))]) [42] (by decide) rfl
  have hFc := va_free (wc := [(q_5, .inr (6, [.int 0, .null, .null, .null, .null, .null, .null, .null, .null]))]) hD hS hA [42] rfl
  refine va_callv (va_runIN (As := []) (rest := [.ref q_5, .ref h]) ⟨hx, hb, hml, hown, hts⟩ (c_X6_init l D cI cZ cJ lo H.size q_5) ⟨va_cnB 0 hts gX8_init_X6_init_n9 rfl rfl rfl (hC.nestX8_9) (hts (.initialized RX6) (by decide +kernel)) (by decide +kernel) ⟨(Nat.le_of_ble_eq_true rfl), (Nat.le_of_ble_eq_true rfl)⟩, rfl, (hts (.instanceMethod yX6_init) (by decide +kernel))⟩ ⟨Pre.blind, Pre.mk hPc (hDc.weaken (fun _ _ _ h => hAlo _ h)) hC hS hAlo⟩ rfl rfl hl.1 rfl (lv_room (Nat.le_of_ble_eq_true rfl)) dX8_init_20 ⟨(Nat.le_of_ble_eq_true rfl), (Nat.le_of_ble_eq_true rfl)⟩) hS (fun q _ h => hFc q h) hFc (fun u t H1 locs1 ht hvm e_6 hB hz1 hk1 hS1 => ?_)
  have hS := hS1
  refine W.widen (k := 82) (n := 28790) (by omega) (by omega) ?_
  obtain ⟨a_7, hP1, hD1, b_8⟩ := hB
  rw [ht] at hP1
  obtain ⟨hP, hD⟩ := va_join (wr := ([(h, .inr (8, [.ref (a_3 0), .null, .null]))] ++ sg_St cI cZ a_3 sg_0 sg_z)) (w1 := (sg_St cI cZ a_7 sg_0 sg_z)) hP hD [42] [0, 1, 2, 3, 4, 5, 6, 7, 8, 9, 10, 11, 12, 13, 14, 15, 16, 17, 18, 19, 20, 21, 22, 23, 24, 25, 26, 27, 28, 29, 30, 31, 32, 33, 34, 35, 36, 37, 38, 39, 40, 41] rfl rfl (by decide) (by decide) hk1 hFc hP1 hD1
  have e_6 : True := e_6
  clear hFc hPc hDc ht hvm hz1 hk1 hS1 hP1 hD1
  generalize H1 = H at hP hS ⊢
  replace hP : va_P D vwCl ([(h, .inr (8, [.ref (a_3 0), .null, .null]))] ++ sg_St cI cZ a_3 sg_0 sg_z ++ sg_St cI cZ a_7 sg_0 sg_z) H := hP
  replace hD : va_D A ([(h, .inr (8, [.ref (a_3 0), .null, .null]))] ++ sg_St cI cZ a_3 sg_0 sg_z ++ sg_St cI cZ a_7 sg_0 sg_z) := hD
  have hP8 := hP; have hD8 := hD
  subst b_8
  have hP := hP8; have hD := hD8; clear hP8 hD8
  replace hP : va_P D vwCl ([(h, .inr (8, [.ref (a_3 0), .null, .null]))] ++ sg_St cI cZ a_3 sg_0 sg_z ++ sg_St cI cZ a_7 sg_0 sg_z) H := hP
  replace hD : va_D A ([(h, .inr (8, [.ref (a_3 0), .null, .null]))] ++ sg_St cI cZ a_3 sg_0 sg_z ++ sg_St cI cZ a_7 sg_0 sg_z) := hD
  refine va_putF (D := D) (ci := 8) (v := .ref (a_7 0)) (ty := .object "Granary$Stock") (C := RX8) (T := TX8) (N := 3) hx hb hts in8 tyX8 tyX8_ok nmX8 hown hK hP hD hS 0 rfl rfl 1 (by decide) (hts (.fieldLink RX8 16 "Granary" "later" "LGranary$Stock;") (by decide +kernel)) (fun _ h9 => h9) rfl hin rfl (by decide +kernel) rfl rfl (Nat.le_of_ble_eq_true rfl) dX8_init_23 (fun H locs hP hD hS => ?_)
  replace hP : va_P D vwCl ([(h, .inr (8, [.ref (a_3 0), .ref (a_7 0), .null]))] ++ sg_St cI cZ a_3 sg_0 sg_z ++ sg_St cI cZ a_7 sg_0 sg_z) H := hP
  replace hD : va_D A ([(h, .inr (8, [.ref (a_3 0), .ref (a_7 0), .null]))] ++ sg_St cI cZ a_3 sg_0 sg_z ++ sg_St cI cZ a_7 sg_0 sg_z) := hD
  refine lv_aload_n hx hb dX8_init_26 rfl (lv_at hl 0 rfl) ?_
  refine va_new (ci := 3) (fs := [.int 0, .null, .null, .null, .null, .null, .null]) (C := RX3) (T := TX3) (N := 7) hx hb hts in3 tyX3 tyX3_ok hown (hts (.classLink RX8 19 RX3) (by decide +kernel)) (hts (.instantiable RX3 7) (by decide +kernel)) (hts (.initialized RX3) (by decide +kernel)) hK hP hD hS hA rfl (fun j hj => by rcases (show j = 0 ∨ j = 1 ∨ j = 2 ∨ j = 3 ∨ j = 4 ∨ j = 5 ∨ j = 6 by omega) with rfl | rfl | rfl | rfl | rfl | rfl | rfl <;> rfl) (Nat.le_of_ble_eq_true rfl) (Nat.le_of_ble_eq_true rfl) dX8_init_27 (fun q_9 H hP hD hS => ?_)
  replace hP : va_P D vwCl ([(h, .inr (8, [.ref (a_3 0), .ref (a_7 0), .null]))] ++ sg_St cI cZ a_3 sg_0 sg_z ++ sg_St cI cZ a_7 sg_0 sg_z ++ [(q_9, .inr (3, [.int 0, .null, .null, .null, .null, .null, .null]))]) H := hP
  replace hD : va_D A ([(h, .inr (8, [.ref (a_3 0), .ref (a_7 0), .null]))] ++ sg_St cI cZ a_3 sg_0 sg_z ++ sg_St cI cZ a_7 sg_0 sg_z ++ [(q_9, .inr (3, [.int 0, .null, .null, .null, .null, .null, .null]))]) := hD
  refine W.widen (k := 83) (n := 28797) (by omega) (by omega) ?_
  refine lv_dup hx hb dX8_init_30 rfl ?_
  have hPc := hP.sub (ws' := [(q_9, .inr (3, [.int 0, .null, .null, .null, .null, .null, .null]))]) [83] rfl
  have hDc := hD.sub (ws' := [(q_9, .inr (3, [.int 0, .null, .null, .null, .null, .null, .null]))]) [83] (by decide) rfl
  have hFc := va_free (wc := [(q_9, .inr (3, [.int 0, .null, .null, .null, .null, .null, .null]))]) hD hS hA [83] rfl
  refine va_callv (va_runIN (As := []) (rest := [.ref q_9, .ref h]) ⟨hx, hb, hml, hown, hts⟩ (c_X3_init l D cI cZ cJ lo H.size q_9) ⟨va_cnB 0 hts gX8_init_X3_init_n21 rfl rfl rfl (hC.nestX8_21) (hts (.initialized RX3) (by decide +kernel)) (by decide +kernel) ⟨(Nat.le_of_ble_eq_true rfl), (Nat.le_of_ble_eq_true rfl)⟩, rfl, (hts (.instanceMethod yX3_init) (by decide +kernel))⟩ ⟨Pre.blind, Pre.mk hPc (hDc.weaken (fun _ _ _ h => hAlo _ h)) hC hS hAlo⟩ rfl rfl hl.1 rfl (lv_room (Nat.le_of_ble_eq_true rfl)) dX8_init_31 ⟨(Nat.le_of_ble_eq_true rfl), (Nat.le_of_ble_eq_true rfl)⟩) hS (fun q _ h => hFc q h) hFc (fun u t H1 locs1 ht hvm e_10 hB hz1 hk1 hS1 => ?_)
  have hS := hS1
  refine W.widen (k := 89) (n := 28867) (by omega) (by omega) ?_
  obtain ⟨pa_11, hP1, hD1, b_12⟩ := hB
  rw [ht] at hP1
  obtain ⟨hP, hD⟩ := va_join (wr := ([(h, .inr (8, [.ref (a_3 0), .ref (a_7 0), .null]))] ++ sg_St cI cZ a_3 sg_0 sg_z ++ sg_St cI cZ a_7 sg_0 sg_z)) (w1 := (sg_Pl cI cJ pa_11 sg_0 sg_L0)) hP hD [83] [0, 1, 2, 3, 4, 5, 6, 7, 8, 9, 10, 11, 12, 13, 14, 15, 16, 17, 18, 19, 20, 21, 22, 23, 24, 25, 26, 27, 28, 29, 30, 31, 32, 33, 34, 35, 36, 37, 38, 39, 40, 41, 42, 43, 44, 45, 46, 47, 48, 49, 50, 51, 52, 53, 54, 55, 56, 57, 58, 59, 60, 61, 62, 63, 64, 65, 66, 67, 68, 69, 70, 71, 72, 73, 74, 75, 76, 77, 78, 79, 80, 81, 82] rfl rfl (by decide) (by decide) hk1 hFc hP1 hD1
  have e_10 : True := e_10
  clear hFc hPc hDc ht hvm hz1 hk1 hS1 hP1 hD1
  generalize H1 = H at hP hS ⊢
  replace hP : va_P D vwCl ([(h, .inr (8, [.ref (a_3 0), .ref (a_7 0), .null]))] ++ sg_St cI cZ a_3 sg_0 sg_z ++ sg_St cI cZ a_7 sg_0 sg_z ++ sg_Pl cI cJ pa_11 sg_0 sg_L0) H := hP
  replace hD : va_D A ([(h, .inr (8, [.ref (a_3 0), .ref (a_7 0), .null]))] ++ sg_St cI cZ a_3 sg_0 sg_z ++ sg_St cI cZ a_7 sg_0 sg_z ++ sg_Pl cI cJ pa_11 sg_0 sg_L0) := hD
  have hP8 := hP; have hD8 := hD
  subst b_12
  have hP := hP8; have hD := hD8; clear hP8 hD8
  replace hP : va_P D vwCl ([(h, .inr (8, [.ref (a_3 0), .ref (a_7 0), .null]))] ++ sg_St cI cZ a_3 sg_0 sg_z ++ sg_St cI cZ a_7 sg_0 sg_z ++ sg_Pl cI cJ pa_11 sg_0 sg_L0) H := hP
  replace hD : va_D A ([(h, .inr (8, [.ref (a_3 0), .ref (a_7 0), .null]))] ++ sg_St cI cZ a_3 sg_0 sg_z ++ sg_St cI cZ a_7 sg_0 sg_z ++ sg_Pl cI cJ pa_11 sg_0 sg_L0) := hD
  refine va_putF (D := D) (ci := 8) (v := .ref (pa_11 0)) (ty := .object "Granary$Plan") (C := RX8) (T := TX8) (N := 3) hx hb hts in8 tyX8 tyX8_ok nmX8 hown hK hP hD hS 0 rfl rfl 2 (by decide) (hts (.fieldLink RX8 22 "Granary" "plan" "LGranary$Plan;") (by decide +kernel)) (fun _ h9 => h9) rfl hin rfl (by decide +kernel) rfl rfl (Nat.le_of_ble_eq_true rfl) dX8_init_34 (fun H locs hP hD hS => ?_)
  replace hP : va_P D vwCl ([(h, .inr (8, [.ref (a_3 0), .ref (a_7 0), .ref (pa_11 0)]))] ++ sg_St cI cZ a_3 sg_0 sg_z ++ sg_St cI cZ a_7 sg_0 sg_z ++ sg_Pl cI cJ pa_11 sg_0 sg_L0) H := hP
  replace hD : va_D A ([(h, .inr (8, [.ref (a_3 0), .ref (a_7 0), .ref (pa_11 0)]))] ++ sg_St cI cZ a_3 sg_0 sg_z ++ sg_St cI cZ a_7 sg_0 sg_z ++ sg_Pl cI cJ pa_11 sg_0 sg_L0) := hD
  refine W.widen (k := 89) (n := 28867) (by omega) (by omega) ?_
  have hP9 := hP.sub (ws' := ([(h, .inr (8, [.ref (a_3 0), .ref (a_7 0), .ref (pa_11 0)]))] ++ sg_St cI cZ a_3 sg_0 sg_z ++ sg_St cI cZ a_7 sg_0 sg_z ++ sg_Pl cI cJ pa_11 sg_0 sg_L0)) [0, 1, 2, 3, 4, 5, 6, 7, 8, 9, 10, 11, 12, 13, 14, 15, 16, 17, 18, 19, 20, 21, 22, 23, 24, 25, 26, 27, 28, 29, 30, 31, 32, 33, 34, 35, 36, 37, 38, 39, 40, 41, 42, 43, 44, 45, 46, 47, 48, 49, 50, 51, 52, 53, 54, 55, 56, 57, 58, 59, 60, 61, 62, 63, 64, 65, 66, 67, 68, 69, 70, 71, 72, 73, 74, 75, 76, 77, 78, 79, 80, 81, 82, 83, 84, 85, 86, 87, 88, 89] rfl
  have hD9 := hD.sub (ws' := ([(h, .inr (8, [.ref (a_3 0), .ref (a_7 0), .ref (pa_11 0)]))] ++ sg_St cI cZ a_3 sg_0 sg_z ++ sg_St cI cZ a_7 sg_0 sg_z ++ sg_Pl cI cJ pa_11 sg_0 sg_L0)) [0, 1, 2, 3, 4, 5, 6, 7, 8, 9, 10, 11, 12, 13, 14, 15, 16, 17, 18, 19, 20, 21, 22, 23, 24, 25, 26, 27, 28, 29, 30, 31, 32, 33, 34, 35, 36, 37, 38, 39, 40, 41, 42, 43, 44, 45, 46, 47, 48, 49, 50, 51, 52, 53, 54, 55, 56, 57, 58, 59, 60, 61, 62, 63, 64, 65, 66, 67, 68, 69, 70, 71, 72, 73, 74, 75, 76, 77, 78, 79, 80, 81, 82, 83, 84, 85, 86, 87, 88, 89] (by decide) rfl
  exact W.vret hx hb hr (fun t ht hW => ⟨⟨(), rfl, trivial, a_3, a_7, pa_11, by rw [ht]; exact hP9, hD9⟩, hS.F ht⟩) hS.2.2 dX8_init_37

def sg_g_mixPlans_72 (U : sg_Pic) (V : sg_PiL) (P : sg_Pic) (x : Int64) (j5 : Nat) (x5_3 : Int64) (U5 : sg_Pic) (V5 : sg_PiL) (j54 : Nat) (x54_3 : Int64) : Nat → Int64
  | 0 => x54_3
  | j72 + 1 => (if (nI j54) = (nI j72) then (sg_g_mixPlans_72 U V P x j5 x5_3 U5 V5 j54 x54_3 j72) else (((sg_g_mixPlans_72 U V P x j5 x5_3 U5 V5 j54 x54_3 j72) * 31) + (((sg_make_U U5 V5 P j5) 6 ((j54 * 5) + j72)).toInt64)))

def sg_g_mixPlans_54 (U : sg_Pic) (V : sg_PiL) (P : sg_Pic) (x : Int64) (j5 : Nat) (x5_3 : Int64) (U5 : sg_Pic) (V5 : sg_PiL) : Nat → Int64
  | 0 => (x5_3 * 31) + ((sg_classFor P j5).toInt64)
  | j54 + 1 => (sg_g_mixPlans_72 U V P x j5 x5_3 U5 V5 j54 (sg_g_mixPlans_54 U V P x j5 x5_3 U5 V5 j54) (sg_cn P 2))

def sg_g_mixPlans_5 (U : sg_Pic) (V : sg_PiL) (P : sg_Pic) (x : Int64) : Nat → Int64 × sg_Pic × sg_PiL
  | 0 => (x, U, V)
  | j5 + 1 => (sg_g_mixPlans_54 U V P x j5 ((sg_g_mixPlans_5 U V P x j5).1) ((sg_g_mixPlans_5 U V P x j5).2.1) ((sg_g_mixPlans_5 U V P x j5).2.2) (sg_cn P 2), sg_make_U ((sg_g_mixPlans_5 U V P x j5).2.1) ((sg_g_mixPlans_5 U V P x j5).2.2) P j5, sg_make_V ((sg_g_mixPlans_5 U V P x j5).2.1) ((sg_g_mixPlans_5 U V P x j5).2.2) P j5)

def sg_g_mixPlans_r (U : sg_Pic) (V : sg_PiL) (P : sg_Pic) (x : Int64) : Int64 := ((sg_g_mixPlans_5 U V P x (sg_cn P 1)).1)

def sg_g_mixPlans_U (U : sg_Pic) (V : sg_PiL) (P : sg_Pic) (x : Int64) : sg_Pic := ((sg_g_mixPlans_5 U V P x (sg_cn P 1)).2.1)

def sg_g_mixPlans_V (U : sg_Pic) (V : sg_PiL) (P : sg_Pic) (x : Int64) : sg_PiL := ((sg_g_mixPlans_5 U V P x (sg_cn P 1)).2.2)

set_option maxHeartbeats 4000000 in
set_option maxRecDepth 100000 in
/-- X8_mixPlans -/
theorem c_g_mixPlans (l : Launch) (D : va_G) (cI cZ cJ : ClassId) (lo sz : Nat) (g : Nat) (pa : Nat → Nat) (b : Nat → Nat) (U : sg_Pic) (V : sg_PiL) (a : Nat → Nat) (P : sg_Pic) (q : Nat → Int32) (x : Int64) (hw : sg_W P) : Met l yX8_mixPlans wsX8_mixPlans ({ frames := 5, cells := 0, slots := 0, locals := 117 }) (Pre lo D cI cZ cJ [.ref g, .long x] sz ([(g, .inr (8, [.ref (a 0), .ref (b 0), .ref (pa 0)]))] ++ sg_St cI cZ a P q ++ sg_Pl cI cJ pa U V)) (va_Ql (fun (r : Int64) (_ : Unit) => r = sg_g_mixPlans_r U V P x) (fun _ t => va_P D vwCl ([(g, .inr (8, [.ref (a 0), .ref (b 0), .ref (pa 0)]))] ++ sg_St cI cZ a P q ++ sg_Pl cI cJ pa (sg_g_mixPlans_U U V P x) (sg_g_mixPlans_V U V P x)) t.heap ∧ va_D (va_A ([(g, .inr (8, [.ref (a 0), .ref (b 0), .ref (pa 0)]))] ++ sg_St cI cZ a P q ++ sg_Pl cI cJ pa U V) sz) ([(g, .inr (8, [.ref (a 0), .ref (b 0), .ref (pa 0)]))] ++ sg_St cI cZ a P q ++ sg_Pl cI cJ pa (sg_g_mixPlans_U U V P x) (sg_g_mixPlans_V U V P x))) (va_A ([(g, .inr (8, [.ref (a 0), .ref (b 0), .ref (pa 0)]))] ++ sg_St cI cZ a P q ++ sg_Pl cI cJ pa U V) sz)) 0 0 (va_A ([(g, .inr (8, [.ref (a 0), .ref (b 0), .ref (pa 0)]))] ++ sg_St cI cZ a P q ++ sg_Pl cI cJ pa U V) sz) := by
  refine Met.ofW (cc := cX8_mixPlans) (maxL := 8) (ret := (some .long)) (by decide) rfl ?_
  intro p e s m args below meth c s₁ B hml hv
  obtain ⟨rfl, hsz, hP, hD0, hC⟩ := hv
  have hx := B.exec
  have hb := B.bytes
  have hr := B.returns
  have hts := atoms_spec (ws := wsX8_mixPlans) B.pre
  have hown : s.vm.findClass RX8 = some m.cls := findClass_of_methodNamed B.named
  have hlocks := B.notSynchronized
  subst hsz
  have hn1 : sg_cn P 1 ≤ 6 := hw.n1
  have hn2 : sg_cn P 2 ≤ 5 := hw.n2
  have hn3 : sg_cn P 3 ≤ 200 := hw.n3
  have hn4 : sg_cn P 4 ≤ 60 := hw.n4
  have hn5 : sg_cn P 5 ≤ 90 := hw.n5
  have hK := hC.K
  have hD := hD0.self (sz := s.heap.size)
  have hAlo0 := va_A_lo hD0 hC.1
  generalize hAe : va_A ([(g, .inr (8, [.ref (a 0), .ref (b 0), .ref (pa 0)]))] ++ sg_St cI cZ a P q ++ sg_Pl cI cJ pa U V) s.heap.size = A at hD hAlo0 ⊢
  have hA : ∀ q : Nat, s.heap.size ≤ q → A q := fun q h => by rw [← hAe]; exact Or.inr h
  have hAlo : ∀ q, A q → lo ≤ q := hAlo0
  have hS : va_S A s.heap s.heap [] := va_S.rf
  have hP : va_P D vwCl ([(g, .inr (8, [.ref (a 0), .ref (b 0), .ref (pa 0)]))] ++ sg_St cI cZ a P q ++ sg_Pl cI cJ pa U V) s.heap := hP
  have hl := lv_entry ([.ref g, .long x]) (n := 8) (Nat.le_of_ble_eq_true rfl)
  rw [lg_entry_eq]
  generalize (lg_sl ([.ref g, .long x]) ++ List.replicate (8 - (lg_sl ([.ref g, .long x])).length) Slot.unset).toArray = ls at hl ⊢
  have hl : lv_has ls 8 [(0, .ref g), (1, .long x)] := hl
  have in0 : ∀ w ∈ u_ws RX0 TX0 5, w ∈ wsX8_mixPlans := by decide +kernel
  have in3 : ∀ w ∈ u_ws RX3 TX3 7, w ∈ wsX8_mixPlans := by decide +kernel
  have in5 : ∀ w ∈ u_ws RX5 TX5 3, w ∈ wsX8_mixPlans := by decide +kernel
  have in6 : ∀ w ∈ u_ws RX6 TX6 9, w ∈ wsX8_mixPlans := by decide +kernel
  have in8 : ∀ w ∈ u_ws RX8 TX8 3, w ∈ wsX8_mixPlans := by decide +kernel
  refine lv_lload_n hx hb dX8_mixPlans_0 rfl (lv_at hl 1 rfl) ?_
  refine lv_lstore_n (lv' := [(3, .long x), (0, .ref g), (1, .long x)]) hx hb dX8_mixPlans_1 rfl hl (by decide) rfl (fun ls hl => ?_)
  refine lv_iconst (v := 0) hx hb dX8_mixPlans_2 (by decide) ?_
  refine lv_istore (lv' := [(5, .int 0), (3, .long x), (0, .ref g), (1, .long x)]) hx hb dX8_mixPlans_3 hl (by decide) rfl (fun ls hl => ?_)
  obtain ⟨H, hH9⟩ : ∃ z : Heap, z = s.heap := ⟨_, rfl⟩
  replace hS : va_S A s.heap H [] := by rw [hH9]; exact va_S.rf
  replace hP : va_P D vwCl ([(g, .inr (8, [.ref (a 0), .ref (b 0), .ref (pa 0)]))] ++ sg_St cI cZ a P q ++ sg_Pl cI cJ pa U V) H := by rw [hH9]; exact hP
  rw [← hH9]
  clear hH9
  generalize ([] : List Loc) = locs at hS ⊢
  obtain ⟨j5, h0j5⟩ : ∃ j : Nat, j = 0 := ⟨_, rfl⟩
  obtain ⟨x5_3, hx5_3⟩ : ∃ z9 : Int64, z9 = (sg_g_mixPlans_5 U V P x j5).1 := ⟨_, rfl⟩
  obtain ⟨U5, hU5⟩ : ∃ z9 : sg_Pic, z9 = (sg_g_mixPlans_5 U V P x j5).2.1 := ⟨_, rfl⟩
  obtain ⟨V5, hV5⟩ : ∃ z9 : sg_PiL, z9 = (sg_g_mixPlans_5 U V P x j5).2.2 := ⟨_, rfl⟩
  replace hl : lv_has ls 8 [(5, .int (nI j5)), (3, .long x5_3), (0, .ref g), (1, .long x)] := by rw [hx5_3, h0j5]; exact hl
  replace hP : va_P D vwCl ([(g, .inr (8, [.ref (a 0), .ref (b 0), .ref (pa 0)]))] ++ sg_St cI cZ a P q ++ sg_Pl cI cJ pa U5 V5) H := by rw [hU5, hV5, h0j5]; exact hP
  replace hD : va_D A ([(g, .inr (8, [.ref (a 0), .ref (b 0), .ref (pa 0)]))] ++ sg_St cI cZ a P q ++ sg_Pl cI cJ pa U5 V5) := by rw [hU5, hV5, h0j5]; exact hD
  have hjj5 : j5 ≤ sg_cn P 1 := by omega
  clear h0j5
  obtain ⟨n5, hn5⟩ : ∃ n : Nat, sg_cn P 1 < j5 + n := ⟨sg_cn P 1 + 1, by omega⟩
  revert hP
  revert hD
  revert hS
  revert hl
  revert hn5
  revert hjj5
  revert hx5_3
  revert hU5
  revert hV5
  revert ls
  revert locs
  revert H
  revert x5_3
  revert U5
  revert V5
  revert j5
  induction n5 with
  | zero =>
    intro j5 V5 U5 x5_3 H locs ls hV5 hU5 hx5_3 hjj5 hn5 hl hS hD hP
    exact absurd hn5 (by omega)
  | succ n5 ih5 =>
    intro j5 V5 U5 x5_3 H locs ls hV5 hU5 hx5_3 hjj5 hn5 hl hS hD hP
    refine lv_iload hx hb dX8_mixPlans_5 (lv_at hl 0 rfl) ?_
    refine lv_aload_n hx hb dX8_mixPlans_7 rfl (lv_at hl 2 rfl) ?_
    refine va_get (D := D) (ci := 8) (v := .ref (a 0)) (C := RX8) (T := TX8) (N := 3) hx hb hts in8 hown hK hP 0 rfl rfl 0 (by decide) (hts (.fieldLink RX8 10 "Granary" "now" "LGranary$Stock;") (by decide +kernel)) (fun _ h9 => h9) rfl dX8_mixPlans_8 ?_
    refine va_get (D := D) (ci := 6) (v := .ref (a 1)) (C := RX6) (T := TX6) (N := 9) hx hb hts in6 hown hK hP 1 rfl rfl 1 (by decide) (hts (.fieldLink RX8 30 "Granary$Stock" "items" "LGranary$Items;") (by decide +kernel)) (fun _ h9 => h9) rfl dX8_mixPlans_11 ?_
    refine va_get (D := D) (ci := 0) (v := .int (P 0 1)) (C := RX0) (T := TX0) (N := 5) hx hb hts in0 hown hK hP 2 rfl rfl 0 (by decide) (hts (.fieldLink RX8 34 "Granary$Items" "count" "I") (by decide +kernel)) (fun _ h9 => h9) rfl dX8_mixPlans_14 ?_
    have hB5 : ((P 0 1) : Int32) = nI (sg_cn P 1) := (hw.e1)
    refine lv_icmp_ge (tgt := 133) hx hb dX8_mixPlans_17 (by decide) (fun c_1 => ?_) (fun c_1 => ?_)
    · have hE5 : sg_cn P 1 = j5 := (sg_eq hB5 c_1 hjj5 (by omega)).symm
      clear ih5 hn5
      subst hE5
      subst hx5_3
      subst hU5
      subst hV5
      refine lv_lload_n hx hb dX8_mixPlans_133 rfl (lv_at hl 1 rfl) ?_
      refine W.widen (k := 0) (n := 0) (by omega) (by omega) ?_
      have hP9 : va_P D vwCl ([(g, .inr (8, [.ref (a 0), .ref (b 0), .ref (pa 0)]))] ++ sg_St cI cZ a P q ++ sg_Pl cI cJ pa (sg_g_mixPlans_U U V P x) (sg_g_mixPlans_V U V P x)) H := by exact hP
      have hD9 : va_D A ([(g, .inr (8, [.ref (a 0), .ref (b 0), .ref (pa 0)]))] ++ sg_St cI cZ a P q ++ sg_Pl cI cJ pa (sg_g_mixPlans_U U V P x) (sg_g_mixPlans_V U V P x)) := by exact hD
      exact W.lret (v := ((sg_g_mixPlans_5 U V P x (sg_cn P 1)).1)) hx hb hr (fun t ht hW => ⟨⟨((sg_g_mixPlans_5 U V P x (sg_cn P 1)).1), (), rfl, rfl, by rw [ht]; exact hP9, hD9⟩, hS.F ht⟩) hS.2.2 dX8_mixPlans_134
    · have hL5 : j5 < sg_cn P 1 := sg_lt hB5 c_1 (by omega)
      refine lv_lload_n hx hb dX8_mixPlans_20 rfl (lv_at hl 1 rfl) ?_
      refine lv_aload_n hx hb dX8_mixPlans_21 rfl (lv_at hl 2 rfl) ?_
      refine va_get (D := D) (ci := 8) (v := .ref (a 0)) (C := RX8) (T := TX8) (N := 3) hx hb hts in8 hown hK hP 0 rfl rfl 0 (by decide) (hts (.fieldLink RX8 10 "Granary" "now" "LGranary$Stock;") (by decide +kernel)) (fun _ h9 => h9) rfl dX8_mixPlans_22 ?_
      refine va_get (D := D) (ci := 6) (v := .ref (a 1)) (C := RX6) (T := TX6) (N := 9) hx hb hts in6 hown hK hP 1 rfl rfl 1 (by decide) (hts (.fieldLink RX8 30 "Granary$Stock" "items" "LGranary$Items;") (by decide +kernel)) (fun _ h9 => h9) rfl dX8_mixPlans_25 ?_
      refine lv_iload hx hb dX8_mixPlans_28 (lv_at hl 0 rfl) ?_
      have hPc := hP.sub (ws' := [(a 1, .inr (0, [.int (P 0 1), .ref (a 10), .ref (a 11), .ref (a 12), .ref (a 13)])), (a 13, .inl (cI, 6, .inl (P 13)))]) [2, 11] rfl
      have hDc := hD.sub (ws' := [(a 1, .inr (0, [.int (P 0 1), .ref (a 10), .ref (a 11), .ref (a 12), .ref (a 13)])), (a 13, .inl (cI, 6, .inl (P 13)))]) [2, 11] (by decide) rfl
      refine vp_callSi (W.runV (As := [.int (nI j5)]) (rest := [.long x5_3]) ⟨hx, hb, hml, hown, hts⟩ (c_classFor l D cI cZ cJ lo H.size a P j5 hw (by omega)) (cwV 1 hts gX8_mixPlans_X0_classFor rfl rfl rfl (by decide +kernel) ⟨(Nat.le_of_ble_eq_true rfl), (Nat.le_of_ble_eq_true rfl)⟩) ⟨Pre.blind, va_recv hK hP (ci := 0) (q0 := 2) rfl rfl, Pre.mk hPc (hDc.weaken (fun _ _ _ h => hAlo _ h)) hC hS hAlo⟩ rfl rfl hl.1 rfl (lv_room (Nat.le_of_ble_eq_true rfl)) dX8_mixPlans_30 ⟨(Nat.le_of_ble_eq_true rfl), (Nat.le_of_ble_eq_true rfl)⟩) (fun r_2 e_3 => ?_)
      clear hPc hDc
      have e_3 : sg_classFor P j5 = r_2 := Eq.symm e_3
      subst e_3
      refine lv_i2l (v := (sg_classFor P j5).toInt64) hx hb dX8_mixPlans_33 rfl ?_
      have hPc := hP.sub (ws' := []) [] rfl
      have hDc := hD.sub (ws' := []) [] (by decide) rfl
      refine vp_callSl (W.runS (As := [.long x5_3, .long ((sg_classFor P j5).toInt64)]) (rest := []) ⟨hx, hb, hml, hown, hts⟩ (c_mix l D cI cZ cJ lo H.size x5_3 ((sg_classFor P j5).toInt64)) (va_cwS 2 hts gX8_mixPlans_X8_mix rfl rfl rfl (by decide +kernel) ⟨(Nat.le_of_ble_eq_true rfl), (Nat.le_of_ble_eq_true rfl)⟩) ⟨Pre.blind, Pre.mk hPc (hDc.weaken (fun _ _ _ h => hAlo _ h)) hC hS hAlo⟩ rfl rfl hl.1 rfl (lv_room (Nat.le_of_ble_eq_true rfl)) dX8_mixPlans_34 ⟨(Nat.le_of_ble_eq_true rfl), (Nat.le_of_ble_eq_true rfl)⟩) (fun r_4 e_5 => ?_)
      clear hPc hDc
      have e_5 : (x5_3 * 31) + ((sg_classFor P j5).toInt64) = r_4 := Eq.symm e_5
      subst e_5
      refine lv_lstore_n (lv' := [(3, .long ((x5_3 * 31) + ((sg_classFor P j5).toInt64))), (5, .int (nI j5)), (0, .ref g), (1, .long x)]) hx hb dX8_mixPlans_37 rfl hl (by decide) rfl (fun ls hl => ?_)
      refine lv_aload_n hx hb dX8_mixPlans_38 rfl (lv_at hl 2 rfl) ?_
      refine va_get (D := D) (ci := 8) (v := .ref (pa 0)) (C := RX8) (T := TX8) (N := 3) hx hb hts in8 hown hK hP 0 rfl rfl 2 (by decide) (hts (.fieldLink RX8 22 "Granary" "plan" "LGranary$Plan;") (by decide +kernel)) (fun _ h9 => h9) rfl dX8_mixPlans_39 ?_
      refine lv_aload_n hx hb dX8_mixPlans_42 rfl (lv_at hl 2 rfl) ?_
      refine va_get (D := D) (ci := 8) (v := .ref (a 0)) (C := RX8) (T := TX8) (N := 3) hx hb hts in8 hown hK hP 0 rfl rfl 0 (by decide) (hts (.fieldLink RX8 10 "Granary" "now" "LGranary$Stock;") (by decide +kernel)) (fun _ h9 => h9) rfl dX8_mixPlans_43 ?_
      refine lv_iload hx hb dX8_mixPlans_46 (lv_at hl 1 rfl) ?_
      have hPc := hP.sub (ws' := (sg_St cI cZ a P q ++ sg_Pl cI cJ pa U5 V5)) [1, 2, 3, 4, 5, 6, 7, 8, 9, 10, 11, 12, 13, 14, 15, 16, 17, 18, 19, 20, 21, 22, 23, 24, 25, 26, 27, 28, 29, 30, 31, 32, 33, 34, 35, 36, 37, 38, 39, 40, 41, 42, 43, 44, 45, 46, 47, 48] rfl
      have hDc := hD.sub (ws' := (sg_St cI cZ a P q ++ sg_Pl cI cJ pa U5 V5)) [1, 2, 3, 4, 5, 6, 7, 8, 9, 10, 11, 12, 13, 14, 15, 16, 17, 18, 19, 20, 21, 22, 23, 24, 25, 26, 27, 28, 29, 30, 31, 32, 33, 34, 35, 36, 37, 38, 39, 40, 41, 42, 43, 44, 45, 46, 47, 48] (by decide) rfl
      have hFc := va_free (wc := (sg_St cI cZ a P q ++ sg_Pl cI cJ pa U5 V5)) hD hS hA [1, 2, 3, 4, 5, 6, 7, 8, 9, 10, 11, 12, 13, 14, 15, 16, 17, 18, 19, 20, 21, 22, 23, 24, 25, 26, 27, 28, 29, 30, 31, 32, 33, 34, 35, 36, 37, 38, 39, 40, 41, 42, 43, 44, 45, 46, 47, 48] rfl
      refine va_callv (va_runV (As := [.ref (a 0), .int (nI j5)]) (rest := []) ⟨hx, hb, hml, hown, hts⟩ (c_make l D cI cZ cJ lo H.size pa U5 V5 a P q j5 hw (by omega)) (cwV 2 hts gX8_mixPlans_X3_make rfl rfl rfl (by decide +kernel) ⟨(Nat.le_of_ble_eq_true rfl), (Nat.le_of_ble_eq_true rfl)⟩) ⟨Pre.blind, va_recv hK hP (ci := 3) (q0 := 42) rfl rfl, Pre.mk hPc (hDc.weaken (fun _ _ _ h => hAlo _ h)) hC hS hAlo⟩ rfl rfl hl.1 rfl (lv_room (Nat.le_of_ble_eq_true rfl)) dX8_mixPlans_48 ⟨(Nat.le_of_ble_eq_true rfl), (Nat.le_of_ble_eq_true rfl)⟩) hS (fun q _ h => hFc q h) hFc (fun u t H1 locs1 ht hvm e_6 hB hz1 hk1 hS1 => ?_)
      have hS := hS1
      obtain ⟨hP1, hD1⟩ := hB
      rw [ht] at hP1
      obtain ⟨hP, hD⟩ := va_join (wr := [(g, .inr (8, [.ref (a 0), .ref (b 0), .ref (pa 0)]))]) (w1 := (sg_St cI cZ a P q ++ sg_Pl cI cJ pa (sg_make_U U5 V5 P j5) (sg_make_V U5 V5 P j5))) hP hD [1, 2, 3, 4, 5, 6, 7, 8, 9, 10, 11, 12, 13, 14, 15, 16, 17, 18, 19, 20, 21, 22, 23, 24, 25, 26, 27, 28, 29, 30, 31, 32, 33, 34, 35, 36, 37, 38, 39, 40, 41, 42, 43, 44, 45, 46, 47, 48] [0] rfl rfl (by decide) (by decide) hk1 hFc hP1 hD1
      have e_6 : True := e_6
      clear hFc hPc hDc ht hvm hz1 hk1 hS1 hP1 hD1
      generalize H1 = H at hP hS ⊢
      replace hP : va_P D vwCl ([(g, .inr (8, [.ref (a 0), .ref (b 0), .ref (pa 0)]))] ++ sg_St cI cZ a P q ++ sg_Pl cI cJ pa (sg_make_U U5 V5 P j5) (sg_make_V U5 V5 P j5)) H := hP
      replace hD : va_D A ([(g, .inr (8, [.ref (a 0), .ref (b 0), .ref (pa 0)]))] ++ sg_St cI cZ a P q ++ sg_Pl cI cJ pa (sg_make_U U5 V5 P j5) (sg_make_V U5 V5 P j5)) := hD
      refine lv_iconst (v := 0) hx hb dX8_mixPlans_51 (by decide) ?_
      refine lv_istore (lv' := [(6, .int 0), (3, .long ((x5_3 * 31) + ((sg_classFor P j5).toInt64))), (5, .int (nI j5)), (0, .ref g), (1, .long x)]) hx hb dX8_mixPlans_52 hl (by decide) rfl (fun ls hl => ?_)
      generalize locs1 = locs at hS ⊢
      obtain ⟨j54, h0j54⟩ : ∃ j : Nat, j = 0 := ⟨_, rfl⟩
      obtain ⟨x54_3, hx54_3⟩ : ∃ z9 : Int64, z9 = sg_g_mixPlans_54 U V P x j5 x5_3 U5 V5 j54 := ⟨_, rfl⟩
      replace hl : lv_has ls 8 [(6, .int (nI j54)), (3, .long x54_3), (5, .int (nI j5)), (0, .ref g), (1, .long x)] := by rw [hx54_3, h0j54]; exact hl
      have hjj54 : j54 ≤ sg_cn P 2 := by omega
      clear h0j54
      obtain ⟨n54, hn54⟩ : ∃ n : Nat, sg_cn P 2 < j54 + n := ⟨sg_cn P 2 + 1, by omega⟩
      revert hP
      revert hD
      revert hS
      revert hl
      revert hn54
      revert hjj54
      revert hx54_3
      revert ls
      revert locs
      revert H
      revert x54_3
      revert j54
      induction n54 with
      | zero =>
        intro j54 x54_3 H locs ls hx54_3 hjj54 hn54 hl hS hD hP
        exact absurd hn54 (by omega)
      | succ n54 ih54 =>
        intro j54 x54_3 H locs ls hx54_3 hjj54 hn54 hl hS hD hP
        refine lv_iload hx hb dX8_mixPlans_54 (lv_at hl 0 rfl) ?_
        refine lv_aload_n hx hb dX8_mixPlans_56 rfl (lv_at hl 3 rfl) ?_
        refine va_get (D := D) (ci := 8) (v := .ref (a 0)) (C := RX8) (T := TX8) (N := 3) hx hb hts in8 hown hK hP 0 rfl rfl 0 (by decide) (hts (.fieldLink RX8 10 "Granary" "now" "LGranary$Stock;") (by decide +kernel)) (fun _ h9 => h9) rfl dX8_mixPlans_57 ?_
        refine va_get (D := D) (ci := 6) (v := .ref (a 2)) (C := RX6) (T := TX6) (N := 9) hx hb hts in6 hown hK hP 1 rfl rfl 2 (by decide) (hts (.fieldLink RX8 48 "Granary$Stock" "sites" "LGranary$Sites;") (by decide +kernel)) (fun _ h9 => h9) rfl dX8_mixPlans_60 ?_
        refine va_get (D := D) (ci := 5) (v := .int (P 0 2)) (C := RX5) (T := TX5) (N := 3) hx hb hts in5 hown hK hP 3 rfl rfl 0 (by decide) (hts (.fieldLink RX8 52 "Granary$Sites" "count" "I") (by decide +kernel)) (fun _ h9 => h9) rfl dX8_mixPlans_63 ?_
        have hB54 : ((P 0 2) : Int32) = nI (sg_cn P 2) := (hw.e2)
        refine lv_icmp_ge (tgt := 127) hx hb dX8_mixPlans_66 (by decide) (fun c_7 => ?_) (fun c_7 => ?_)
        · have hE54 : sg_cn P 2 = j54 := (sg_eq hB54 c_7 hjj54 (by omega)).symm
          clear ih54 hn54
          subst hE54
          subst hx54_3
          refine lv_iinc (v := nI (j5 + 1)) (lv' := [(5, .int (nI (j5 + 1))), (6, .int (nI (sg_cn P 2))), (3, .long (sg_g_mixPlans_54 U V P x j5 x5_3 U5 V5 (sg_cn P 2))), (0, .ref g), (1, .long x)]) hx hb dX8_mixPlans_127 hl (k := 2) rfl (nI_1 j5) (by decide) rfl (fun ls hl => ?_)
          refine lv_goto (tgt := 5) hx hb dX8_mixPlans_130 (by decide) ?_
          have hl8 := hl; have hS8 := hS; have hD8 := hD; have hP8 := hP
          subst hx5_3
          subst hU5
          subst hV5
          exact ih5 (j5 + 1) (sg_make_V ((sg_g_mixPlans_5 U V P x j5).2.1) ((sg_g_mixPlans_5 U V P x j5).2.2) P j5) (sg_make_U ((sg_g_mixPlans_5 U V P x j5).2.1) ((sg_g_mixPlans_5 U V P x j5).2.2) P j5) (sg_g_mixPlans_54 U V P x j5 ((sg_g_mixPlans_5 U V P x j5).1) ((sg_g_mixPlans_5 U V P x j5).2.1) ((sg_g_mixPlans_5 U V P x j5).2.2) (sg_cn P 2)) _ _ _ (show (sg_make_V ((sg_g_mixPlans_5 U V P x j5).2.1) ((sg_g_mixPlans_5 U V P x j5).2.2) P j5 : sg_PiL) = (sg_g_mixPlans_5 U V P x (j5 + 1)).2.2 from by rw [sg_g_mixPlans_5]) (show (sg_make_U ((sg_g_mixPlans_5 U V P x j5).2.1) ((sg_g_mixPlans_5 U V P x j5).2.2) P j5 : sg_Pic) = (sg_g_mixPlans_5 U V P x (j5 + 1)).2.1 from by rw [sg_g_mixPlans_5]) (show (sg_g_mixPlans_54 U V P x j5 ((sg_g_mixPlans_5 U V P x j5).1) ((sg_g_mixPlans_5 U V P x j5).2.1) ((sg_g_mixPlans_5 U V P x j5).2.2) (sg_cn P 2) : Int64) = (sg_g_mixPlans_5 U V P x (j5 + 1)).1 from by rw [sg_g_mixPlans_5]) (by omega) (by omega) (lv_sub hl8 [0, 2, 3, 4] rfl) hS8 hD8 hP8
        · have hL54 : j54 < sg_cn P 2 := sg_lt hB54 c_7 (by omega)
          refine lv_iconst (v := 0) hx hb dX8_mixPlans_69 (by decide) ?_
          refine lv_istore (lv' := [(7, .int 0), (6, .int (nI j54)), (3, .long x54_3), (5, .int (nI j5)), (0, .ref g), (1, .long x)]) hx hb dX8_mixPlans_70 hl (by decide) rfl (fun ls hl => ?_)
          obtain ⟨j72, h0j72⟩ : ∃ j : Nat, j = 0 := ⟨_, rfl⟩
          obtain ⟨x72_3, hx72_3⟩ : ∃ z9 : Int64, z9 = sg_g_mixPlans_72 U V P x j5 x5_3 U5 V5 j54 x54_3 j72 := ⟨_, rfl⟩
          replace hl : lv_has ls 8 [(7, .int (nI j72)), (6, .int (nI j54)), (3, .long x72_3), (5, .int (nI j5)), (0, .ref g), (1, .long x)] := by rw [hx72_3, h0j72]; exact hl
          have hjj72 : j72 ≤ sg_cn P 2 := by omega
          clear h0j72
          obtain ⟨n72, hn72⟩ : ∃ n : Nat, sg_cn P 2 < j72 + n := ⟨sg_cn P 2 + 1, by omega⟩
          revert hP
          revert hD
          revert hS
          revert hl
          revert hn72
          revert hjj72
          revert hx72_3
          revert ls
          revert locs
          revert H
          revert x72_3
          revert j72
          induction n72 with
          | zero =>
            intro j72 x72_3 H locs ls hx72_3 hjj72 hn72 hl hS hD hP
            exact absurd hn72 (by omega)
          | succ n72 ih72 =>
            intro j72 x72_3 H locs ls hx72_3 hjj72 hn72 hl hS hD hP
            refine lv_iload hx hb dX8_mixPlans_72 (lv_at hl 0 rfl) ?_
            refine lv_aload_n hx hb dX8_mixPlans_74 rfl (lv_at hl 4 rfl) ?_
            refine va_get (D := D) (ci := 8) (v := .ref (a 0)) (C := RX8) (T := TX8) (N := 3) hx hb hts in8 hown hK hP 0 rfl rfl 0 (by decide) (hts (.fieldLink RX8 10 "Granary" "now" "LGranary$Stock;") (by decide +kernel)) (fun _ h9 => h9) rfl dX8_mixPlans_75 ?_
            refine va_get (D := D) (ci := 6) (v := .ref (a 2)) (C := RX6) (T := TX6) (N := 9) hx hb hts in6 hown hK hP 1 rfl rfl 2 (by decide) (hts (.fieldLink RX8 48 "Granary$Stock" "sites" "LGranary$Sites;") (by decide +kernel)) (fun _ h9 => h9) rfl dX8_mixPlans_78 ?_
            refine va_get (D := D) (ci := 5) (v := .int (P 0 2)) (C := RX5) (T := TX5) (N := 3) hx hb hts in5 hown hK hP 3 rfl rfl 0 (by decide) (hts (.fieldLink RX8 52 "Granary$Sites" "count" "I") (by decide +kernel)) (fun _ h9 => h9) rfl dX8_mixPlans_81 ?_
            have hB72 : ((P 0 2) : Int32) = nI (sg_cn P 2) := (hw.e2)
            refine lv_icmp_ge (tgt := 121) hx hb dX8_mixPlans_84 (by decide) (fun c_8 => ?_) (fun c_8 => ?_)
            · have hE72 : sg_cn P 2 = j72 := (sg_eq hB72 c_8 hjj72 (by omega)).symm
              clear ih72 hn72
              subst hE72
              subst hx72_3
              refine lv_iinc (v := nI (j54 + 1)) (lv' := [(6, .int (nI (j54 + 1))), (7, .int (nI (sg_cn P 2))), (3, .long (sg_g_mixPlans_72 U V P x j5 x5_3 U5 V5 j54 x54_3 (sg_cn P 2))), (5, .int (nI j5)), (0, .ref g), (1, .long x)]) hx hb dX8_mixPlans_121 hl (k := 1) rfl (nI_1 j54) (by decide) rfl (fun ls hl => ?_)
              refine lv_goto (tgt := 54) hx hb dX8_mixPlans_124 (by decide) ?_
              have hl8 := hl; have hS8 := hS; have hD8 := hD; have hP8 := hP
              subst hx54_3
              exact ih54 (j54 + 1) (sg_g_mixPlans_72 U V P x j5 x5_3 U5 V5 j54 (sg_g_mixPlans_54 U V P x j5 x5_3 U5 V5 j54) (sg_cn P 2)) _ _ _ (show (sg_g_mixPlans_72 U V P x j5 x5_3 U5 V5 j54 (sg_g_mixPlans_54 U V P x j5 x5_3 U5 V5 j54) (sg_cn P 2) : Int64) = sg_g_mixPlans_54 U V P x j5 x5_3 U5 V5 (j54 + 1) from by rw [sg_g_mixPlans_54]) (by omega) (by omega) (lv_sub hl8 [0, 2, 3, 4, 5] rfl) hS8 hD8 hP8
            · have hL72 : j72 < sg_cn P 2 := sg_lt hB72 c_8 (by omega)
              refine lv_iload hx hb dX8_mixPlans_87 (lv_at hl 1 rfl) ?_
              refine lv_iload hx hb dX8_mixPlans_89 (lv_at hl 0 rfl) ?_
              refine lv_icmp_eq (tgt := 115) hx hb dX8_mixPlans_91 (by decide) (fun c_9 => ?_) (fun c_9 => ?_)
              · refine lv_iinc (v := nI (j72 + 1)) (lv' := [(7, .int (nI (j72 + 1))), (6, .int (nI j54)), (3, .long x72_3), (5, .int (nI j5)), (0, .ref g), (1, .long x)]) hx hb dX8_mixPlans_115 hl (k := 0) rfl (nI_1 j72) (by decide) rfl (fun ls hl => ?_)
                refine lv_goto (tgt := 72) hx hb dX8_mixPlans_118 (by decide) ?_
                have hl8 := hl; have hS8 := hS; have hD8 := hD; have hP8 := hP
                subst hx72_3
                exact ih72 (j72 + 1) (sg_g_mixPlans_72 U V P x j5 x5_3 U5 V5 j54 x54_3 j72) _ _ _ (show ((sg_g_mixPlans_72 U V P x j5 x5_3 U5 V5 j54 x54_3 j72) : Int64) = sg_g_mixPlans_72 U V P x j5 x5_3 U5 V5 j54 x54_3 (j72 + 1) from by rw [sg_g_mixPlans_72, if_pos c_9]) (by omega) (by omega) (lv_sub hl8 [0, 1, 2, 3, 4, 5] rfl) hS8 hD8 hP8
              · refine lv_lload_n hx hb dX8_mixPlans_94 rfl (lv_at hl 2 rfl) ?_
                refine lv_aload_n hx hb dX8_mixPlans_95 rfl (lv_at hl 4 rfl) ?_
                refine va_get (D := D) (ci := 8) (v := .ref (pa 0)) (C := RX8) (T := TX8) (N := 3) hx hb hts in8 hown hK hP 0 rfl rfl 2 (by decide) (hts (.fieldLink RX8 22 "Granary" "plan" "LGranary$Plan;") (by decide +kernel)) (fun _ h9 => h9) rfl dX8_mixPlans_96 ?_
                refine va_get (D := D) (ci := 3) (v := .ref (pa 6)) (C := RX3) (T := TX3) (N := 7) hx hb hts in3 hown hK hP 42 rfl rfl 6 (by decide) (hts (.fieldLink RX8 182 "Granary$Plan" "units" "[I") (by decide +kernel)) (fun _ h9 => h9) rfl dX8_mixPlans_99 ?_
                refine lv_iload hx hb dX8_mixPlans_102 (lv_at hl 1 rfl) ?_
                refine lv_iload hx hb dX8_mixPlans_104 (lv_at hl 0 rfl) ?_
                have hPc := hP.sub (ws' := []) [] rfl
                have hDc := hD.sub (ws' := []) [] (by decide) rfl
                refine vp_callSi (W.runS (As := [.int (nI j54), .int (nI j72)]) (rest := [.ref (pa 6), .long x72_3]) ⟨hx, hb, hml, hown, hts⟩ (c_pair l D cI cZ cJ lo H.size j54 j72) (va_cwS 2 hts gX8_mixPlans_X8_pair rfl rfl rfl (by decide +kernel) ⟨(Nat.le_of_ble_eq_true rfl), (Nat.le_of_ble_eq_true rfl)⟩) ⟨Pre.blind, Pre.mk hPc (hDc.weaken (fun _ _ _ h => hAlo _ h)) hC hS hAlo⟩ rfl rfl hl.1 rfl (lv_room (Nat.le_of_ble_eq_true rfl)) dX8_mixPlans_106 ⟨(Nat.le_of_ble_eq_true rfl), (Nat.le_of_ble_eq_true rfl)⟩) (fun r_10 e_11 => ?_)
                clear hPc hDc
                have e_11 : nI ((j54 * 5) + j72) = r_10 := Eq.symm e_11
                subst e_11
                refine sg_iald hx hb hK hP 48 0 rfl rfl (j := (j54 * 5) + j72) rfl (by omega) (Nat.le_of_ble_eq_true rfl) dX8_mixPlans_109 ?_
                refine lv_toi (y := (sg_make_U U5 V5 P j5) 6 ((j54 * 5) + j72)) rfl ?_
                refine lv_i2l (v := ((sg_make_U U5 V5 P j5) 6 ((j54 * 5) + j72)).toInt64) hx hb dX8_mixPlans_110 rfl ?_
                have hPc := hP.sub (ws' := []) [] rfl
                have hDc := hD.sub (ws' := []) [] (by decide) rfl
                refine vp_callSl (W.runS (As := [.long x72_3, .long (((sg_make_U U5 V5 P j5) 6 ((j54 * 5) + j72)).toInt64)]) (rest := []) ⟨hx, hb, hml, hown, hts⟩ (c_mix l D cI cZ cJ lo H.size x72_3 (((sg_make_U U5 V5 P j5) 6 ((j54 * 5) + j72)).toInt64)) (va_cwS 2 hts gX8_mixPlans_X8_mix rfl rfl rfl (by decide +kernel) ⟨(Nat.le_of_ble_eq_true rfl), (Nat.le_of_ble_eq_true rfl)⟩) ⟨Pre.blind, Pre.mk hPc (hDc.weaken (fun _ _ _ h => hAlo _ h)) hC hS hAlo⟩ rfl rfl hl.1 rfl (lv_room (Nat.le_of_ble_eq_true rfl)) dX8_mixPlans_111 ⟨(Nat.le_of_ble_eq_true rfl), (Nat.le_of_ble_eq_true rfl)⟩) (fun r_12 e_13 => ?_)
                clear hPc hDc
                have e_13 : (x72_3 * 31) + (((sg_make_U U5 V5 P j5) 6 ((j54 * 5) + j72)).toInt64) = r_12 := Eq.symm e_13
                subst e_13
                refine lv_lstore_n (lv' := [(3, .long ((x72_3 * 31) + (((sg_make_U U5 V5 P j5) 6 ((j54 * 5) + j72)).toInt64))), (7, .int (nI j72)), (6, .int (nI j54)), (5, .int (nI j5)), (0, .ref g), (1, .long x)]) hx hb dX8_mixPlans_114 rfl hl (by decide) rfl (fun ls hl => ?_)
                refine lv_iinc (v := nI (j72 + 1)) (lv' := [(7, .int (nI (j72 + 1))), (3, .long ((x72_3 * 31) + (((sg_make_U U5 V5 P j5) 6 ((j54 * 5) + j72)).toInt64))), (6, .int (nI j54)), (5, .int (nI j5)), (0, .ref g), (1, .long x)]) hx hb dX8_mixPlans_115 hl (k := 1) rfl (nI_1 j72) (by decide) rfl (fun ls hl => ?_)
                refine lv_goto (tgt := 72) hx hb dX8_mixPlans_118 (by decide) ?_
                have hl8 := hl; have hS8 := hS; have hD8 := hD; have hP8 := hP
                subst hx72_3
                exact ih72 (j72 + 1) (((sg_g_mixPlans_72 U V P x j5 x5_3 U5 V5 j54 x54_3 j72) * 31) + (((sg_make_U U5 V5 P j5) 6 ((j54 * 5) + j72)).toInt64)) _ _ _ (show (((sg_g_mixPlans_72 U V P x j5 x5_3 U5 V5 j54 x54_3 j72) * 31) + (((sg_make_U U5 V5 P j5) 6 ((j54 * 5) + j72)).toInt64) : Int64) = sg_g_mixPlans_72 U V P x j5 x5_3 U5 V5 j54 x54_3 (j72 + 1) from by rw [sg_g_mixPlans_72, if_neg c_9]) (by omega) (by omega) (lv_sub hl8 [0, 2, 1, 3, 4, 5] rfl) hS8 hD8 hP8

set_option maxHeartbeats 4000000 in
set_option maxRecDepth 100000 in
/-- the reference's addItem on a fresh object -/
theorem m_addItem (l : Launch) (D : va_G) (cI cZ cJ : ClassId) (lo sz : Nat) (mm : Nat) (tt : Int32) (w : Nat) (wd : Int32) (b2 : Nat) (b3 : Nat) (b4 : Nat) (b5 : Nat) (b7 : Nat) (b8 : Nat) (b9 : Nat) (b10 : Nat) (b11 : Nat) (b12 : Nat) (b14 : Nat) (b15 : Nat) (b16 : Nat) (b17 : Nat) (b19 : Nat) (b20 : Nat) (b21 : Nat) (b22 : Nat) (b23 : Nat) (b24 : Nat) (b25 : Nat) (b26 : Nat) (b27 : Nat) (b29 : Nat) (b30 : Nat) (b31 : Nat) (b32 : Nat) (b33 : Nat) (b34 : Nat) (b35 : Nat) (p0 : Int32) (p1 : Int32) (p2 : Int32) : Met l yX10_addItem wsX10_addItem ({ frames := 1, cells := 0, slots := 0, locals := 22 }) (Pre lo D cI cZ cJ [.ref mm, .int p0, .int p1, .int p2] sz [(mm, .inr (10, [.ref w, .int tt])), (w, .inr (9, [.int wd, .int 0, .ref b2, .ref b3, .ref b4, .ref b5, .int 0, .ref b7, .ref b8, .ref b9, .ref b10, .ref b11, .ref b12, .int 0, .ref b14, .ref b15, .ref b16, .ref b17, .int 0, .ref b19, .ref b20, .ref b21, .ref b22, .ref b23, .ref b24, .ref b25, .ref b26, .ref b27, .int 0, .ref b29, .ref b30, .ref b31, .ref b32, .ref b33, .ref b34, .ref b35])), (b2, .inl (cI, 6, .inl (fun _ => 0))), (b3, .inl (cI, 6, .inl (fun _ => 0))), (b4, .inl (cI, 6, .inl (fun _ => 0)))]) (va_Qi (fun (r : Int32) (_ : Unit) => r = 0) (fun _ t => ∃ (tz : Int32), va_P D vwCl [(mm, .inr (10, [.ref w, .int tz]))] t.heap ∧ va_D (va_A [(mm, .inr (10, [.ref w, .int tt])), (w, .inr (9, [.int wd, .int 0, .ref b2, .ref b3, .ref b4, .ref b5, .int 0, .ref b7, .ref b8, .ref b9, .ref b10, .ref b11, .ref b12, .int 0, .ref b14, .ref b15, .ref b16, .ref b17, .int 0, .ref b19, .ref b20, .ref b21, .ref b22, .ref b23, .ref b24, .ref b25, .ref b26, .ref b27, .int 0, .ref b29, .ref b30, .ref b31, .ref b32, .ref b33, .ref b34, .ref b35])), (b2, .inl (cI, 6, .inl (fun _ => 0))), (b3, .inl (cI, 6, .inl (fun _ => 0))), (b4, .inl (cI, 6, .inl (fun _ => 0)))] sz) [(mm, .inr (10, [.ref w, .int tz]))] ∧ (((1 ≤ p0 ∧ p0 ≤ 99) ∧ (1 ≤ p1 ∧ p1 ≤ 99) ∧ (1 ≤ p2 ∧ p2 ≤ 20)) → tz = 0) ∧ (¬ ((1 ≤ p0 ∧ p0 ≤ 99) ∧ (1 ≤ p1 ∧ p1 ≤ 99) ∧ (1 ≤ p2 ∧ p2 ≤ 20)) → tz = 1)) (va_A [(mm, .inr (10, [.ref w, .int tt])), (w, .inr (9, [.int wd, .int 0, .ref b2, .ref b3, .ref b4, .ref b5, .int 0, .ref b7, .ref b8, .ref b9, .ref b10, .ref b11, .ref b12, .int 0, .ref b14, .ref b15, .ref b16, .ref b17, .int 0, .ref b19, .ref b20, .ref b21, .ref b22, .ref b23, .ref b24, .ref b25, .ref b26, .ref b27, .int 0, .ref b29, .ref b30, .ref b31, .ref b32, .ref b33, .ref b34, .ref b35])), (b2, .inl (cI, 6, .inl (fun _ => 0))), (b3, .inl (cI, 6, .inl (fun _ => 0))), (b4, .inl (cI, 6, .inl (fun _ => 0)))] sz)) 0 0 (va_A [(mm, .inr (10, [.ref w, .int tt])), (w, .inr (9, [.int wd, .int 0, .ref b2, .ref b3, .ref b4, .ref b5, .int 0, .ref b7, .ref b8, .ref b9, .ref b10, .ref b11, .ref b12, .int 0, .ref b14, .ref b15, .ref b16, .ref b17, .int 0, .ref b19, .ref b20, .ref b21, .ref b22, .ref b23, .ref b24, .ref b25, .ref b26, .ref b27, .int 0, .ref b29, .ref b30, .ref b31, .ref b32, .ref b33, .ref b34, .ref b35])), (b2, .inl (cI, 6, .inl (fun _ => 0))), (b3, .inl (cI, 6, .inl (fun _ => 0))), (b4, .inl (cI, 6, .inl (fun _ => 0)))] sz) := by
  refine Met.ofW (cc := cX10_addItem) (maxL := 4) (ret := (some .int)) (by decide) rfl ?_
  intro p e s m args below meth c s₁ B hml hv
  obtain ⟨rfl, hsz, hP, hD0, hC⟩ := hv
  have hx := B.exec
  have hb := B.bytes
  have hr := B.returns
  have hts := atoms_spec (ws := wsX10_addItem) B.pre
  have hown : s.vm.findClass RX10 = some m.cls := findClass_of_methodNamed B.named
  have hlocks := B.notSynchronized
  subst hsz
  have hK := hC.K
  have hD := hD0.self (sz := s.heap.size)
  have hAlo0 := va_A_lo hD0 hC.1
  generalize hAe : va_A [(mm, .inr (10, [.ref w, .int tt])), (w, .inr (9, [.int wd, .int 0, .ref b2, .ref b3, .ref b4, .ref b5, .int 0, .ref b7, .ref b8, .ref b9, .ref b10, .ref b11, .ref b12, .int 0, .ref b14, .ref b15, .ref b16, .ref b17, .int 0, .ref b19, .ref b20, .ref b21, .ref b22, .ref b23, .ref b24, .ref b25, .ref b26, .ref b27, .int 0, .ref b29, .ref b30, .ref b31, .ref b32, .ref b33, .ref b34, .ref b35])), (b2, .inl (cI, 6, .inl (fun _ => 0))), (b3, .inl (cI, 6, .inl (fun _ => 0))), (b4, .inl (cI, 6, .inl (fun _ => 0)))] s.heap.size = A at hD hAlo0 ⊢
  have hA : ∀ q : Nat, s.heap.size ≤ q → A q := fun q h => by rw [← hAe]; exact Or.inr h
  have hAlo : ∀ q, A q → lo ≤ q := hAlo0
  have hS : va_S A s.heap s.heap [] := va_S.rf
  have hP : va_P D vwCl [(mm, .inr (10, [.ref w, .int tt])), (w, .inr (9, [.int wd, .int 0, .ref b2, .ref b3, .ref b4, .ref b5, .int 0, .ref b7, .ref b8, .ref b9, .ref b10, .ref b11, .ref b12, .int 0, .ref b14, .ref b15, .ref b16, .ref b17, .int 0, .ref b19, .ref b20, .ref b21, .ref b22, .ref b23, .ref b24, .ref b25, .ref b26, .ref b27, .int 0, .ref b29, .ref b30, .ref b31, .ref b32, .ref b33, .ref b34, .ref b35])), (b2, .inl (cI, 6, .inl (fun _ => 0))), (b3, .inl (cI, 6, .inl (fun _ => 0))), (b4, .inl (cI, 6, .inl (fun _ => 0)))] s.heap := hP
  have hl := lv_entry ([.ref mm, .int p0, .int p1, .int p2]) (n := 4) (Nat.le_of_ble_eq_true rfl)
  rw [lg_entry_eq]
  generalize (lg_sl ([.ref mm, .int p0, .int p1, .int p2]) ++ List.replicate (4 - (lg_sl ([.ref mm, .int p0, .int p1, .int p2])).length) Slot.unset).toArray = ls at hl ⊢
  have hl : lv_has ls 4 [(0, .ref mm), (1, .int p0), (2, .int p1), (3, .int p2)] := hl
  have in9 : ∀ w ∈ u_ws RX9 TX9 36, w ∈ wsX10_addItem := by decide +kernel
  have in10 : ∀ w ∈ u_ws RX10 TX10 2, w ∈ wsX10_addItem := by decide +kernel
  refine lv_aload_n hx hb dX10_addItem_0 rfl (lv_at hl 0 rfl) ?_
  refine lv_iconst (v := 0) hx hb dX10_addItem_1 (by decide) ?_
  refine va_put (D := D) (ci := 10) (v := .int 0) (ty := .int) (C := RX10) (T := TX10) (N := 2) hx hb hts in10 tyX10 tyX10_ok nmX10 hown hK hP hD hS 0 rfl rfl 1 (by decide) (hts (.fieldLink RX10 22 "GranaryModel" "thrown" "I") (by decide +kernel)) (fun _ h9 => h9) rfl (by decide +kernel) rfl rfl (Nat.le_of_ble_eq_true rfl) dX10_addItem_2 (fun H locs hP hD hS => ?_)
  replace hP : va_P D vwCl [(mm, .inr (10, [.ref w, .int 0])), (w, .inr (9, [.int wd, .int 0, .ref b2, .ref b3, .ref b4, .ref b5, .int 0, .ref b7, .ref b8, .ref b9, .ref b10, .ref b11, .ref b12, .int 0, .ref b14, .ref b15, .ref b16, .ref b17, .int 0, .ref b19, .ref b20, .ref b21, .ref b22, .ref b23, .ref b24, .ref b25, .ref b26, .ref b27, .int 0, .ref b29, .ref b30, .ref b31, .ref b32, .ref b33, .ref b34, .ref b35])), (b2, .inl (cI, 6, .inl (fun _ => 0))), (b3, .inl (cI, 6, .inl (fun _ => 0))), (b4, .inl (cI, 6, .inl (fun _ => 0)))] H := hP
  replace hD : va_D A [(mm, .inr (10, [.ref w, .int 0])), (w, .inr (9, [.int wd, .int 0, .ref b2, .ref b3, .ref b4, .ref b5, .int 0, .ref b7, .ref b8, .ref b9, .ref b10, .ref b11, .ref b12, .int 0, .ref b14, .ref b15, .ref b16, .ref b17, .int 0, .ref b19, .ref b20, .ref b21, .ref b22, .ref b23, .ref b24, .ref b25, .ref b26, .ref b27, .int 0, .ref b29, .ref b30, .ref b31, .ref b32, .ref b33, .ref b34, .ref b35])), (b2, .inl (cI, 6, .inl (fun _ => 0))), (b3, .inl (cI, 6, .inl (fun _ => 0))), (b4, .inl (cI, 6, .inl (fun _ => 0)))] := hD
  refine lv_iload_n hx hb dX10_addItem_5 rfl (lv_at hl 1 rfl) ?_
  refine lv_iconst (v := 1) hx hb dX10_addItem_6 (by decide) ?_
  refine lv_bipush (v := 99) hx hb dX10_addItem_7 (by decide) ?_
  have hPc := hP.sub (ws' := []) [] rfl
  have hDc := hD.sub (ws' := []) [] (by decide) rfl
  refine vp_callSi (W.runS (As := [.int p0, .int 1, .int 99]) (rest := []) ⟨hx, hb, hml, hown, hts⟩ (c_isIn l D cI cZ cJ lo H.size p0 1 99) (va_cwS 3 hts gX10_addItem_X10_isIn rfl rfl rfl (by decide +kernel) ⟨(Nat.le_of_ble_eq_true rfl), (Nat.le_of_ble_eq_true rfl)⟩) ⟨Pre.blind, Pre.mk hPc (hDc.weaken (fun _ _ _ h => hAlo _ h)) hC hS hAlo⟩ rfl rfl hl.1 rfl (lv_room (Nat.le_of_ble_eq_true rfl)) dX10_addItem_9 ⟨(Nat.le_of_ble_eq_true rfl), (Nat.le_of_ble_eq_true rfl)⟩) (fun r_1 e_2 => ?_)
  clear hPc hDc
  rcases e_2 with ⟨rfl, h_3⟩ | ⟨rfl, h_4⟩
  · refine lv_if_eq (tgt := 35) hx hb dX10_addItem_12 (by decide) (fun c9 => absurd c9 (show ¬ ((1 : Int32) = (0 : Int32)) from (by decide))) (fun _ => ?_)
    refine lv_iload_n hx hb dX10_addItem_15 rfl (lv_at hl 2 rfl) ?_
    refine lv_iconst (v := 1) hx hb dX10_addItem_16 (by decide) ?_
    refine lv_bipush (v := 99) hx hb dX10_addItem_17 (by decide) ?_
    have hPc := hP.sub (ws' := []) [] rfl
    have hDc := hD.sub (ws' := []) [] (by decide) rfl
    refine vp_callSi (W.runS (As := [.int p1, .int 1, .int 99]) (rest := []) ⟨hx, hb, hml, hown, hts⟩ (c_isIn l D cI cZ cJ lo H.size p1 1 99) (va_cwS 3 hts gX10_addItem_X10_isIn rfl rfl rfl (by decide +kernel) ⟨(Nat.le_of_ble_eq_true rfl), (Nat.le_of_ble_eq_true rfl)⟩) ⟨Pre.blind, Pre.mk hPc (hDc.weaken (fun _ _ _ h => hAlo _ h)) hC hS hAlo⟩ rfl rfl hl.1 rfl (lv_room (Nat.le_of_ble_eq_true rfl)) dX10_addItem_19 ⟨(Nat.le_of_ble_eq_true rfl), (Nat.le_of_ble_eq_true rfl)⟩) (fun r_5 e_6 => ?_)
    clear hPc hDc
    rcases e_6 with ⟨rfl, h_7⟩ | ⟨rfl, h_8⟩
    · refine lv_if_eq (tgt := 35) hx hb dX10_addItem_22 (by decide) (fun c9 => absurd c9 (show ¬ ((1 : Int32) = (0 : Int32)) from (by decide))) (fun _ => ?_)
      refine lv_iload_n hx hb dX10_addItem_25 rfl (lv_at hl 3 rfl) ?_
      refine lv_iconst (v := 1) hx hb dX10_addItem_26 (by decide) ?_
      refine lv_bipush (v := 20) hx hb dX10_addItem_27 (by decide) ?_
      have hPc := hP.sub (ws' := []) [] rfl
      have hDc := hD.sub (ws' := []) [] (by decide) rfl
      refine vp_callSi (W.runS (As := [.int p2, .int 1, .int 20]) (rest := []) ⟨hx, hb, hml, hown, hts⟩ (c_isIn l D cI cZ cJ lo H.size p2 1 20) (va_cwS 3 hts gX10_addItem_X10_isIn rfl rfl rfl (by decide +kernel) ⟨(Nat.le_of_ble_eq_true rfl), (Nat.le_of_ble_eq_true rfl)⟩) ⟨Pre.blind, Pre.mk hPc (hDc.weaken (fun _ _ _ h => hAlo _ h)) hC hS hAlo⟩ rfl rfl hl.1 rfl (lv_room (Nat.le_of_ble_eq_true rfl)) dX10_addItem_29 ⟨(Nat.le_of_ble_eq_true rfl), (Nat.le_of_ble_eq_true rfl)⟩) (fun r_9 e_10 => ?_)
      clear hPc hDc
      rcases e_10 with ⟨rfl, h_11⟩ | ⟨rfl, h_12⟩
      · refine lv_if_ne (tgt := 41) hx hb dX10_addItem_32 (by decide) (fun _ => ?_) (fun c9 => absurd c9 (show ¬ (1 : Int32) = (0 : Int32) from (by decide)))
        refine lv_aload_n hx hb dX10_addItem_41 rfl (lv_at hl 0 rfl) ?_
        refine va_get (D := D) (ci := 10) (v := .ref w) (C := RX10) (T := TX10) (N := 2) hx hb hts in10 hown hK hP 0 rfl rfl 0 (by decide) (hts (.fieldLink RX10 16 "GranaryModel" "w" "LGranaryModel$World;") (by decide +kernel)) (fun _ h9 => h9) rfl dX10_addItem_42 ?_
        refine va_get (D := D) (ci := 9) (v := .int 0) (C := RX9) (T := TX9) (N := 36) hx hb hts in9 hown hK hP 1 rfl rfl 1 (by decide) (hts (.fieldLink RX10 26 "GranaryModel$World" "items" "I") (by decide +kernel)) (fun _ h9 => h9) rfl dX10_addItem_45 ?_
        refine lv_bipush (v := 6) hx hb dX10_addItem_48 (by decide) ?_
        refine lv_icmp_ne (tgt := 59) hx hb dX10_addItem_50 (by decide) (fun _ => ?_) (fun c9 => absurd c9 (show ¬ (0 : Int32) = (6 : Int32) from (by decide)))
        refine lv_aload_n hx hb dX10_addItem_59 rfl (lv_at hl 0 rfl) ?_
        refine va_get (D := D) (ci := 10) (v := .ref w) (C := RX10) (T := TX10) (N := 2) hx hb hts in10 hown hK hP 0 rfl rfl 0 (by decide) (hts (.fieldLink RX10 16 "GranaryModel" "w" "LGranaryModel$World;") (by decide +kernel)) (fun _ h9 => h9) rfl dX10_addItem_60 ?_
        refine va_get (D := D) (ci := 9) (v := .ref b2) (C := RX9) (T := TX9) (N := 36) hx hb hts in9 hown hK hP 1 rfl rfl 2 (by decide) (hts (.fieldLink RX10 47 "GranaryModel$World" "life" "[I") (by decide +kernel)) (fun _ h9 => h9) rfl dX10_addItem_63 ?_
        refine lv_aload_n hx hb dX10_addItem_66 rfl (lv_at hl 0 rfl) ?_
        refine va_get (D := D) (ci := 10) (v := .ref w) (C := RX10) (T := TX10) (N := 2) hx hb hts in10 hown hK hP 0 rfl rfl 0 (by decide) (hts (.fieldLink RX10 16 "GranaryModel" "w" "LGranaryModel$World;") (by decide +kernel)) (fun _ h9 => h9) rfl dX10_addItem_67 ?_
        refine va_get (D := D) (ci := 9) (v := .int 0) (C := RX9) (T := TX9) (N := 36) hx hb hts in9 hown hK hP 1 rfl rfl 1 (by decide) (hts (.fieldLink RX10 26 "GranaryModel$World" "items" "I") (by decide +kernel)) (fun _ h9 => h9) rfl dX10_addItem_70 ?_
        refine lv_iload_n hx hb dX10_addItem_73 rfl (lv_at hl 1 rfl) ?_
        refine va_iast hx hb hK hP hD hS 2 0 rfl rfl (by unfold vp_in; decide) dX10_addItem_74 (fun H locs hP hD hS => ?_)
        replace hP : va_P D vwCl [(mm, .inr (10, [.ref w, .int 0])), (w, .inr (9, [.int wd, .int 0, .ref b2, .ref b3, .ref b4, .ref b5, .int 0, .ref b7, .ref b8, .ref b9, .ref b10, .ref b11, .ref b12, .int 0, .ref b14, .ref b15, .ref b16, .ref b17, .int 0, .ref b19, .ref b20, .ref b21, .ref b22, .ref b23, .ref b24, .ref b25, .ref b26, .ref b27, .int 0, .ref b29, .ref b30, .ref b31, .ref b32, .ref b33, .ref b34, .ref b35])), (b2, .inl (cI, 6, .inl (upd (fun _ => 0) (Int32.toNatClampNeg 0) p0))), (b3, .inl (cI, 6, .inl (fun _ => 0))), (b4, .inl (cI, 6, .inl (fun _ => 0)))] H := hP
        replace hD : va_D A [(mm, .inr (10, [.ref w, .int 0])), (w, .inr (9, [.int wd, .int 0, .ref b2, .ref b3, .ref b4, .ref b5, .int 0, .ref b7, .ref b8, .ref b9, .ref b10, .ref b11, .ref b12, .int 0, .ref b14, .ref b15, .ref b16, .ref b17, .int 0, .ref b19, .ref b20, .ref b21, .ref b22, .ref b23, .ref b24, .ref b25, .ref b26, .ref b27, .int 0, .ref b29, .ref b30, .ref b31, .ref b32, .ref b33, .ref b34, .ref b35])), (b2, .inl (cI, 6, .inl (upd (fun _ => 0) (Int32.toNatClampNeg 0) p0))), (b3, .inl (cI, 6, .inl (fun _ => 0))), (b4, .inl (cI, 6, .inl (fun _ => 0)))] := hD
        refine lv_aload_n hx hb dX10_addItem_75 rfl (lv_at hl 0 rfl) ?_
        refine va_get (D := D) (ci := 10) (v := .ref w) (C := RX10) (T := TX10) (N := 2) hx hb hts in10 hown hK hP 0 rfl rfl 0 (by decide) (hts (.fieldLink RX10 16 "GranaryModel" "w" "LGranaryModel$World;") (by decide +kernel)) (fun _ h9 => h9) rfl dX10_addItem_76 ?_
        refine va_get (D := D) (ci := 9) (v := .ref b3) (C := RX9) (T := TX9) (N := 36) hx hb hts in9 hown hK hP 1 rfl rfl 3 (by decide) (hts (.fieldLink RX10 51 "GranaryModel$World" "price" "[I") (by decide +kernel)) (fun _ h9 => h9) rfl dX10_addItem_79 ?_
        refine lv_aload_n hx hb dX10_addItem_82 rfl (lv_at hl 0 rfl) ?_
        refine va_get (D := D) (ci := 10) (v := .ref w) (C := RX10) (T := TX10) (N := 2) hx hb hts in10 hown hK hP 0 rfl rfl 0 (by decide) (hts (.fieldLink RX10 16 "GranaryModel" "w" "LGranaryModel$World;") (by decide +kernel)) (fun _ h9 => h9) rfl dX10_addItem_83 ?_
        refine va_get (D := D) (ci := 9) (v := .int 0) (C := RX9) (T := TX9) (N := 36) hx hb hts in9 hown hK hP 1 rfl rfl 1 (by decide) (hts (.fieldLink RX10 26 "GranaryModel$World" "items" "I") (by decide +kernel)) (fun _ h9 => h9) rfl dX10_addItem_86 ?_
        refine lv_iload_n hx hb dX10_addItem_89 rfl (lv_at hl 2 rfl) ?_
        refine va_iast hx hb hK hP hD hS 3 0 rfl rfl (by unfold vp_in; decide) dX10_addItem_90 (fun H locs hP hD hS => ?_)
        replace hP : va_P D vwCl [(mm, .inr (10, [.ref w, .int 0])), (w, .inr (9, [.int wd, .int 0, .ref b2, .ref b3, .ref b4, .ref b5, .int 0, .ref b7, .ref b8, .ref b9, .ref b10, .ref b11, .ref b12, .int 0, .ref b14, .ref b15, .ref b16, .ref b17, .int 0, .ref b19, .ref b20, .ref b21, .ref b22, .ref b23, .ref b24, .ref b25, .ref b26, .ref b27, .int 0, .ref b29, .ref b30, .ref b31, .ref b32, .ref b33, .ref b34, .ref b35])), (b2, .inl (cI, 6, .inl (upd (fun _ => 0) (Int32.toNatClampNeg 0) p0))), (b3, .inl (cI, 6, .inl (upd (fun _ => 0) (Int32.toNatClampNeg 0) p1))), (b4, .inl (cI, 6, .inl (fun _ => 0)))] H := hP
        replace hD : va_D A [(mm, .inr (10, [.ref w, .int 0])), (w, .inr (9, [.int wd, .int 0, .ref b2, .ref b3, .ref b4, .ref b5, .int 0, .ref b7, .ref b8, .ref b9, .ref b10, .ref b11, .ref b12, .int 0, .ref b14, .ref b15, .ref b16, .ref b17, .int 0, .ref b19, .ref b20, .ref b21, .ref b22, .ref b23, .ref b24, .ref b25, .ref b26, .ref b27, .int 0, .ref b29, .ref b30, .ref b31, .ref b32, .ref b33, .ref b34, .ref b35])), (b2, .inl (cI, 6, .inl (upd (fun _ => 0) (Int32.toNatClampNeg 0) p0))), (b3, .inl (cI, 6, .inl (upd (fun _ => 0) (Int32.toNatClampNeg 0) p1))), (b4, .inl (cI, 6, .inl (fun _ => 0)))] := hD
        refine lv_aload_n hx hb dX10_addItem_91 rfl (lv_at hl 0 rfl) ?_
        refine va_get (D := D) (ci := 10) (v := .ref w) (C := RX10) (T := TX10) (N := 2) hx hb hts in10 hown hK hP 0 rfl rfl 0 (by decide) (hts (.fieldLink RX10 16 "GranaryModel" "w" "LGranaryModel$World;") (by decide +kernel)) (fun _ h9 => h9) rfl dX10_addItem_92 ?_
        refine va_get (D := D) (ci := 9) (v := .ref b4) (C := RX9) (T := TX9) (N := 36) hx hb hts in9 hown hK hP 1 rfl rfl 4 (by decide) (hts (.fieldLink RX10 54 "GranaryModel$World" "pack" "[I") (by decide +kernel)) (fun _ h9 => h9) rfl dX10_addItem_95 ?_
        refine lv_aload_n hx hb dX10_addItem_98 rfl (lv_at hl 0 rfl) ?_
        refine va_get (D := D) (ci := 10) (v := .ref w) (C := RX10) (T := TX10) (N := 2) hx hb hts in10 hown hK hP 0 rfl rfl 0 (by decide) (hts (.fieldLink RX10 16 "GranaryModel" "w" "LGranaryModel$World;") (by decide +kernel)) (fun _ h9 => h9) rfl dX10_addItem_99 ?_
        refine va_get (D := D) (ci := 9) (v := .int 0) (C := RX9) (T := TX9) (N := 36) hx hb hts in9 hown hK hP 1 rfl rfl 1 (by decide) (hts (.fieldLink RX10 26 "GranaryModel$World" "items" "I") (by decide +kernel)) (fun _ h9 => h9) rfl dX10_addItem_102 ?_
        refine lv_iload_n hx hb dX10_addItem_105 rfl (lv_at hl 3 rfl) ?_
        refine va_iast hx hb hK hP hD hS 4 0 rfl rfl (by unfold vp_in; decide) dX10_addItem_106 (fun H locs hP hD hS => ?_)
        replace hP : va_P D vwCl [(mm, .inr (10, [.ref w, .int 0])), (w, .inr (9, [.int wd, .int 0, .ref b2, .ref b3, .ref b4, .ref b5, .int 0, .ref b7, .ref b8, .ref b9, .ref b10, .ref b11, .ref b12, .int 0, .ref b14, .ref b15, .ref b16, .ref b17, .int 0, .ref b19, .ref b20, .ref b21, .ref b22, .ref b23, .ref b24, .ref b25, .ref b26, .ref b27, .int 0, .ref b29, .ref b30, .ref b31, .ref b32, .ref b33, .ref b34, .ref b35])), (b2, .inl (cI, 6, .inl (upd (fun _ => 0) (Int32.toNatClampNeg 0) p0))), (b3, .inl (cI, 6, .inl (upd (fun _ => 0) (Int32.toNatClampNeg 0) p1))), (b4, .inl (cI, 6, .inl (upd (fun _ => 0) (Int32.toNatClampNeg 0) p2)))] H := hP
        replace hD : va_D A [(mm, .inr (10, [.ref w, .int 0])), (w, .inr (9, [.int wd, .int 0, .ref b2, .ref b3, .ref b4, .ref b5, .int 0, .ref b7, .ref b8, .ref b9, .ref b10, .ref b11, .ref b12, .int 0, .ref b14, .ref b15, .ref b16, .ref b17, .int 0, .ref b19, .ref b20, .ref b21, .ref b22, .ref b23, .ref b24, .ref b25, .ref b26, .ref b27, .int 0, .ref b29, .ref b30, .ref b31, .ref b32, .ref b33, .ref b34, .ref b35])), (b2, .inl (cI, 6, .inl (upd (fun _ => 0) (Int32.toNatClampNeg 0) p0))), (b3, .inl (cI, 6, .inl (upd (fun _ => 0) (Int32.toNatClampNeg 0) p1))), (b4, .inl (cI, 6, .inl (upd (fun _ => 0) (Int32.toNatClampNeg 0) p2)))] := hD
        refine lv_aload_n hx hb dX10_addItem_107 rfl (lv_at hl 0 rfl) ?_
        refine va_get (D := D) (ci := 10) (v := .ref w) (C := RX10) (T := TX10) (N := 2) hx hb hts in10 hown hK hP 0 rfl rfl 0 (by decide) (hts (.fieldLink RX10 16 "GranaryModel" "w" "LGranaryModel$World;") (by decide +kernel)) (fun _ h9 => h9) rfl dX10_addItem_108 ?_
        refine lv_dup hx hb dX10_addItem_111 rfl ?_
        refine va_get (D := D) (ci := 9) (v := .int 0) (C := RX9) (T := TX9) (N := 36) hx hb hts in9 hown hK hP 1 rfl rfl 1 (by decide) (hts (.fieldLink RX10 26 "GranaryModel$World" "items" "I") (by decide +kernel)) (fun _ h9 => h9) rfl dX10_addItem_112 ?_
        refine lv_dup_x1 hx hb dX10_addItem_115 rfl rfl ?_
        refine lv_iconst (v := 1) hx hb dX10_addItem_116 (by decide) ?_
        refine lv_iadd hx hb dX10_addItem_117 ?_
        refine lv_toi (y := 1) (by decide) ?_
        refine va_put (D := D) (ci := 9) (v := .int 1) (ty := .int) (C := RX9) (T := TX9) (N := 36) hx hb hts in9 tyX9 tyX9_ok nmX9 hown hK hP hD hS 1 rfl rfl 1 (by decide) (hts (.fieldLink RX10 26 "GranaryModel$World" "items" "I") (by decide +kernel)) (fun _ h9 => h9) rfl (by decide +kernel) rfl rfl (Nat.le_of_ble_eq_true rfl) dX10_addItem_118 (fun H locs hP hD hS => ?_)
        replace hP : va_P D vwCl [(mm, .inr (10, [.ref w, .int 0])), (w, .inr (9, [.int wd, .int 1, .ref b2, .ref b3, .ref b4, .ref b5, .int 0, .ref b7, .ref b8, .ref b9, .ref b10, .ref b11, .ref b12, .int 0, .ref b14, .ref b15, .ref b16, .ref b17, .int 0, .ref b19, .ref b20, .ref b21, .ref b22, .ref b23, .ref b24, .ref b25, .ref b26, .ref b27, .int 0, .ref b29, .ref b30, .ref b31, .ref b32, .ref b33, .ref b34, .ref b35])), (b2, .inl (cI, 6, .inl (upd (fun _ => 0) (Int32.toNatClampNeg 0) p0))), (b3, .inl (cI, 6, .inl (upd (fun _ => 0) (Int32.toNatClampNeg 0) p1))), (b4, .inl (cI, 6, .inl (upd (fun _ => 0) (Int32.toNatClampNeg 0) p2)))] H := hP
        replace hD : va_D A [(mm, .inr (10, [.ref w, .int 0])), (w, .inr (9, [.int wd, .int 1, .ref b2, .ref b3, .ref b4, .ref b5, .int 0, .ref b7, .ref b8, .ref b9, .ref b10, .ref b11, .ref b12, .int 0, .ref b14, .ref b15, .ref b16, .ref b17, .int 0, .ref b19, .ref b20, .ref b21, .ref b22, .ref b23, .ref b24, .ref b25, .ref b26, .ref b27, .int 0, .ref b29, .ref b30, .ref b31, .ref b32, .ref b33, .ref b34, .ref b35])), (b2, .inl (cI, 6, .inl (upd (fun _ => 0) (Int32.toNatClampNeg 0) p0))), (b3, .inl (cI, 6, .inl (upd (fun _ => 0) (Int32.toNatClampNeg 0) p1))), (b4, .inl (cI, 6, .inl (upd (fun _ => 0) (Int32.toNatClampNeg 0) p2)))] := hD
        refine W.widen (k := 0) (n := 0) (by omega) (by omega) ?_
        have hP9 := hP.sub (ws' := [(mm, .inr (10, [.ref w, .int 0]))]) [0] rfl
        have hD9 := hD.sub (ws' := [(mm, .inr (10, [.ref w, .int 0]))]) [0] (by decide) rfl
        exact W.iret (v := 0) hx hb hr (fun t ht hW => ⟨⟨0, (), rfl, rfl, 0, by rw [ht]; exact hP9, hD9, ⟨fun _ => rfl, fun h9 => absurd ⟨h_3, h_7, h_11⟩ h9⟩⟩, hS.F ht⟩) hS.2.2 dX10_addItem_121
      · refine lv_if_ne (tgt := 41) hx hb dX10_addItem_32 (by decide) (fun c9 => absurd (show (0 : Int32) = (0 : Int32) from (by decide)) c9) (fun _ => ?_)
        refine lv_aload_n hx hb dX10_addItem_35 rfl (lv_at hl 0 rfl) ?_
        refine lv_iconst (v := 1) hx hb dX10_addItem_36 (by decide) ?_
        have hPc := hP.sub (ws' := [(mm, .inr (10, [.ref w, .int 0]))]) [0] rfl
        have hDc := hD.sub (ws' := [(mm, .inr (10, [.ref w, .int 0]))]) [0] (by decide) rfl
        have hFc := va_free (wc := [(mm, .inr (10, [.ref w, .int 0]))]) hD hS hA [0] rfl
        refine va_calli (va_runV (As := [.int 1]) (rest := []) ⟨hx, hb, hml, hown, hts⟩ (c_no l D cI cZ cJ lo H.size mm 0 w 1) (cwV 1 hts gX10_addItem_X10_no rfl rfl rfl (by decide +kernel) ⟨(Nat.le_of_ble_eq_true rfl), (Nat.le_of_ble_eq_true rfl)⟩) ⟨Pre.blind, va_recv hK hP (ci := 10) (q0 := 0) rfl rfl, Pre.mk hPc (hDc.weaken (fun _ _ _ h => hAlo _ h)) hC hS hAlo⟩ rfl rfl hl.1 rfl (lv_room (Nat.le_of_ble_eq_true rfl)) dX10_addItem_37 ⟨(Nat.le_of_ble_eq_true rfl), (Nat.le_of_ble_eq_true rfl)⟩) hS (fun q _ h => hFc q h) hFc (fun r_13 u t H1 locs1 ht hvm e_14 hB hz1 hk1 hS1 => ?_)
        have hS := hS1
        obtain ⟨hP1, hD1⟩ := hB
        rw [ht] at hP1
        obtain ⟨hP, hD⟩ := va_join (wr := [(w, .inr (9, [.int wd, .int 0, .ref b2, .ref b3, .ref b4, .ref b5, .int 0, .ref b7, .ref b8, .ref b9, .ref b10, .ref b11, .ref b12, .int 0, .ref b14, .ref b15, .ref b16, .ref b17, .int 0, .ref b19, .ref b20, .ref b21, .ref b22, .ref b23, .ref b24, .ref b25, .ref b26, .ref b27, .int 0, .ref b29, .ref b30, .ref b31, .ref b32, .ref b33, .ref b34, .ref b35])), (b2, .inl (cI, 6, .inl (fun _ => 0))), (b3, .inl (cI, 6, .inl (fun _ => 0))), (b4, .inl (cI, 6, .inl (fun _ => 0)))]) (w1 := [(mm, .inr (10, [.ref w, .int 1]))]) hP hD [0] [1, 2, 3, 4] rfl rfl (by decide) (by decide) hk1 hFc hP1 hD1
        have e_14 : 0 = r_13 := Eq.symm e_14
        subst e_14
        clear hFc hPc hDc ht hvm hz1 hk1 hS1 hP1 hD1
        generalize H1 = H at hP hS ⊢
        replace hP : va_P D vwCl [(w, .inr (9, [.int wd, .int 0, .ref b2, .ref b3, .ref b4, .ref b5, .int 0, .ref b7, .ref b8, .ref b9, .ref b10, .ref b11, .ref b12, .int 0, .ref b14, .ref b15, .ref b16, .ref b17, .int 0, .ref b19, .ref b20, .ref b21, .ref b22, .ref b23, .ref b24, .ref b25, .ref b26, .ref b27, .int 0, .ref b29, .ref b30, .ref b31, .ref b32, .ref b33, .ref b34, .ref b35])), (b2, .inl (cI, 6, .inl (fun _ => 0))), (b3, .inl (cI, 6, .inl (fun _ => 0))), (b4, .inl (cI, 6, .inl (fun _ => 0))), (mm, .inr (10, [.ref w, .int 1]))] H := hP
        replace hD : va_D A [(w, .inr (9, [.int wd, .int 0, .ref b2, .ref b3, .ref b4, .ref b5, .int 0, .ref b7, .ref b8, .ref b9, .ref b10, .ref b11, .ref b12, .int 0, .ref b14, .ref b15, .ref b16, .ref b17, .int 0, .ref b19, .ref b20, .ref b21, .ref b22, .ref b23, .ref b24, .ref b25, .ref b26, .ref b27, .int 0, .ref b29, .ref b30, .ref b31, .ref b32, .ref b33, .ref b34, .ref b35])), (b2, .inl (cI, 6, .inl (fun _ => 0))), (b3, .inl (cI, 6, .inl (fun _ => 0))), (b4, .inl (cI, 6, .inl (fun _ => 0))), (mm, .inr (10, [.ref w, .int 1]))] := hD
        refine W.widen (k := 0) (n := 0) (by omega) (by omega) ?_
        have hP9 := hP.sub (ws' := [(mm, .inr (10, [.ref w, .int 1]))]) [4] rfl
        have hD9 := hD.sub (ws' := [(mm, .inr (10, [.ref w, .int 1]))]) [4] (by decide) rfl
        exact W.iret (v := 0) hx hb hr (fun t ht hW => ⟨⟨0, (), rfl, rfl, 1, by rw [ht]; exact hP9, hD9, ⟨fun h9 => absurd h9.2.2 h_12, fun _ => rfl⟩⟩, hS.F ht⟩) hS.2.2 dX10_addItem_40
    · refine lv_if_eq (tgt := 35) hx hb dX10_addItem_22 (by decide) (fun _ => ?_) (fun c9 => absurd (show (0 : Int32) = (0 : Int32) from (by decide)) c9)
      refine lv_aload_n hx hb dX10_addItem_35 rfl (lv_at hl 0 rfl) ?_
      refine lv_iconst (v := 1) hx hb dX10_addItem_36 (by decide) ?_
      have hPc := hP.sub (ws' := [(mm, .inr (10, [.ref w, .int 0]))]) [0] rfl
      have hDc := hD.sub (ws' := [(mm, .inr (10, [.ref w, .int 0]))]) [0] (by decide) rfl
      have hFc := va_free (wc := [(mm, .inr (10, [.ref w, .int 0]))]) hD hS hA [0] rfl
      refine va_calli (va_runV (As := [.int 1]) (rest := []) ⟨hx, hb, hml, hown, hts⟩ (c_no l D cI cZ cJ lo H.size mm 0 w 1) (cwV 1 hts gX10_addItem_X10_no rfl rfl rfl (by decide +kernel) ⟨(Nat.le_of_ble_eq_true rfl), (Nat.le_of_ble_eq_true rfl)⟩) ⟨Pre.blind, va_recv hK hP (ci := 10) (q0 := 0) rfl rfl, Pre.mk hPc (hDc.weaken (fun _ _ _ h => hAlo _ h)) hC hS hAlo⟩ rfl rfl hl.1 rfl (lv_room (Nat.le_of_ble_eq_true rfl)) dX10_addItem_37 ⟨(Nat.le_of_ble_eq_true rfl), (Nat.le_of_ble_eq_true rfl)⟩) hS (fun q _ h => hFc q h) hFc (fun r_15 u t H1 locs1 ht hvm e_16 hB hz1 hk1 hS1 => ?_)
      have hS := hS1
      obtain ⟨hP1, hD1⟩ := hB
      rw [ht] at hP1
      obtain ⟨hP, hD⟩ := va_join (wr := [(w, .inr (9, [.int wd, .int 0, .ref b2, .ref b3, .ref b4, .ref b5, .int 0, .ref b7, .ref b8, .ref b9, .ref b10, .ref b11, .ref b12, .int 0, .ref b14, .ref b15, .ref b16, .ref b17, .int 0, .ref b19, .ref b20, .ref b21, .ref b22, .ref b23, .ref b24, .ref b25, .ref b26, .ref b27, .int 0, .ref b29, .ref b30, .ref b31, .ref b32, .ref b33, .ref b34, .ref b35])), (b2, .inl (cI, 6, .inl (fun _ => 0))), (b3, .inl (cI, 6, .inl (fun _ => 0))), (b4, .inl (cI, 6, .inl (fun _ => 0)))]) (w1 := [(mm, .inr (10, [.ref w, .int 1]))]) hP hD [0] [1, 2, 3, 4] rfl rfl (by decide) (by decide) hk1 hFc hP1 hD1
      have e_16 : 0 = r_15 := Eq.symm e_16
      subst e_16
      clear hFc hPc hDc ht hvm hz1 hk1 hS1 hP1 hD1
      generalize H1 = H at hP hS ⊢
      replace hP : va_P D vwCl [(w, .inr (9, [.int wd, .int 0, .ref b2, .ref b3, .ref b4, .ref b5, .int 0, .ref b7, .ref b8, .ref b9, .ref b10, .ref b11, .ref b12, .int 0, .ref b14, .ref b15, .ref b16, .ref b17, .int 0, .ref b19, .ref b20, .ref b21, .ref b22, .ref b23, .ref b24, .ref b25, .ref b26, .ref b27, .int 0, .ref b29, .ref b30, .ref b31, .ref b32, .ref b33, .ref b34, .ref b35])), (b2, .inl (cI, 6, .inl (fun _ => 0))), (b3, .inl (cI, 6, .inl (fun _ => 0))), (b4, .inl (cI, 6, .inl (fun _ => 0))), (mm, .inr (10, [.ref w, .int 1]))] H := hP
      replace hD : va_D A [(w, .inr (9, [.int wd, .int 0, .ref b2, .ref b3, .ref b4, .ref b5, .int 0, .ref b7, .ref b8, .ref b9, .ref b10, .ref b11, .ref b12, .int 0, .ref b14, .ref b15, .ref b16, .ref b17, .int 0, .ref b19, .ref b20, .ref b21, .ref b22, .ref b23, .ref b24, .ref b25, .ref b26, .ref b27, .int 0, .ref b29, .ref b30, .ref b31, .ref b32, .ref b33, .ref b34, .ref b35])), (b2, .inl (cI, 6, .inl (fun _ => 0))), (b3, .inl (cI, 6, .inl (fun _ => 0))), (b4, .inl (cI, 6, .inl (fun _ => 0))), (mm, .inr (10, [.ref w, .int 1]))] := hD
      refine W.widen (k := 0) (n := 0) (by omega) (by omega) ?_
      have hP9 := hP.sub (ws' := [(mm, .inr (10, [.ref w, .int 1]))]) [4] rfl
      have hD9 := hD.sub (ws' := [(mm, .inr (10, [.ref w, .int 1]))]) [4] (by decide) rfl
      exact W.iret (v := 0) hx hb hr (fun t ht hW => ⟨⟨0, (), rfl, rfl, 1, by rw [ht]; exact hP9, hD9, ⟨fun h9 => absurd h9.2.1 h_8, fun _ => rfl⟩⟩, hS.F ht⟩) hS.2.2 dX10_addItem_40
  · refine lv_if_eq (tgt := 35) hx hb dX10_addItem_12 (by decide) (fun _ => ?_) (fun c9 => absurd (show (0 : Int32) = (0 : Int32) from (by decide)) c9)
    refine lv_aload_n hx hb dX10_addItem_35 rfl (lv_at hl 0 rfl) ?_
    refine lv_iconst (v := 1) hx hb dX10_addItem_36 (by decide) ?_
    have hPc := hP.sub (ws' := [(mm, .inr (10, [.ref w, .int 0]))]) [0] rfl
    have hDc := hD.sub (ws' := [(mm, .inr (10, [.ref w, .int 0]))]) [0] (by decide) rfl
    have hFc := va_free (wc := [(mm, .inr (10, [.ref w, .int 0]))]) hD hS hA [0] rfl
    refine va_calli (va_runV (As := [.int 1]) (rest := []) ⟨hx, hb, hml, hown, hts⟩ (c_no l D cI cZ cJ lo H.size mm 0 w 1) (cwV 1 hts gX10_addItem_X10_no rfl rfl rfl (by decide +kernel) ⟨(Nat.le_of_ble_eq_true rfl), (Nat.le_of_ble_eq_true rfl)⟩) ⟨Pre.blind, va_recv hK hP (ci := 10) (q0 := 0) rfl rfl, Pre.mk hPc (hDc.weaken (fun _ _ _ h => hAlo _ h)) hC hS hAlo⟩ rfl rfl hl.1 rfl (lv_room (Nat.le_of_ble_eq_true rfl)) dX10_addItem_37 ⟨(Nat.le_of_ble_eq_true rfl), (Nat.le_of_ble_eq_true rfl)⟩) hS (fun q _ h => hFc q h) hFc (fun r_17 u t H1 locs1 ht hvm e_18 hB hz1 hk1 hS1 => ?_)
    have hS := hS1
    obtain ⟨hP1, hD1⟩ := hB
    rw [ht] at hP1
    obtain ⟨hP, hD⟩ := va_join (wr := [(w, .inr (9, [.int wd, .int 0, .ref b2, .ref b3, .ref b4, .ref b5, .int 0, .ref b7, .ref b8, .ref b9, .ref b10, .ref b11, .ref b12, .int 0, .ref b14, .ref b15, .ref b16, .ref b17, .int 0, .ref b19, .ref b20, .ref b21, .ref b22, .ref b23, .ref b24, .ref b25, .ref b26, .ref b27, .int 0, .ref b29, .ref b30, .ref b31, .ref b32, .ref b33, .ref b34, .ref b35])), (b2, .inl (cI, 6, .inl (fun _ => 0))), (b3, .inl (cI, 6, .inl (fun _ => 0))), (b4, .inl (cI, 6, .inl (fun _ => 0)))]) (w1 := [(mm, .inr (10, [.ref w, .int 1]))]) hP hD [0] [1, 2, 3, 4] rfl rfl (by decide) (by decide) hk1 hFc hP1 hD1
    have e_18 : 0 = r_17 := Eq.symm e_18
    subst e_18
    clear hFc hPc hDc ht hvm hz1 hk1 hS1 hP1 hD1
    generalize H1 = H at hP hS ⊢
    replace hP : va_P D vwCl [(w, .inr (9, [.int wd, .int 0, .ref b2, .ref b3, .ref b4, .ref b5, .int 0, .ref b7, .ref b8, .ref b9, .ref b10, .ref b11, .ref b12, .int 0, .ref b14, .ref b15, .ref b16, .ref b17, .int 0, .ref b19, .ref b20, .ref b21, .ref b22, .ref b23, .ref b24, .ref b25, .ref b26, .ref b27, .int 0, .ref b29, .ref b30, .ref b31, .ref b32, .ref b33, .ref b34, .ref b35])), (b2, .inl (cI, 6, .inl (fun _ => 0))), (b3, .inl (cI, 6, .inl (fun _ => 0))), (b4, .inl (cI, 6, .inl (fun _ => 0))), (mm, .inr (10, [.ref w, .int 1]))] H := hP
    replace hD : va_D A [(w, .inr (9, [.int wd, .int 0, .ref b2, .ref b3, .ref b4, .ref b5, .int 0, .ref b7, .ref b8, .ref b9, .ref b10, .ref b11, .ref b12, .int 0, .ref b14, .ref b15, .ref b16, .ref b17, .int 0, .ref b19, .ref b20, .ref b21, .ref b22, .ref b23, .ref b24, .ref b25, .ref b26, .ref b27, .int 0, .ref b29, .ref b30, .ref b31, .ref b32, .ref b33, .ref b34, .ref b35])), (b2, .inl (cI, 6, .inl (fun _ => 0))), (b3, .inl (cI, 6, .inl (fun _ => 0))), (b4, .inl (cI, 6, .inl (fun _ => 0))), (mm, .inr (10, [.ref w, .int 1]))] := hD
    refine W.widen (k := 0) (n := 0) (by omega) (by omega) ?_
    have hP9 := hP.sub (ws' := [(mm, .inr (10, [.ref w, .int 1]))]) [4] rfl
    have hD9 := hD.sub (ws' := [(mm, .inr (10, [.ref w, .int 1]))]) [4] (by decide) rfl
    exact W.iret (v := 0) hx hb hr (fun t ht hW => ⟨⟨0, (), rfl, rfl, 1, by rw [ht]; exact hP9, hD9, ⟨fun h9 => absurd h9.1 h_4, fun _ => rfl⟩⟩, hS.F ht⟩) hS.2.2 dX10_addItem_40

set_option maxHeartbeats 4000000 in
set_option maxRecDepth 100000 in
/-- the reference's addSite on a fresh object -/
theorem m_addSite (l : Launch) (D : va_G) (cI cZ cJ : ClassId) (lo sz : Nat) (mm : Nat) (tt : Int32) (w : Nat) (wd : Int32) (b2 : Nat) (b3 : Nat) (b4 : Nat) (b5 : Nat) (b7 : Nat) (b8 : Nat) (b9 : Nat) (b10 : Nat) (b11 : Nat) (b12 : Nat) (b14 : Nat) (b15 : Nat) (b16 : Nat) (b17 : Nat) (b19 : Nat) (b20 : Nat) (b21 : Nat) (b22 : Nat) (b23 : Nat) (b24 : Nat) (b25 : Nat) (b26 : Nat) (b27 : Nat) (b29 : Nat) (b30 : Nat) (b31 : Nat) (b32 : Nat) (b33 : Nat) (b34 : Nat) (b35 : Nat) (p0 : Int32) : Met l yX10_addSite wsX10_addSite ({ frames := 1, cells := 0, slots := 0, locals := 22 }) (Pre lo D cI cZ cJ [.ref mm, .int p0] sz [(mm, .inr (10, [.ref w, .int tt])), (w, .inr (9, [.int wd, .int 0, .ref b2, .ref b3, .ref b4, .ref b5, .int 0, .ref b7, .ref b8, .ref b9, .ref b10, .ref b11, .ref b12, .int 0, .ref b14, .ref b15, .ref b16, .ref b17, .int 0, .ref b19, .ref b20, .ref b21, .ref b22, .ref b23, .ref b24, .ref b25, .ref b26, .ref b27, .int 0, .ref b29, .ref b30, .ref b31, .ref b32, .ref b33, .ref b34, .ref b35])), (b7, .inl (cI, 5, .inl (fun _ => 0)))]) (va_Qi (fun (r : Int32) (_ : Unit) => r = 0) (fun _ t => ∃ (tz : Int32), va_P D vwCl [(mm, .inr (10, [.ref w, .int tz]))] t.heap ∧ va_D (va_A [(mm, .inr (10, [.ref w, .int tt])), (w, .inr (9, [.int wd, .int 0, .ref b2, .ref b3, .ref b4, .ref b5, .int 0, .ref b7, .ref b8, .ref b9, .ref b10, .ref b11, .ref b12, .int 0, .ref b14, .ref b15, .ref b16, .ref b17, .int 0, .ref b19, .ref b20, .ref b21, .ref b22, .ref b23, .ref b24, .ref b25, .ref b26, .ref b27, .int 0, .ref b29, .ref b30, .ref b31, .ref b32, .ref b33, .ref b34, .ref b35])), (b7, .inl (cI, 5, .inl (fun _ => 0)))] sz) [(mm, .inr (10, [.ref w, .int tz]))] ∧ ((1 ≤ p0 ∧ p0 ≤ 9999) → tz = 0) ∧ (¬ (1 ≤ p0 ∧ p0 ≤ 9999) → tz = 1)) (va_A [(mm, .inr (10, [.ref w, .int tt])), (w, .inr (9, [.int wd, .int 0, .ref b2, .ref b3, .ref b4, .ref b5, .int 0, .ref b7, .ref b8, .ref b9, .ref b10, .ref b11, .ref b12, .int 0, .ref b14, .ref b15, .ref b16, .ref b17, .int 0, .ref b19, .ref b20, .ref b21, .ref b22, .ref b23, .ref b24, .ref b25, .ref b26, .ref b27, .int 0, .ref b29, .ref b30, .ref b31, .ref b32, .ref b33, .ref b34, .ref b35])), (b7, .inl (cI, 5, .inl (fun _ => 0)))] sz)) 0 0 (va_A [(mm, .inr (10, [.ref w, .int tt])), (w, .inr (9, [.int wd, .int 0, .ref b2, .ref b3, .ref b4, .ref b5, .int 0, .ref b7, .ref b8, .ref b9, .ref b10, .ref b11, .ref b12, .int 0, .ref b14, .ref b15, .ref b16, .ref b17, .int 0, .ref b19, .ref b20, .ref b21, .ref b22, .ref b23, .ref b24, .ref b25, .ref b26, .ref b27, .int 0, .ref b29, .ref b30, .ref b31, .ref b32, .ref b33, .ref b34, .ref b35])), (b7, .inl (cI, 5, .inl (fun _ => 0)))] sz) := by
  refine Met.ofW (cc := cX10_addSite) (maxL := 2) (ret := (some .int)) (by decide) rfl ?_
  intro p e s m args below meth c s₁ B hml hv
  obtain ⟨rfl, hsz, hP, hD0, hC⟩ := hv
  have hx := B.exec
  have hb := B.bytes
  have hr := B.returns
  have hts := atoms_spec (ws := wsX10_addSite) B.pre
  have hown : s.vm.findClass RX10 = some m.cls := findClass_of_methodNamed B.named
  have hlocks := B.notSynchronized
  subst hsz
  have hK := hC.K
  have hD := hD0.self (sz := s.heap.size)
  have hAlo0 := va_A_lo hD0 hC.1
  generalize hAe : va_A [(mm, .inr (10, [.ref w, .int tt])), (w, .inr (9, [.int wd, .int 0, .ref b2, .ref b3, .ref b4, .ref b5, .int 0, .ref b7, .ref b8, .ref b9, .ref b10, .ref b11, .ref b12, .int 0, .ref b14, .ref b15, .ref b16, .ref b17, .int 0, .ref b19, .ref b20, .ref b21, .ref b22, .ref b23, .ref b24, .ref b25, .ref b26, .ref b27, .int 0, .ref b29, .ref b30, .ref b31, .ref b32, .ref b33, .ref b34, .ref b35])), (b7, .inl (cI, 5, .inl (fun _ => 0)))] s.heap.size = A at hD hAlo0 ⊢
  have hA : ∀ q : Nat, s.heap.size ≤ q → A q := fun q h => by rw [← hAe]; exact Or.inr h
  have hAlo : ∀ q, A q → lo ≤ q := hAlo0
  have hS : va_S A s.heap s.heap [] := va_S.rf
  have hP : va_P D vwCl [(mm, .inr (10, [.ref w, .int tt])), (w, .inr (9, [.int wd, .int 0, .ref b2, .ref b3, .ref b4, .ref b5, .int 0, .ref b7, .ref b8, .ref b9, .ref b10, .ref b11, .ref b12, .int 0, .ref b14, .ref b15, .ref b16, .ref b17, .int 0, .ref b19, .ref b20, .ref b21, .ref b22, .ref b23, .ref b24, .ref b25, .ref b26, .ref b27, .int 0, .ref b29, .ref b30, .ref b31, .ref b32, .ref b33, .ref b34, .ref b35])), (b7, .inl (cI, 5, .inl (fun _ => 0)))] s.heap := hP
  have hl := lv_entry ([.ref mm, .int p0]) (n := 2) (Nat.le_of_ble_eq_true rfl)
  rw [lg_entry_eq]
  generalize (lg_sl ([.ref mm, .int p0]) ++ List.replicate (2 - (lg_sl ([.ref mm, .int p0])).length) Slot.unset).toArray = ls at hl ⊢
  have hl : lv_has ls 2 [(0, .ref mm), (1, .int p0)] := hl
  have in9 : ∀ w ∈ u_ws RX9 TX9 36, w ∈ wsX10_addSite := by decide +kernel
  have in10 : ∀ w ∈ u_ws RX10 TX10 2, w ∈ wsX10_addSite := by decide +kernel
  refine lv_aload_n hx hb dX10_addSite_0 rfl (lv_at hl 0 rfl) ?_
  refine lv_iconst (v := 0) hx hb dX10_addSite_1 (by decide) ?_
  refine va_put (D := D) (ci := 10) (v := .int 0) (ty := .int) (C := RX10) (T := TX10) (N := 2) hx hb hts in10 tyX10 tyX10_ok nmX10 hown hK hP hD hS 0 rfl rfl 1 (by decide) (hts (.fieldLink RX10 22 "GranaryModel" "thrown" "I") (by decide +kernel)) (fun _ h9 => h9) rfl (by decide +kernel) rfl rfl (Nat.le_of_ble_eq_true rfl) dX10_addSite_2 (fun H locs hP hD hS => ?_)
  replace hP : va_P D vwCl [(mm, .inr (10, [.ref w, .int 0])), (w, .inr (9, [.int wd, .int 0, .ref b2, .ref b3, .ref b4, .ref b5, .int 0, .ref b7, .ref b8, .ref b9, .ref b10, .ref b11, .ref b12, .int 0, .ref b14, .ref b15, .ref b16, .ref b17, .int 0, .ref b19, .ref b20, .ref b21, .ref b22, .ref b23, .ref b24, .ref b25, .ref b26, .ref b27, .int 0, .ref b29, .ref b30, .ref b31, .ref b32, .ref b33, .ref b34, .ref b35])), (b7, .inl (cI, 5, .inl (fun _ => 0)))] H := hP
  replace hD : va_D A [(mm, .inr (10, [.ref w, .int 0])), (w, .inr (9, [.int wd, .int 0, .ref b2, .ref b3, .ref b4, .ref b5, .int 0, .ref b7, .ref b8, .ref b9, .ref b10, .ref b11, .ref b12, .int 0, .ref b14, .ref b15, .ref b16, .ref b17, .int 0, .ref b19, .ref b20, .ref b21, .ref b22, .ref b23, .ref b24, .ref b25, .ref b26, .ref b27, .int 0, .ref b29, .ref b30, .ref b31, .ref b32, .ref b33, .ref b34, .ref b35])), (b7, .inl (cI, 5, .inl (fun _ => 0)))] := hD
  refine lv_iload_n hx hb dX10_addSite_5 rfl (lv_at hl 1 rfl) ?_
  refine lv_iconst (v := 1) hx hb dX10_addSite_6 (by decide) ?_
  refine lv_sipush (v := 9999) hx hb dX10_addSite_7 (by decide) ?_
  have hPc := hP.sub (ws' := []) [] rfl
  have hDc := hD.sub (ws' := []) [] (by decide) rfl
  refine vp_callSi (W.runS (As := [.int p0, .int 1, .int 9999]) (rest := []) ⟨hx, hb, hml, hown, hts⟩ (c_isIn l D cI cZ cJ lo H.size p0 1 9999) (va_cwS 3 hts gX10_addSite_X10_isIn rfl rfl rfl (by decide +kernel) ⟨(Nat.le_of_ble_eq_true rfl), (Nat.le_of_ble_eq_true rfl)⟩) ⟨Pre.blind, Pre.mk hPc (hDc.weaken (fun _ _ _ h => hAlo _ h)) hC hS hAlo⟩ rfl rfl hl.1 rfl (lv_room (Nat.le_of_ble_eq_true rfl)) dX10_addSite_10 ⟨(Nat.le_of_ble_eq_true rfl), (Nat.le_of_ble_eq_true rfl)⟩) (fun r_1 e_2 => ?_)
  clear hPc hDc
  rcases e_2 with ⟨rfl, h_3⟩ | ⟨rfl, h_4⟩
  · refine lv_if_ne (tgt := 22) hx hb dX10_addSite_13 (by decide) (fun _ => ?_) (fun c9 => absurd c9 (show ¬ (1 : Int32) = (0 : Int32) from (by decide)))
    refine lv_aload_n hx hb dX10_addSite_22 rfl (lv_at hl 0 rfl) ?_
    refine va_get (D := D) (ci := 10) (v := .ref w) (C := RX10) (T := TX10) (N := 2) hx hb hts in10 hown hK hP 0 rfl rfl 0 (by decide) (hts (.fieldLink RX10 16 "GranaryModel" "w" "LGranaryModel$World;") (by decide +kernel)) (fun _ h9 => h9) rfl dX10_addSite_23 ?_
    refine va_get (D := D) (ci := 9) (v := .int 0) (C := RX9) (T := TX9) (N := 36) hx hb hts in9 hown hK hP 1 rfl rfl 6 (by decide) (hts (.fieldLink RX10 33 "GranaryModel$World" "sites" "I") (by decide +kernel)) (fun _ h9 => h9) rfl dX10_addSite_26 ?_
    refine lv_iconst (v := 5) hx hb dX10_addSite_29 (by decide) ?_
    refine lv_icmp_ne (tgt := 39) hx hb dX10_addSite_30 (by decide) (fun _ => ?_) (fun c9 => absurd c9 (show ¬ (0 : Int32) = (5 : Int32) from (by decide)))
    refine lv_aload_n hx hb dX10_addSite_39 rfl (lv_at hl 0 rfl) ?_
    refine va_get (D := D) (ci := 10) (v := .ref w) (C := RX10) (T := TX10) (N := 2) hx hb hts in10 hown hK hP 0 rfl rfl 0 (by decide) (hts (.fieldLink RX10 16 "GranaryModel" "w" "LGranaryModel$World;") (by decide +kernel)) (fun _ h9 => h9) rfl dX10_addSite_40 ?_
    refine va_get (D := D) (ci := 9) (v := .ref b7) (C := RX9) (T := TX9) (N := 36) hx hb hts in9 hown hK hP 1 rfl rfl 7 (by decide) (hts (.fieldLink RX10 57 "GranaryModel$World" "room" "[I") (by decide +kernel)) (fun _ h9 => h9) rfl dX10_addSite_43 ?_
    refine lv_aload_n hx hb dX10_addSite_46 rfl (lv_at hl 0 rfl) ?_
    refine va_get (D := D) (ci := 10) (v := .ref w) (C := RX10) (T := TX10) (N := 2) hx hb hts in10 hown hK hP 0 rfl rfl 0 (by decide) (hts (.fieldLink RX10 16 "GranaryModel" "w" "LGranaryModel$World;") (by decide +kernel)) (fun _ h9 => h9) rfl dX10_addSite_47 ?_
    refine va_get (D := D) (ci := 9) (v := .int 0) (C := RX9) (T := TX9) (N := 36) hx hb hts in9 hown hK hP 1 rfl rfl 6 (by decide) (hts (.fieldLink RX10 33 "GranaryModel$World" "sites" "I") (by decide +kernel)) (fun _ h9 => h9) rfl dX10_addSite_50 ?_
    refine lv_iload_n hx hb dX10_addSite_53 rfl (lv_at hl 1 rfl) ?_
    refine va_iast hx hb hK hP hD hS 2 0 rfl rfl (by unfold vp_in; decide) dX10_addSite_54 (fun H locs hP hD hS => ?_)
    replace hP : va_P D vwCl [(mm, .inr (10, [.ref w, .int 0])), (w, .inr (9, [.int wd, .int 0, .ref b2, .ref b3, .ref b4, .ref b5, .int 0, .ref b7, .ref b8, .ref b9, .ref b10, .ref b11, .ref b12, .int 0, .ref b14, .ref b15, .ref b16, .ref b17, .int 0, .ref b19, .ref b20, .ref b21, .ref b22, .ref b23, .ref b24, .ref b25, .ref b26, .ref b27, .int 0, .ref b29, .ref b30, .ref b31, .ref b32, .ref b33, .ref b34, .ref b35])), (b7, .inl (cI, 5, .inl (upd (fun _ => 0) (Int32.toNatClampNeg 0) p0)))] H := hP
    replace hD : va_D A [(mm, .inr (10, [.ref w, .int 0])), (w, .inr (9, [.int wd, .int 0, .ref b2, .ref b3, .ref b4, .ref b5, .int 0, .ref b7, .ref b8, .ref b9, .ref b10, .ref b11, .ref b12, .int 0, .ref b14, .ref b15, .ref b16, .ref b17, .int 0, .ref b19, .ref b20, .ref b21, .ref b22, .ref b23, .ref b24, .ref b25, .ref b26, .ref b27, .int 0, .ref b29, .ref b30, .ref b31, .ref b32, .ref b33, .ref b34, .ref b35])), (b7, .inl (cI, 5, .inl (upd (fun _ => 0) (Int32.toNatClampNeg 0) p0)))] := hD
    refine lv_aload_n hx hb dX10_addSite_55 rfl (lv_at hl 0 rfl) ?_
    refine va_get (D := D) (ci := 10) (v := .ref w) (C := RX10) (T := TX10) (N := 2) hx hb hts in10 hown hK hP 0 rfl rfl 0 (by decide) (hts (.fieldLink RX10 16 "GranaryModel" "w" "LGranaryModel$World;") (by decide +kernel)) (fun _ h9 => h9) rfl dX10_addSite_56 ?_
    refine lv_dup hx hb dX10_addSite_59 rfl ?_
    refine va_get (D := D) (ci := 9) (v := .int 0) (C := RX9) (T := TX9) (N := 36) hx hb hts in9 hown hK hP 1 rfl rfl 6 (by decide) (hts (.fieldLink RX10 33 "GranaryModel$World" "sites" "I") (by decide +kernel)) (fun _ h9 => h9) rfl dX10_addSite_60 ?_
    refine lv_dup_x1 hx hb dX10_addSite_63 rfl rfl ?_
    refine lv_iconst (v := 1) hx hb dX10_addSite_64 (by decide) ?_
    refine lv_iadd hx hb dX10_addSite_65 ?_
    refine lv_toi (y := 1) (by decide) ?_
    refine va_put (D := D) (ci := 9) (v := .int 1) (ty := .int) (C := RX9) (T := TX9) (N := 36) hx hb hts in9 tyX9 tyX9_ok nmX9 hown hK hP hD hS 1 rfl rfl 6 (by decide) (hts (.fieldLink RX10 33 "GranaryModel$World" "sites" "I") (by decide +kernel)) (fun _ h9 => h9) rfl (by decide +kernel) rfl rfl (Nat.le_of_ble_eq_true rfl) dX10_addSite_66 (fun H locs hP hD hS => ?_)
    replace hP : va_P D vwCl [(mm, .inr (10, [.ref w, .int 0])), (w, .inr (9, [.int wd, .int 0, .ref b2, .ref b3, .ref b4, .ref b5, .int 1, .ref b7, .ref b8, .ref b9, .ref b10, .ref b11, .ref b12, .int 0, .ref b14, .ref b15, .ref b16, .ref b17, .int 0, .ref b19, .ref b20, .ref b21, .ref b22, .ref b23, .ref b24, .ref b25, .ref b26, .ref b27, .int 0, .ref b29, .ref b30, .ref b31, .ref b32, .ref b33, .ref b34, .ref b35])), (b7, .inl (cI, 5, .inl (upd (fun _ => 0) (Int32.toNatClampNeg 0) p0)))] H := hP
    replace hD : va_D A [(mm, .inr (10, [.ref w, .int 0])), (w, .inr (9, [.int wd, .int 0, .ref b2, .ref b3, .ref b4, .ref b5, .int 1, .ref b7, .ref b8, .ref b9, .ref b10, .ref b11, .ref b12, .int 0, .ref b14, .ref b15, .ref b16, .ref b17, .int 0, .ref b19, .ref b20, .ref b21, .ref b22, .ref b23, .ref b24, .ref b25, .ref b26, .ref b27, .int 0, .ref b29, .ref b30, .ref b31, .ref b32, .ref b33, .ref b34, .ref b35])), (b7, .inl (cI, 5, .inl (upd (fun _ => 0) (Int32.toNatClampNeg 0) p0)))] := hD
    refine W.widen (k := 0) (n := 0) (by omega) (by omega) ?_
    have hP9 := hP.sub (ws' := [(mm, .inr (10, [.ref w, .int 0]))]) [0] rfl
    have hD9 := hD.sub (ws' := [(mm, .inr (10, [.ref w, .int 0]))]) [0] (by decide) rfl
    exact W.iret (v := 0) hx hb hr (fun t ht hW => ⟨⟨0, (), rfl, rfl, 0, by rw [ht]; exact hP9, hD9, ⟨fun _ => rfl, fun h9 => absurd h_3 h9⟩⟩, hS.F ht⟩) hS.2.2 dX10_addSite_69
  · refine lv_if_ne (tgt := 22) hx hb dX10_addSite_13 (by decide) (fun c9 => absurd (show (0 : Int32) = (0 : Int32) from (by decide)) c9) (fun _ => ?_)
    refine lv_aload_n hx hb dX10_addSite_16 rfl (lv_at hl 0 rfl) ?_
    refine lv_iconst (v := 1) hx hb dX10_addSite_17 (by decide) ?_
    have hPc := hP.sub (ws' := [(mm, .inr (10, [.ref w, .int 0]))]) [0] rfl
    have hDc := hD.sub (ws' := [(mm, .inr (10, [.ref w, .int 0]))]) [0] (by decide) rfl
    have hFc := va_free (wc := [(mm, .inr (10, [.ref w, .int 0]))]) hD hS hA [0] rfl
    refine va_calli (va_runV (As := [.int 1]) (rest := []) ⟨hx, hb, hml, hown, hts⟩ (c_no l D cI cZ cJ lo H.size mm 0 w 1) (cwV 1 hts gX10_addSite_X10_no rfl rfl rfl (by decide +kernel) ⟨(Nat.le_of_ble_eq_true rfl), (Nat.le_of_ble_eq_true rfl)⟩) ⟨Pre.blind, va_recv hK hP (ci := 10) (q0 := 0) rfl rfl, Pre.mk hPc (hDc.weaken (fun _ _ _ h => hAlo _ h)) hC hS hAlo⟩ rfl rfl hl.1 rfl (lv_room (Nat.le_of_ble_eq_true rfl)) dX10_addSite_18 ⟨(Nat.le_of_ble_eq_true rfl), (Nat.le_of_ble_eq_true rfl)⟩) hS (fun q _ h => hFc q h) hFc (fun r_5 u t H1 locs1 ht hvm e_6 hB hz1 hk1 hS1 => ?_)
    have hS := hS1
    obtain ⟨hP1, hD1⟩ := hB
    rw [ht] at hP1
    obtain ⟨hP, hD⟩ := va_join (wr := [(w, .inr (9, [.int wd, .int 0, .ref b2, .ref b3, .ref b4, .ref b5, .int 0, .ref b7, .ref b8, .ref b9, .ref b10, .ref b11, .ref b12, .int 0, .ref b14, .ref b15, .ref b16, .ref b17, .int 0, .ref b19, .ref b20, .ref b21, .ref b22, .ref b23, .ref b24, .ref b25, .ref b26, .ref b27, .int 0, .ref b29, .ref b30, .ref b31, .ref b32, .ref b33, .ref b34, .ref b35])), (b7, .inl (cI, 5, .inl (fun _ => 0)))]) (w1 := [(mm, .inr (10, [.ref w, .int 1]))]) hP hD [0] [1, 2] rfl rfl (by decide) (by decide) hk1 hFc hP1 hD1
    have e_6 : 0 = r_5 := Eq.symm e_6
    subst e_6
    clear hFc hPc hDc ht hvm hz1 hk1 hS1 hP1 hD1
    generalize H1 = H at hP hS ⊢
    replace hP : va_P D vwCl [(w, .inr (9, [.int wd, .int 0, .ref b2, .ref b3, .ref b4, .ref b5, .int 0, .ref b7, .ref b8, .ref b9, .ref b10, .ref b11, .ref b12, .int 0, .ref b14, .ref b15, .ref b16, .ref b17, .int 0, .ref b19, .ref b20, .ref b21, .ref b22, .ref b23, .ref b24, .ref b25, .ref b26, .ref b27, .int 0, .ref b29, .ref b30, .ref b31, .ref b32, .ref b33, .ref b34, .ref b35])), (b7, .inl (cI, 5, .inl (fun _ => 0))), (mm, .inr (10, [.ref w, .int 1]))] H := hP
    replace hD : va_D A [(w, .inr (9, [.int wd, .int 0, .ref b2, .ref b3, .ref b4, .ref b5, .int 0, .ref b7, .ref b8, .ref b9, .ref b10, .ref b11, .ref b12, .int 0, .ref b14, .ref b15, .ref b16, .ref b17, .int 0, .ref b19, .ref b20, .ref b21, .ref b22, .ref b23, .ref b24, .ref b25, .ref b26, .ref b27, .int 0, .ref b29, .ref b30, .ref b31, .ref b32, .ref b33, .ref b34, .ref b35])), (b7, .inl (cI, 5, .inl (fun _ => 0))), (mm, .inr (10, [.ref w, .int 1]))] := hD
    refine W.widen (k := 0) (n := 0) (by omega) (by omega) ?_
    have hP9 := hP.sub (ws' := [(mm, .inr (10, [.ref w, .int 1]))]) [2] rfl
    have hD9 := hD.sub (ws' := [(mm, .inr (10, [.ref w, .int 1]))]) [2] (by decide) rfl
    exact W.iret (v := 0) hx hb hr (fun t ht hW => ⟨⟨0, (), rfl, rfl, 1, by rw [ht]; exact hP9, hD9, ⟨fun h9 => absurd h9 h_4, fun _ => rfl⟩⟩, hS.F ht⟩) hS.2.2 dX10_addSite_21

set_option maxHeartbeats 4000000 in
set_option maxRecDepth 100000 in
/-- the reference's account on a fresh object -/
theorem m_account (l : Launch) (D : va_G) (cI cZ cJ : ClassId) (lo sz : Nat) (mm : Nat) (tt : Int32) (w : Nat) (wd : Int32) (b2 : Nat) (b3 : Nat) (b4 : Nat) (b5 : Nat) (b7 : Nat) (b8 : Nat) (b9 : Nat) (b10 : Nat) (b11 : Nat) (b12 : Nat) (b14 : Nat) (b15 : Nat) (b16 : Nat) (b17 : Nat) (b19 : Nat) (b20 : Nat) (b21 : Nat) (b22 : Nat) (b23 : Nat) (b24 : Nat) (b25 : Nat) (b26 : Nat) (b27 : Nat) (b29 : Nat) (b30 : Nat) (b31 : Nat) (b32 : Nat) (b33 : Nat) (b34 : Nat) (b35 : Nat) (p0 : Int32) : Met l yX10_account wsX10_account ({ frames := 1, cells := 0, slots := 0, locals := 22 }) (Pre lo D cI cZ cJ [.ref mm, .int p0] sz [(mm, .inr (10, [.ref w, .int tt])), (w, .inr (9, [.int wd, .int 0, .ref b2, .ref b3, .ref b4, .ref b5, .int 0, .ref b7, .ref b8, .ref b9, .ref b10, .ref b11, .ref b12, .int 0, .ref b14, .ref b15, .ref b16, .ref b17, .int 0, .ref b19, .ref b20, .ref b21, .ref b22, .ref b23, .ref b24, .ref b25, .ref b26, .ref b27, .int 0, .ref b29, .ref b30, .ref b31, .ref b32, .ref b33, .ref b34, .ref b35])), (b35, .inl (cI, 5, .inl (fun _ => 0)))]) (va_Qi (fun (r : Int32) (_ : Unit) => r = 0) (fun _ t => ∃ (tz : Int32), va_P D vwCl [(mm, .inr (10, [.ref w, .int tz]))] t.heap ∧ va_D (va_A [(mm, .inr (10, [.ref w, .int tt])), (w, .inr (9, [.int wd, .int 0, .ref b2, .ref b3, .ref b4, .ref b5, .int 0, .ref b7, .ref b8, .ref b9, .ref b10, .ref b11, .ref b12, .int 0, .ref b14, .ref b15, .ref b16, .ref b17, .int 0, .ref b19, .ref b20, .ref b21, .ref b22, .ref b23, .ref b24, .ref b25, .ref b26, .ref b27, .int 0, .ref b29, .ref b30, .ref b31, .ref b32, .ref b33, .ref b34, .ref b35])), (b35, .inl (cI, 5, .inl (fun _ => 0)))] sz) [(mm, .inr (10, [.ref w, .int tz]))] ∧ ((0 ≤ p0 ∧ p0 ≤ 4) → tz = 0) ∧ (¬ (0 ≤ p0 ∧ p0 ≤ 4) → tz = 1)) (va_A [(mm, .inr (10, [.ref w, .int tt])), (w, .inr (9, [.int wd, .int 0, .ref b2, .ref b3, .ref b4, .ref b5, .int 0, .ref b7, .ref b8, .ref b9, .ref b10, .ref b11, .ref b12, .int 0, .ref b14, .ref b15, .ref b16, .ref b17, .int 0, .ref b19, .ref b20, .ref b21, .ref b22, .ref b23, .ref b24, .ref b25, .ref b26, .ref b27, .int 0, .ref b29, .ref b30, .ref b31, .ref b32, .ref b33, .ref b34, .ref b35])), (b35, .inl (cI, 5, .inl (fun _ => 0)))] sz)) 0 0 (va_A [(mm, .inr (10, [.ref w, .int tt])), (w, .inr (9, [.int wd, .int 0, .ref b2, .ref b3, .ref b4, .ref b5, .int 0, .ref b7, .ref b8, .ref b9, .ref b10, .ref b11, .ref b12, .int 0, .ref b14, .ref b15, .ref b16, .ref b17, .int 0, .ref b19, .ref b20, .ref b21, .ref b22, .ref b23, .ref b24, .ref b25, .ref b26, .ref b27, .int 0, .ref b29, .ref b30, .ref b31, .ref b32, .ref b33, .ref b34, .ref b35])), (b35, .inl (cI, 5, .inl (fun _ => 0)))] sz) := by
  refine Met.ofW (cc := cX10_account) (maxL := 2) (ret := (some .int)) (by decide) rfl ?_
  intro p e s m args below meth c s₁ B hml hv
  obtain ⟨rfl, hsz, hP, hD0, hC⟩ := hv
  have hx := B.exec
  have hb := B.bytes
  have hr := B.returns
  have hts := atoms_spec (ws := wsX10_account) B.pre
  have hown : s.vm.findClass RX10 = some m.cls := findClass_of_methodNamed B.named
  have hlocks := B.notSynchronized
  subst hsz
  have hK := hC.K
  have hD := hD0.self (sz := s.heap.size)
  have hAlo0 := va_A_lo hD0 hC.1
  generalize hAe : va_A [(mm, .inr (10, [.ref w, .int tt])), (w, .inr (9, [.int wd, .int 0, .ref b2, .ref b3, .ref b4, .ref b5, .int 0, .ref b7, .ref b8, .ref b9, .ref b10, .ref b11, .ref b12, .int 0, .ref b14, .ref b15, .ref b16, .ref b17, .int 0, .ref b19, .ref b20, .ref b21, .ref b22, .ref b23, .ref b24, .ref b25, .ref b26, .ref b27, .int 0, .ref b29, .ref b30, .ref b31, .ref b32, .ref b33, .ref b34, .ref b35])), (b35, .inl (cI, 5, .inl (fun _ => 0)))] s.heap.size = A at hD hAlo0 ⊢
  have hA : ∀ q : Nat, s.heap.size ≤ q → A q := fun q h => by rw [← hAe]; exact Or.inr h
  have hAlo : ∀ q, A q → lo ≤ q := hAlo0
  have hS : va_S A s.heap s.heap [] := va_S.rf
  have hP : va_P D vwCl [(mm, .inr (10, [.ref w, .int tt])), (w, .inr (9, [.int wd, .int 0, .ref b2, .ref b3, .ref b4, .ref b5, .int 0, .ref b7, .ref b8, .ref b9, .ref b10, .ref b11, .ref b12, .int 0, .ref b14, .ref b15, .ref b16, .ref b17, .int 0, .ref b19, .ref b20, .ref b21, .ref b22, .ref b23, .ref b24, .ref b25, .ref b26, .ref b27, .int 0, .ref b29, .ref b30, .ref b31, .ref b32, .ref b33, .ref b34, .ref b35])), (b35, .inl (cI, 5, .inl (fun _ => 0)))] s.heap := hP
  have hl := lv_entry ([.ref mm, .int p0]) (n := 2) (Nat.le_of_ble_eq_true rfl)
  rw [lg_entry_eq]
  generalize (lg_sl ([.ref mm, .int p0]) ++ List.replicate (2 - (lg_sl ([.ref mm, .int p0])).length) Slot.unset).toArray = ls at hl ⊢
  have hl : lv_has ls 2 [(0, .ref mm), (1, .int p0)] := hl
  have in9 : ∀ w ∈ u_ws RX9 TX9 36, w ∈ wsX10_account := by decide +kernel
  have in10 : ∀ w ∈ u_ws RX10 TX10 2, w ∈ wsX10_account := by decide +kernel
  refine lv_aload_n hx hb dX10_account_0 rfl (lv_at hl 0 rfl) ?_
  refine lv_iconst (v := 0) hx hb dX10_account_1 (by decide) ?_
  refine va_put (D := D) (ci := 10) (v := .int 0) (ty := .int) (C := RX10) (T := TX10) (N := 2) hx hb hts in10 tyX10 tyX10_ok nmX10 hown hK hP hD hS 0 rfl rfl 1 (by decide) (hts (.fieldLink RX10 22 "GranaryModel" "thrown" "I") (by decide +kernel)) (fun _ h9 => h9) rfl (by decide +kernel) rfl rfl (Nat.le_of_ble_eq_true rfl) dX10_account_2 (fun H locs hP hD hS => ?_)
  replace hP : va_P D vwCl [(mm, .inr (10, [.ref w, .int 0])), (w, .inr (9, [.int wd, .int 0, .ref b2, .ref b3, .ref b4, .ref b5, .int 0, .ref b7, .ref b8, .ref b9, .ref b10, .ref b11, .ref b12, .int 0, .ref b14, .ref b15, .ref b16, .ref b17, .int 0, .ref b19, .ref b20, .ref b21, .ref b22, .ref b23, .ref b24, .ref b25, .ref b26, .ref b27, .int 0, .ref b29, .ref b30, .ref b31, .ref b32, .ref b33, .ref b34, .ref b35])), (b35, .inl (cI, 5, .inl (fun _ => 0)))] H := hP
  replace hD : va_D A [(mm, .inr (10, [.ref w, .int 0])), (w, .inr (9, [.int wd, .int 0, .ref b2, .ref b3, .ref b4, .ref b5, .int 0, .ref b7, .ref b8, .ref b9, .ref b10, .ref b11, .ref b12, .int 0, .ref b14, .ref b15, .ref b16, .ref b17, .int 0, .ref b19, .ref b20, .ref b21, .ref b22, .ref b23, .ref b24, .ref b25, .ref b26, .ref b27, .int 0, .ref b29, .ref b30, .ref b31, .ref b32, .ref b33, .ref b34, .ref b35])), (b35, .inl (cI, 5, .inl (fun _ => 0)))] := hD
  refine lv_iload_n hx hb dX10_account_5 rfl (lv_at hl 1 rfl) ?_
  refine lv_iconst (v := 0) hx hb dX10_account_6 (by decide) ?_
  refine lv_iconst (v := 4) hx hb dX10_account_7 (by decide) ?_
  have hPc := hP.sub (ws' := []) [] rfl
  have hDc := hD.sub (ws' := []) [] (by decide) rfl
  refine vp_callSi (W.runS (As := [.int p0, .int 0, .int 4]) (rest := []) ⟨hx, hb, hml, hown, hts⟩ (c_isIn l D cI cZ cJ lo H.size p0 0 4) (va_cwS 3 hts gX10_account_X10_isIn rfl rfl rfl (by decide +kernel) ⟨(Nat.le_of_ble_eq_true rfl), (Nat.le_of_ble_eq_true rfl)⟩) ⟨Pre.blind, Pre.mk hPc (hDc.weaken (fun _ _ _ h => hAlo _ h)) hC hS hAlo⟩ rfl rfl hl.1 rfl (lv_room (Nat.le_of_ble_eq_true rfl)) dX10_account_8 ⟨(Nat.le_of_ble_eq_true rfl), (Nat.le_of_ble_eq_true rfl)⟩) (fun r_1 e_2 => ?_)
  clear hPc hDc
  rcases e_2 with ⟨rfl, h_3⟩ | ⟨rfl, h_4⟩
  · refine lv_if_eq (tgt := 26) hx hb dX10_account_11 (by decide) (fun c9 => absurd c9 (show ¬ ((1 : Int32) = (0 : Int32)) from (by decide))) (fun _ => ?_)
    refine lv_aload_n hx hb dX10_account_14 rfl (lv_at hl 0 rfl) ?_
    refine va_get (D := D) (ci := 10) (v := .ref w) (C := RX10) (T := TX10) (N := 2) hx hb hts in10 hown hK hP 0 rfl rfl 0 (by decide) (hts (.fieldLink RX10 16 "GranaryModel" "w" "LGranaryModel$World;") (by decide +kernel)) (fun _ h9 => h9) rfl dX10_account_15 ?_
    refine va_get (D := D) (ci := 9) (v := .ref b35) (C := RX9) (T := TX9) (N := 36) hx hb hts in9 hown hK hP 1 rfl rfl 35 (by decide) (hts (.fieldLink RX10 88 "GranaryModel$World" "account" "[I") (by decide +kernel)) (fun _ h9 => h9) rfl dX10_account_18 ?_
    refine lv_iload_n hx hb dX10_account_21 rfl (lv_at hl 1 rfl) ?_
    refine va_iald hx hb hK hP 2 0 rfl rfl (in5 h_3) dX10_account_22 ?_
    refine lv_toi (y := 0) rfl ?_
    refine lv_goto (tgt := 31) hx hb dX10_account_23 (by decide) ?_
    refine W.widen (k := 0) (n := 0) (by omega) (by omega) ?_
    have hP9 := hP.sub (ws' := [(mm, .inr (10, [.ref w, .int 0]))]) [0] rfl
    have hD9 := hD.sub (ws' := [(mm, .inr (10, [.ref w, .int 0]))]) [0] (by decide) rfl
    exact W.iret (v := 0) hx hb hr (fun t ht hW => ⟨⟨0, (), rfl, rfl, 0, by rw [ht]; exact hP9, hD9, ⟨fun _ => rfl, fun h9 => absurd h_3 h9⟩⟩, hS.F ht⟩) hS.2.2 dX10_account_31
  · refine lv_if_eq (tgt := 26) hx hb dX10_account_11 (by decide) (fun _ => ?_) (fun c9 => absurd (show (0 : Int32) = (0 : Int32) from (by decide)) c9)
    refine lv_aload_n hx hb dX10_account_26 rfl (lv_at hl 0 rfl) ?_
    refine lv_iconst (v := 1) hx hb dX10_account_27 (by decide) ?_
    have hPc := hP.sub (ws' := [(mm, .inr (10, [.ref w, .int 0]))]) [0] rfl
    have hDc := hD.sub (ws' := [(mm, .inr (10, [.ref w, .int 0]))]) [0] (by decide) rfl
    have hFc := va_free (wc := [(mm, .inr (10, [.ref w, .int 0]))]) hD hS hA [0] rfl
    refine va_calli (va_runV (As := [.int 1]) (rest := []) ⟨hx, hb, hml, hown, hts⟩ (c_no l D cI cZ cJ lo H.size mm 0 w 1) (cwV 1 hts gX10_account_X10_no rfl rfl rfl (by decide +kernel) ⟨(Nat.le_of_ble_eq_true rfl), (Nat.le_of_ble_eq_true rfl)⟩) ⟨Pre.blind, va_recv hK hP (ci := 10) (q0 := 0) rfl rfl, Pre.mk hPc (hDc.weaken (fun _ _ _ h => hAlo _ h)) hC hS hAlo⟩ rfl rfl hl.1 rfl (lv_room (Nat.le_of_ble_eq_true rfl)) dX10_account_28 ⟨(Nat.le_of_ble_eq_true rfl), (Nat.le_of_ble_eq_true rfl)⟩) hS (fun q _ h => hFc q h) hFc (fun r_5 u t H1 locs1 ht hvm e_6 hB hz1 hk1 hS1 => ?_)
    have hS := hS1
    obtain ⟨hP1, hD1⟩ := hB
    rw [ht] at hP1
    obtain ⟨hP, hD⟩ := va_join (wr := [(w, .inr (9, [.int wd, .int 0, .ref b2, .ref b3, .ref b4, .ref b5, .int 0, .ref b7, .ref b8, .ref b9, .ref b10, .ref b11, .ref b12, .int 0, .ref b14, .ref b15, .ref b16, .ref b17, .int 0, .ref b19, .ref b20, .ref b21, .ref b22, .ref b23, .ref b24, .ref b25, .ref b26, .ref b27, .int 0, .ref b29, .ref b30, .ref b31, .ref b32, .ref b33, .ref b34, .ref b35])), (b35, .inl (cI, 5, .inl (fun _ => 0)))]) (w1 := [(mm, .inr (10, [.ref w, .int 1]))]) hP hD [0] [1, 2] rfl rfl (by decide) (by decide) hk1 hFc hP1 hD1
    have e_6 : 0 = r_5 := Eq.symm e_6
    subst e_6
    clear hFc hPc hDc ht hvm hz1 hk1 hS1 hP1 hD1
    generalize H1 = H at hP hS ⊢
    replace hP : va_P D vwCl [(w, .inr (9, [.int wd, .int 0, .ref b2, .ref b3, .ref b4, .ref b5, .int 0, .ref b7, .ref b8, .ref b9, .ref b10, .ref b11, .ref b12, .int 0, .ref b14, .ref b15, .ref b16, .ref b17, .int 0, .ref b19, .ref b20, .ref b21, .ref b22, .ref b23, .ref b24, .ref b25, .ref b26, .ref b27, .int 0, .ref b29, .ref b30, .ref b31, .ref b32, .ref b33, .ref b34, .ref b35])), (b35, .inl (cI, 5, .inl (fun _ => 0))), (mm, .inr (10, [.ref w, .int 1]))] H := hP
    replace hD : va_D A [(w, .inr (9, [.int wd, .int 0, .ref b2, .ref b3, .ref b4, .ref b5, .int 0, .ref b7, .ref b8, .ref b9, .ref b10, .ref b11, .ref b12, .int 0, .ref b14, .ref b15, .ref b16, .ref b17, .int 0, .ref b19, .ref b20, .ref b21, .ref b22, .ref b23, .ref b24, .ref b25, .ref b26, .ref b27, .int 0, .ref b29, .ref b30, .ref b31, .ref b32, .ref b33, .ref b34, .ref b35])), (b35, .inl (cI, 5, .inl (fun _ => 0))), (mm, .inr (10, [.ref w, .int 1]))] := hD
    refine W.widen (k := 0) (n := 0) (by omega) (by omega) ?_
    have hP9 := hP.sub (ws' := [(mm, .inr (10, [.ref w, .int 1]))]) [2] rfl
    have hD9 := hD.sub (ws' := [(mm, .inr (10, [.ref w, .int 1]))]) [2] (by decide) rfl
    exact W.iret (v := 0) hx hb hr (fun t ht hW => ⟨⟨0, (), rfl, rfl, 1, by rw [ht]; exact hP9, hD9, ⟨fun h9 => absurd h9 h_4, fun _ => rfl⟩⟩, hS.F ht⟩) hS.2.2 dX10_account_31

set_option maxHeartbeats 4000000 in
set_option maxRecDepth 100000 in
/-- World.reserveAll, with nothing there -/
theorem c_W_reserveAll (l : Launch) (D : va_G) (cI cZ cJ : ClassId) (lo sz : Nat) (w : Nat) (wd : Int32) (b2 : Nat) (b3 : Nat) (b4 : Nat) (b5 : Nat) (b7 : Nat) (b8 : Nat) (b9 : Nat) (b10 : Nat) (b11 : Nat) (b12 : Nat) (b14 : Nat) (b15 : Nat) (b16 : Nat) (b17 : Nat) (b19 : Nat) (b20 : Nat) (b21 : Nat) (b22 : Nat) (b23 : Nat) (b24 : Nat) (b25 : Nat) (b26 : Nat) (b27 : Nat) (b29 : Nat) (b30 : Nat) (b31 : Nat) (b32 : Nat) (b33 : Nat) (b34 : Nat) (b35 : Nat) : Met l yX9_reserveAll wsX9_reserveAll ({ frames := 0, cells := 1, slots := 0, locals := 0 }) (Pre lo D cI cZ cJ [.ref w] sz [(w, .inr (9, [.int wd, .int 0, .ref b2, .ref b3, .ref b4, .ref b5, .int 0, .ref b7, .ref b8, .ref b9, .ref b10, .ref b11, .ref b12, .int 0, .ref b14, .ref b15, .ref b16, .ref b17, .int 0, .ref b19, .ref b20, .ref b21, .ref b22, .ref b23, .ref b24, .ref b25, .ref b26, .ref b27, .int 0, .ref b29, .ref b30, .ref b31, .ref b32, .ref b33, .ref b34, .ref b35]))]) (va_Qv (fun _ : Unit => True) (fun _ t => va_P D vwCl [(w, .inr (9, [.int wd, .int 0, .ref b2, .ref b3, .ref b4, .ref b5, .int 0, .ref b7, .ref b8, .ref b9, .ref b10, .ref b11, .ref b12, .int 0, .ref b14, .ref b15, .ref b16, .ref b17, .int 0, .ref b19, .ref b20, .ref b21, .ref b22, .ref b23, .ref b24, .ref b25, .ref b26, .ref b27, .int 0, .ref b29, .ref b30, .ref b31, .ref b32, .ref b33, .ref b34, .ref b35]))] t.heap ∧ va_D (va_A [(w, .inr (9, [.int wd, .int 0, .ref b2, .ref b3, .ref b4, .ref b5, .int 0, .ref b7, .ref b8, .ref b9, .ref b10, .ref b11, .ref b12, .int 0, .ref b14, .ref b15, .ref b16, .ref b17, .int 0, .ref b19, .ref b20, .ref b21, .ref b22, .ref b23, .ref b24, .ref b25, .ref b26, .ref b27, .int 0, .ref b29, .ref b30, .ref b31, .ref b32, .ref b33, .ref b34, .ref b35]))] sz) [(w, .inr (9, [.int wd, .int 0, .ref b2, .ref b3, .ref b4, .ref b5, .int 0, .ref b7, .ref b8, .ref b9, .ref b10, .ref b11, .ref b12, .int 0, .ref b14, .ref b15, .ref b16, .ref b17, .int 0, .ref b19, .ref b20, .ref b21, .ref b22, .ref b23, .ref b24, .ref b25, .ref b26, .ref b27, .int 0, .ref b29, .ref b30, .ref b31, .ref b32, .ref b33, .ref b34, .ref b35]))]) (va_A [(w, .inr (9, [.int wd, .int 0, .ref b2, .ref b3, .ref b4, .ref b5, .int 0, .ref b7, .ref b8, .ref b9, .ref b10, .ref b11, .ref b12, .int 0, .ref b14, .ref b15, .ref b16, .ref b17, .int 0, .ref b19, .ref b20, .ref b21, .ref b22, .ref b23, .ref b24, .ref b25, .ref b26, .ref b27, .int 0, .ref b29, .ref b30, .ref b31, .ref b32, .ref b33, .ref b34, .ref b35]))] sz)) 1 0 (va_A [(w, .inr (9, [.int wd, .int 0, .ref b2, .ref b3, .ref b4, .ref b5, .int 0, .ref b7, .ref b8, .ref b9, .ref b10, .ref b11, .ref b12, .int 0, .ref b14, .ref b15, .ref b16, .ref b17, .int 0, .ref b19, .ref b20, .ref b21, .ref b22, .ref b23, .ref b24, .ref b25, .ref b26, .ref b27, .int 0, .ref b29, .ref b30, .ref b31, .ref b32, .ref b33, .ref b34, .ref b35]))] sz) := by
  refine Met.ofW (cc := cX9_reserveAll) (maxL := 5) (ret := none) (by decide) rfl ?_
  intro p e s m args below meth c s₁ B hml hv
  obtain ⟨rfl, hsz, hP, hD0, hC⟩ := hv
  have hx := B.exec
  have hb := B.bytes
  have hr := B.returns
  have hts := atoms_spec (ws := wsX9_reserveAll) B.pre
  have hown : s.vm.findClass RX9 = some m.cls := findClass_of_methodNamed B.named
  have hlocks := B.notSynchronized
  subst hsz
  have hK := hC.K
  have hD := hD0.self (sz := s.heap.size)
  have hAlo0 := va_A_lo hD0 hC.1
  generalize hAe : va_A [(w, .inr (9, [.int wd, .int 0, .ref b2, .ref b3, .ref b4, .ref b5, .int 0, .ref b7, .ref b8, .ref b9, .ref b10, .ref b11, .ref b12, .int 0, .ref b14, .ref b15, .ref b16, .ref b17, .int 0, .ref b19, .ref b20, .ref b21, .ref b22, .ref b23, .ref b24, .ref b25, .ref b26, .ref b27, .int 0, .ref b29, .ref b30, .ref b31, .ref b32, .ref b33, .ref b34, .ref b35]))] s.heap.size = A at hD hAlo0 ⊢
  have hA : ∀ q : Nat, s.heap.size ≤ q → A q := fun q h => by rw [← hAe]; exact Or.inr h
  have hAlo : ∀ q, A q → lo ≤ q := hAlo0
  have hS : va_S A s.heap s.heap [] := va_S.rf
  have hP : va_P D vwCl [(w, .inr (9, [.int wd, .int 0, .ref b2, .ref b3, .ref b4, .ref b5, .int 0, .ref b7, .ref b8, .ref b9, .ref b10, .ref b11, .ref b12, .int 0, .ref b14, .ref b15, .ref b16, .ref b17, .int 0, .ref b19, .ref b20, .ref b21, .ref b22, .ref b23, .ref b24, .ref b25, .ref b26, .ref b27, .int 0, .ref b29, .ref b30, .ref b31, .ref b32, .ref b33, .ref b34, .ref b35]))] s.heap := hP
  have hl := lv_entry ([.ref w]) (n := 5) (Nat.le_of_ble_eq_true rfl)
  rw [lg_entry_eq]
  generalize (lg_sl ([.ref w]) ++ List.replicate (5 - (lg_sl ([.ref w])).length) Slot.unset).toArray = ls at hl ⊢
  have hl : lv_has ls 5 [(0, .ref w)] := hl
  have in9 : ∀ w ∈ u_ws RX9 TX9 36, w ∈ wsX9_reserveAll := by decide +kernel
  refine lv_aload_n hx hb dX9_reserveAll_0 rfl (lv_at hl 0 rfl) ?_
  refine va_get (D := D) (ci := 9) (v := .int 0) (C := RX9) (T := TX9) (N := 36) hx hb hts in9 hown hK hP 0 rfl rfl 18 (by decide) (hts (.fieldLink RX9 120 "GranaryModel$World" "orders" "I") (by decide +kernel)) (fun _ h9 => h9) rfl dX9_reserveAll_1 ?_
  refine na_z (N' := 0) hx hb (hts (.arrayClass .boolean) (by decide +kernel)) hK hP hD hS hA (by decide) (by decide) (Nat.le_of_ble_eq_true rfl) (Nat.le_of_ble_eq_true rfl) (Nat.le_of_ble_eq_true rfl) dX9_reserveAll_4 (fun q_1 H hP hD hS => ?_)
  replace hP : va_P D vwCl [(w, .inr (9, [.int wd, .int 0, .ref b2, .ref b3, .ref b4, .ref b5, .int 0, .ref b7, .ref b8, .ref b9, .ref b10, .ref b11, .ref b12, .int 0, .ref b14, .ref b15, .ref b16, .ref b17, .int 0, .ref b19, .ref b20, .ref b21, .ref b22, .ref b23, .ref b24, .ref b25, .ref b26, .ref b27, .int 0, .ref b29, .ref b30, .ref b31, .ref b32, .ref b33, .ref b34, .ref b35])), (q_1, .inl (cZ, 0, .inl (fun _ => 0)))] H := hP
  replace hD : va_D A [(w, .inr (9, [.int wd, .int 0, .ref b2, .ref b3, .ref b4, .ref b5, .int 0, .ref b7, .ref b8, .ref b9, .ref b10, .ref b11, .ref b12, .int 0, .ref b14, .ref b15, .ref b16, .ref b17, .int 0, .ref b19, .ref b20, .ref b21, .ref b22, .ref b23, .ref b24, .ref b25, .ref b26, .ref b27, .int 0, .ref b29, .ref b30, .ref b31, .ref b32, .ref b33, .ref b34, .ref b35])), (q_1, .inl (cZ, 0, .inl (fun _ => 0)))] := hD
  refine W.widen (k := 1) (n := 0) (by omega) (by omega) ?_
  refine lv_astore_n (lv' := [(1, .ref q_1), (0, .ref w)]) hx hb dX9_reserveAll_6 rfl hl (by decide) rfl (fun ls hl => ?_)
  refine lv_iconst (v := 0) hx hb dX9_reserveAll_7 (by decide) ?_
  refine lv_istore_n (lv' := [(2, .int 0), (1, .ref q_1), (0, .ref w)]) hx hb dX9_reserveAll_8 rfl hl (by decide) rfl (fun ls hl => ?_)
  refine lv_iload_n hx hb dX9_reserveAll_9 rfl (lv_at hl 0 rfl) ?_
  refine lv_aload_n hx hb dX9_reserveAll_10 rfl (lv_at hl 2 rfl) ?_
  refine va_get (D := D) (ci := 9) (v := .int 0) (C := RX9) (T := TX9) (N := 36) hx hb hts in9 hown hK hP 0 rfl rfl 18 (by decide) (hts (.fieldLink RX9 120 "GranaryModel$World" "orders" "I") (by decide +kernel)) (fun _ h9 => h9) rfl dX9_reserveAll_11 ?_
  refine lv_icmp_ge (tgt := 86) hx hb dX9_reserveAll_14 (by decide) (fun _ => ?_) (fun c9 => absurd (show (0 : Int32) ≤ (0 : Int32) from (by decide)) c9)
  refine W.widen (k := 1) (n := 0) (by omega) (by omega) ?_
  have hP9 := hP.sub (ws' := [(w, .inr (9, [.int wd, .int 0, .ref b2, .ref b3, .ref b4, .ref b5, .int 0, .ref b7, .ref b8, .ref b9, .ref b10, .ref b11, .ref b12, .int 0, .ref b14, .ref b15, .ref b16, .ref b17, .int 0, .ref b19, .ref b20, .ref b21, .ref b22, .ref b23, .ref b24, .ref b25, .ref b26, .ref b27, .int 0, .ref b29, .ref b30, .ref b31, .ref b32, .ref b33, .ref b34, .ref b35]))]) [0] rfl
  have hD9 := hD.sub (ws' := [(w, .inr (9, [.int wd, .int 0, .ref b2, .ref b3, .ref b4, .ref b5, .int 0, .ref b7, .ref b8, .ref b9, .ref b10, .ref b11, .ref b12, .int 0, .ref b14, .ref b15, .ref b16, .ref b17, .int 0, .ref b19, .ref b20, .ref b21, .ref b22, .ref b23, .ref b24, .ref b25, .ref b26, .ref b27, .int 0, .ref b29, .ref b30, .ref b31, .ref b32, .ref b33, .ref b34, .ref b35]))]) [0] (by decide) rfl
  exact W.vret hx hb hr (fun t ht hW => ⟨⟨(), rfl, trivial, by rw [ht]; exact hP9, hD9⟩, hS.F ht⟩) hS.2.2 dX9_reserveAll_86

set_option maxHeartbeats 4000000 in
set_option maxRecDepth 100000 in
/-- World.pass, with nothing there -/
theorem c_W_pass (l : Launch) (D : va_G) (cI cZ cJ : ClassId) (lo sz : Nat) (w : Nat) (wd : Int32) (b2 : Nat) (b3 : Nat) (b4 : Nat) (b5 : Nat) (b7 : Nat) (b8 : Nat) (b9 : Nat) (b10 : Nat) (b11 : Nat) (b12 : Nat) (b14 : Nat) (b15 : Nat) (b16 : Nat) (b17 : Nat) (b19 : Nat) (b20 : Nat) (b21 : Nat) (b22 : Nat) (b23 : Nat) (b24 : Nat) (b25 : Nat) (b26 : Nat) (b27 : Nat) (b29 : Nat) (b30 : Nat) (b31 : Nat) (b32 : Nat) (b33 : Nat) (b34 : Nat) (b35 : Nat) (fa : Nat → Int32) : Met l yX9_pass wsX9_pass ({ frames := 1, cells := 1, slots := 0, locals := 24 }) (Pre lo D cI cZ cJ [.ref w] sz [(w, .inr (9, [.int wd, .int 0, .ref b2, .ref b3, .ref b4, .ref b5, .int 0, .ref b7, .ref b8, .ref b9, .ref b10, .ref b11, .ref b12, .int 0, .ref b14, .ref b15, .ref b16, .ref b17, .int 0, .ref b19, .ref b20, .ref b21, .ref b22, .ref b23, .ref b24, .ref b25, .ref b26, .ref b27, .int 0, .ref b29, .ref b30, .ref b31, .ref b32, .ref b33, .ref b34, .ref b35])), (b35, .inl (cI, 5, .inl (fa)))]) (va_Qi (fun (r : Int32) (_ : Unit) => r = 0) (fun _ t => ∃ (fb : Nat → Int32), va_P D vwCl [(w, .inr (9, [.int (wd + 1), .int 0, .ref b2, .ref b3, .ref b4, .ref b5, .int 0, .ref b7, .ref b8, .ref b9, .ref b10, .ref b11, .ref b12, .int 0, .ref b14, .ref b15, .ref b16, .ref b17, .int 0, .ref b19, .ref b20, .ref b21, .ref b22, .ref b23, .ref b24, .ref b25, .ref b26, .ref b27, .int 0, .ref b29, .ref b30, .ref b31, .ref b32, .ref b33, .ref b34, .ref b35])), (b35, .inl (cI, 5, .inl (fb)))] t.heap ∧ va_D (va_A [(w, .inr (9, [.int wd, .int 0, .ref b2, .ref b3, .ref b4, .ref b5, .int 0, .ref b7, .ref b8, .ref b9, .ref b10, .ref b11, .ref b12, .int 0, .ref b14, .ref b15, .ref b16, .ref b17, .int 0, .ref b19, .ref b20, .ref b21, .ref b22, .ref b23, .ref b24, .ref b25, .ref b26, .ref b27, .int 0, .ref b29, .ref b30, .ref b31, .ref b32, .ref b33, .ref b34, .ref b35])), (b35, .inl (cI, 5, .inl (fa)))] sz) [(w, .inr (9, [.int (wd + 1), .int 0, .ref b2, .ref b3, .ref b4, .ref b5, .int 0, .ref b7, .ref b8, .ref b9, .ref b10, .ref b11, .ref b12, .int 0, .ref b14, .ref b15, .ref b16, .ref b17, .int 0, .ref b19, .ref b20, .ref b21, .ref b22, .ref b23, .ref b24, .ref b25, .ref b26, .ref b27, .int 0, .ref b29, .ref b30, .ref b31, .ref b32, .ref b33, .ref b34, .ref b35])), (b35, .inl (cI, 5, .inl (fb)))]) (va_A [(w, .inr (9, [.int wd, .int 0, .ref b2, .ref b3, .ref b4, .ref b5, .int 0, .ref b7, .ref b8, .ref b9, .ref b10, .ref b11, .ref b12, .int 0, .ref b14, .ref b15, .ref b16, .ref b17, .int 0, .ref b19, .ref b20, .ref b21, .ref b22, .ref b23, .ref b24, .ref b25, .ref b26, .ref b27, .int 0, .ref b29, .ref b30, .ref b31, .ref b32, .ref b33, .ref b34, .ref b35])), (b35, .inl (cI, 5, .inl (fa)))] sz)) 1 0 (va_A [(w, .inr (9, [.int wd, .int 0, .ref b2, .ref b3, .ref b4, .ref b5, .int 0, .ref b7, .ref b8, .ref b9, .ref b10, .ref b11, .ref b12, .int 0, .ref b14, .ref b15, .ref b16, .ref b17, .int 0, .ref b19, .ref b20, .ref b21, .ref b22, .ref b23, .ref b24, .ref b25, .ref b26, .ref b27, .int 0, .ref b29, .ref b30, .ref b31, .ref b32, .ref b33, .ref b34, .ref b35])), (b35, .inl (cI, 5, .inl (fa)))] sz) := by
  refine Met.ofW (cc := cX9_pass) (maxL := 4) (ret := (some .int)) (by decide) rfl ?_
  intro p e s m args below meth c s₁ B hml hv
  obtain ⟨rfl, hsz, hP, hD0, hC⟩ := hv
  have hx := B.exec
  have hb := B.bytes
  have hr := B.returns
  have hts := atoms_spec (ws := wsX9_pass) B.pre
  have hown : s.vm.findClass RX9 = some m.cls := findClass_of_methodNamed B.named
  have hlocks := B.notSynchronized
  subst hsz
  have hK := hC.K
  have hD := hD0.self (sz := s.heap.size)
  have hAlo0 := va_A_lo hD0 hC.1
  generalize hAe : va_A [(w, .inr (9, [.int wd, .int 0, .ref b2, .ref b3, .ref b4, .ref b5, .int 0, .ref b7, .ref b8, .ref b9, .ref b10, .ref b11, .ref b12, .int 0, .ref b14, .ref b15, .ref b16, .ref b17, .int 0, .ref b19, .ref b20, .ref b21, .ref b22, .ref b23, .ref b24, .ref b25, .ref b26, .ref b27, .int 0, .ref b29, .ref b30, .ref b31, .ref b32, .ref b33, .ref b34, .ref b35])), (b35, .inl (cI, 5, .inl (fa)))] s.heap.size = A at hD hAlo0 ⊢
  have hA : ∀ q : Nat, s.heap.size ≤ q → A q := fun q h => by rw [← hAe]; exact Or.inr h
  have hAlo : ∀ q, A q → lo ≤ q := hAlo0
  have hS : va_S A s.heap s.heap [] := va_S.rf
  have hP : va_P D vwCl [(w, .inr (9, [.int wd, .int 0, .ref b2, .ref b3, .ref b4, .ref b5, .int 0, .ref b7, .ref b8, .ref b9, .ref b10, .ref b11, .ref b12, .int 0, .ref b14, .ref b15, .ref b16, .ref b17, .int 0, .ref b19, .ref b20, .ref b21, .ref b22, .ref b23, .ref b24, .ref b25, .ref b26, .ref b27, .int 0, .ref b29, .ref b30, .ref b31, .ref b32, .ref b33, .ref b34, .ref b35])), (b35, .inl (cI, 5, .inl (fa)))] s.heap := hP
  have hl := lv_entry ([.ref w]) (n := 4) (Nat.le_of_ble_eq_true rfl)
  rw [lg_entry_eq]
  generalize (lg_sl ([.ref w]) ++ List.replicate (4 - (lg_sl ([.ref w])).length) Slot.unset).toArray = ls at hl ⊢
  have hl : lv_has ls 4 [(0, .ref w)] := hl
  have in9 : ∀ w ∈ u_ws RX9 TX9 36, w ∈ wsX9_pass := by decide +kernel
  refine lv_aload_n hx hb dX9_pass_0 rfl (lv_at hl 0 rfl) ?_
  refine lv_dup hx hb dX9_pass_1 rfl ?_
  refine va_get (D := D) (ci := 9) (v := .int wd) (C := RX9) (T := TX9) (N := 36) hx hb hts in9 hown hK hP 0 rfl rfl 0 (by decide) (hts (.fieldLink RX9 107 "GranaryModel$World" "day" "I") (by decide +kernel)) (fun _ h9 => h9) rfl dX9_pass_2 ?_
  refine lv_iconst (v := 1) hx hb dX9_pass_5 (by decide) ?_
  refine lv_iadd hx hb dX9_pass_6 ?_
  refine va_put (D := D) (ci := 9) (v := .int (wd + 1)) (ty := .int) (C := RX9) (T := TX9) (N := 36) hx hb hts in9 tyX9 tyX9_ok nmX9 hown hK hP hD hS 0 rfl rfl 0 (by decide) (hts (.fieldLink RX9 107 "GranaryModel$World" "day" "I") (by decide +kernel)) (fun _ h9 => h9) rfl (by decide +kernel) rfl rfl (Nat.le_of_ble_eq_true rfl) dX9_pass_7 (fun H locs hP hD hS => ?_)
  replace hP : va_P D vwCl [(w, .inr (9, [.int (wd + 1), .int 0, .ref b2, .ref b3, .ref b4, .ref b5, .int 0, .ref b7, .ref b8, .ref b9, .ref b10, .ref b11, .ref b12, .int 0, .ref b14, .ref b15, .ref b16, .ref b17, .int 0, .ref b19, .ref b20, .ref b21, .ref b22, .ref b23, .ref b24, .ref b25, .ref b26, .ref b27, .int 0, .ref b29, .ref b30, .ref b31, .ref b32, .ref b33, .ref b34, .ref b35])), (b35, .inl (cI, 5, .inl (fa)))] H := hP
  replace hD : va_D A [(w, .inr (9, [.int (wd + 1), .int 0, .ref b2, .ref b3, .ref b4, .ref b5, .int 0, .ref b7, .ref b8, .ref b9, .ref b10, .ref b11, .ref b12, .int 0, .ref b14, .ref b15, .ref b16, .ref b17, .int 0, .ref b19, .ref b20, .ref b21, .ref b22, .ref b23, .ref b24, .ref b25, .ref b26, .ref b27, .int 0, .ref b29, .ref b30, .ref b31, .ref b32, .ref b33, .ref b34, .ref b35])), (b35, .inl (cI, 5, .inl (fa)))] := hD
  refine lv_iconst (v := 0) hx hb dX9_pass_10 (by decide) ?_
  refine lv_istore_n (lv' := [(1, .int 0), (0, .ref w)]) hx hb dX9_pass_11 rfl hl (by decide) rfl (fun ls hl => ?_)
  refine lv_iload_n hx hb dX9_pass_12 rfl (lv_at hl 0 rfl) ?_
  refine lv_aload_n hx hb dX9_pass_13 rfl (lv_at hl 1 rfl) ?_
  refine va_get (D := D) (ci := 9) (v := .int 0) (C := RX9) (T := TX9) (N := 36) hx hb hts in9 hown hK hP 0 rfl rfl 13 (by decide) (hts (.fieldLink RX9 117 "GranaryModel$World" "lots" "I") (by decide +kernel)) (fun _ h9 => h9) rfl dX9_pass_14 ?_
  refine lv_icmp_ge (tgt := 114) hx hb dX9_pass_17 (by decide) (fun _ => ?_) (fun c9 => absurd (show (0 : Int32) ≤ (0 : Int32) from (by decide)) c9)
  refine lv_iconst (v := 0) hx hb dX9_pass_114 (by decide) ?_
  refine lv_istore_n (lv' := [(1, .int 0), (0, .ref w)]) hx hb dX9_pass_115 rfl hl (by decide) rfl (fun ls hl => ?_)
  refine lv_iload_n hx hb dX9_pass_116 rfl (lv_at hl 0 rfl) ?_
  refine lv_aload_n hx hb dX9_pass_117 rfl (lv_at hl 1 rfl) ?_
  refine va_get (D := D) (ci := 9) (v := .int 0) (C := RX9) (T := TX9) (N := 36) hx hb hts in9 hown hK hP 0 rfl rfl 28 (by decide) (hts (.fieldLink RX9 123 "GranaryModel$World" "transports" "I") (by decide +kernel)) (fun _ h9 => h9) rfl dX9_pass_118 ?_
  refine lv_icmp_ge (tgt := 266) hx hb dX9_pass_121 (by decide) (fun _ => ?_) (fun c9 => absurd (show (0 : Int32) ≤ (0 : Int32) from (by decide)) c9)
  refine lv_aload_n hx hb dX9_pass_266 rfl (lv_at hl 1 rfl) ?_
  have hPc := hP.sub (ws' := [(w, .inr (9, [.int (wd + 1), .int 0, .ref b2, .ref b3, .ref b4, .ref b5, .int 0, .ref b7, .ref b8, .ref b9, .ref b10, .ref b11, .ref b12, .int 0, .ref b14, .ref b15, .ref b16, .ref b17, .int 0, .ref b19, .ref b20, .ref b21, .ref b22, .ref b23, .ref b24, .ref b25, .ref b26, .ref b27, .int 0, .ref b29, .ref b30, .ref b31, .ref b32, .ref b33, .ref b34, .ref b35]))]) [0] rfl
  have hDc := hD.sub (ws' := [(w, .inr (9, [.int (wd + 1), .int 0, .ref b2, .ref b3, .ref b4, .ref b5, .int 0, .ref b7, .ref b8, .ref b9, .ref b10, .ref b11, .ref b12, .int 0, .ref b14, .ref b15, .ref b16, .ref b17, .int 0, .ref b19, .ref b20, .ref b21, .ref b22, .ref b23, .ref b24, .ref b25, .ref b26, .ref b27, .int 0, .ref b29, .ref b30, .ref b31, .ref b32, .ref b33, .ref b34, .ref b35]))]) [0] (by decide) rfl
  have hFc := va_free (wc := [(w, .inr (9, [.int (wd + 1), .int 0, .ref b2, .ref b3, .ref b4, .ref b5, .int 0, .ref b7, .ref b8, .ref b9, .ref b10, .ref b11, .ref b12, .int 0, .ref b14, .ref b15, .ref b16, .ref b17, .int 0, .ref b19, .ref b20, .ref b21, .ref b22, .ref b23, .ref b24, .ref b25, .ref b26, .ref b27, .int 0, .ref b29, .ref b30, .ref b31, .ref b32, .ref b33, .ref b34, .ref b35]))]) hD hS hA [0] rfl
  refine va_callv (va_runV (As := []) (rest := []) ⟨hx, hb, hml, hown, hts⟩ (c_W_reserveAll l D cI cZ cJ lo H.size w (wd + 1) b2 b3 b4 b5 b7 b8 b9 b10 b11 b12 b14 b15 b16 b17 b19 b20 b21 b22 b23 b24 b25 b26 b27 b29 b30 b31 b32 b33 b34 b35) (cwV 0 hts gX9_pass_X9_reserveAll rfl rfl rfl (by decide +kernel) ⟨(Nat.le_of_ble_eq_true rfl), (Nat.le_of_ble_eq_true rfl)⟩) ⟨Pre.blind, va_recv hK hP (ci := 9) (q0 := 0) rfl rfl, Pre.mk hPc (hDc.weaken (fun _ _ _ h => hAlo _ h)) hC hS hAlo⟩ rfl rfl hl.1 rfl (lv_room (Nat.le_of_ble_eq_true rfl)) dX9_pass_267 ⟨(Nat.le_of_ble_eq_true rfl), (Nat.le_of_ble_eq_true rfl)⟩) hS (fun q _ h => hFc q h) hFc (fun u t H1 locs1 ht hvm e_1 hB hz1 hk1 hS1 => ?_)
  have hS := hS1
  refine W.widen (k := 1) (n := 0) (by omega) (by omega) ?_
  obtain ⟨hP1, hD1⟩ := hB
  rw [ht] at hP1
  obtain ⟨hP, hD⟩ := va_join (wr := [(b35, .inl (cI, 5, .inl (fa)))]) (w1 := [(w, .inr (9, [.int (wd + 1), .int 0, .ref b2, .ref b3, .ref b4, .ref b5, .int 0, .ref b7, .ref b8, .ref b9, .ref b10, .ref b11, .ref b12, .int 0, .ref b14, .ref b15, .ref b16, .ref b17, .int 0, .ref b19, .ref b20, .ref b21, .ref b22, .ref b23, .ref b24, .ref b25, .ref b26, .ref b27, .int 0, .ref b29, .ref b30, .ref b31, .ref b32, .ref b33, .ref b34, .ref b35]))]) hP hD [0] [1] rfl rfl (by decide) (by decide) hk1 hFc hP1 hD1
  have e_1 : True := e_1
  clear hFc hPc hDc ht hvm hz1 hk1 hS1 hP1 hD1
  generalize H1 = H at hP hS ⊢
  replace hP : va_P D vwCl [(b35, .inl (cI, 5, .inl (fa))), (w, .inr (9, [.int (wd + 1), .int 0, .ref b2, .ref b3, .ref b4, .ref b5, .int 0, .ref b7, .ref b8, .ref b9, .ref b10, .ref b11, .ref b12, .int 0, .ref b14, .ref b15, .ref b16, .ref b17, .int 0, .ref b19, .ref b20, .ref b21, .ref b22, .ref b23, .ref b24, .ref b25, .ref b26, .ref b27, .int 0, .ref b29, .ref b30, .ref b31, .ref b32, .ref b33, .ref b34, .ref b35]))] H := hP
  replace hD : va_D A [(b35, .inl (cI, 5, .inl (fa))), (w, .inr (9, [.int (wd + 1), .int 0, .ref b2, .ref b3, .ref b4, .ref b5, .int 0, .ref b7, .ref b8, .ref b9, .ref b10, .ref b11, .ref b12, .int 0, .ref b14, .ref b15, .ref b16, .ref b17, .int 0, .ref b19, .ref b20, .ref b21, .ref b22, .ref b23, .ref b24, .ref b25, .ref b26, .ref b27, .int 0, .ref b29, .ref b30, .ref b31, .ref b32, .ref b33, .ref b34, .ref b35]))] := hD
  refine lv_iconst (v := 0) hx hb dX9_pass_270 (by decide) ?_
  refine lv_istore_n (lv' := [(1, .int 0), (0, .ref w)]) hx hb dX9_pass_271 rfl hl (by decide) rfl (fun ls hl => ?_)
  refine lv_iconst (v := 0) hx hb dX9_pass_272 (by decide) ?_
  refine lv_istore_n (lv' := [(2, .int 0), (1, .int 0), (0, .ref w)]) hx hb dX9_pass_273 rfl hl (by decide) rfl (fun ls hl => ?_)
  refine lv_iload_n hx hb dX9_pass_274 rfl (lv_at hl 0 rfl) ?_
  refine lv_aload_n hx hb dX9_pass_275 rfl (lv_at hl 2 rfl) ?_
  refine va_get (D := D) (ci := 9) (v := .int 0) (C := RX9) (T := TX9) (N := 36) hx hb hts in9 hown hK hP 1 rfl rfl 18 (by decide) (hts (.fieldLink RX9 120 "GranaryModel$World" "orders" "I") (by decide +kernel)) (fun _ h9 => h9) rfl dX9_pass_276 ?_
  refine lv_icmp_ge (tgt := 348) hx hb dX9_pass_279 (by decide) (fun _ => ?_) (fun c9 => absurd (show (0 : Int32) ≤ (0 : Int32) from (by decide)) c9)
  refine lv_aload_n hx hb dX9_pass_348 rfl (lv_at hl 2 rfl) ?_
  refine va_get (D := D) (ci := 9) (v := .ref b35) (C := RX9) (T := TX9) (N := 36) hx hb hts in9 hown hK hP 1 rfl rfl 35 (by decide) (hts (.fieldLink RX9 103 "GranaryModel$World" "account" "[I") (by decide +kernel)) (fun _ h9 => h9) rfl dX9_pass_349 ?_
  refine lv_iconst (v := 2) hx hb dX9_pass_352 (by decide) ?_
  refine lv_dup2_11 hx hb dX9_pass_353 rfl rfl ?_
  refine va_iald hx hb hK hP 0 0 rfl rfl (by unfold vp_in; decide) dX9_pass_354 ?_
  refine lv_iload_n hx hb dX9_pass_355 rfl (lv_at hl 1 rfl) ?_
  refine lv_iadd hx hb dX9_pass_356 ?_
  refine va_iast hx hb hK hP hD hS 0 0 rfl rfl (by unfold vp_in; decide) dX9_pass_357 (fun H locs hP hD hS => ?_)
  replace hP : va_P D vwCl [(b35, .inl (cI, 5, .inl (upd (fa) (Int32.toNatClampNeg 2) ((fa (Int32.toNatClampNeg 2)) + 0)))), (w, .inr (9, [.int (wd + 1), .int 0, .ref b2, .ref b3, .ref b4, .ref b5, .int 0, .ref b7, .ref b8, .ref b9, .ref b10, .ref b11, .ref b12, .int 0, .ref b14, .ref b15, .ref b16, .ref b17, .int 0, .ref b19, .ref b20, .ref b21, .ref b22, .ref b23, .ref b24, .ref b25, .ref b26, .ref b27, .int 0, .ref b29, .ref b30, .ref b31, .ref b32, .ref b33, .ref b34, .ref b35]))] H := hP
  replace hD : va_D A [(b35, .inl (cI, 5, .inl (upd (fa) (Int32.toNatClampNeg 2) ((fa (Int32.toNatClampNeg 2)) + 0)))), (w, .inr (9, [.int (wd + 1), .int 0, .ref b2, .ref b3, .ref b4, .ref b5, .int 0, .ref b7, .ref b8, .ref b9, .ref b10, .ref b11, .ref b12, .int 0, .ref b14, .ref b15, .ref b16, .ref b17, .int 0, .ref b19, .ref b20, .ref b21, .ref b22, .ref b23, .ref b24, .ref b25, .ref b26, .ref b27, .int 0, .ref b29, .ref b30, .ref b31, .ref b32, .ref b33, .ref b34, .ref b35]))] := hD
  refine lv_iconst (v := 0) hx hb dX9_pass_358 (by decide) ?_
  refine lv_istore_n (lv' := [(2, .int 0), (1, .int 0), (0, .ref w)]) hx hb dX9_pass_359 rfl hl (by decide) rfl (fun ls hl => ?_)
  refine lv_iload_n hx hb dX9_pass_360 rfl (lv_at hl 0 rfl) ?_
  refine lv_aload_n hx hb dX9_pass_361 rfl (lv_at hl 2 rfl) ?_
  refine va_get (D := D) (ci := 9) (v := .int 0) (C := RX9) (T := TX9) (N := 36) hx hb hts in9 hown hK hP 1 rfl rfl 1 (by decide) (hts (.fieldLink RX9 111 "GranaryModel$World" "items" "I") (by decide +kernel)) (fun _ h9 => h9) rfl dX9_pass_362 ?_
  refine lv_icmp_ge (tgt := 396) hx hb dX9_pass_365 (by decide) (fun _ => ?_) (fun c9 => absurd (show (0 : Int32) ≤ (0 : Int32) from (by decide)) c9)
  refine lv_iconst (v := 0) hx hb dX9_pass_396 (by decide) ?_
  refine lv_istore_n (lv' := [(2, .int 0), (1, .int 0), (0, .ref w)]) hx hb dX9_pass_397 rfl hl (by decide) rfl (fun ls hl => ?_)
  refine lv_iload_n hx hb dX9_pass_398 rfl (lv_at hl 0 rfl) ?_
  refine lv_aload_n hx hb dX9_pass_399 rfl (lv_at hl 2 rfl) ?_
  refine va_get (D := D) (ci := 9) (v := .int 0) (C := RX9) (T := TX9) (N := 36) hx hb hts in9 hown hK hP 1 rfl rfl 13 (by decide) (hts (.fieldLink RX9 117 "GranaryModel$World" "lots" "I") (by decide +kernel)) (fun _ h9 => h9) rfl dX9_pass_400 ?_
  refine lv_icmp_ge (tgt := 439) hx hb dX9_pass_403 (by decide) (fun _ => ?_) (fun c9 => absurd (show (0 : Int32) ≤ (0 : Int32) from (by decide)) c9)
  refine lv_iload_n hx hb dX9_pass_439 rfl (lv_at hl 1 rfl) ?_
  refine W.widen (k := 1) (n := 0) (by omega) (by omega) ?_
  have hP9 := hP.sub (ws' := [(w, .inr (9, [.int (wd + 1), .int 0, .ref b2, .ref b3, .ref b4, .ref b5, .int 0, .ref b7, .ref b8, .ref b9, .ref b10, .ref b11, .ref b12, .int 0, .ref b14, .ref b15, .ref b16, .ref b17, .int 0, .ref b19, .ref b20, .ref b21, .ref b22, .ref b23, .ref b24, .ref b25, .ref b26, .ref b27, .int 0, .ref b29, .ref b30, .ref b31, .ref b32, .ref b33, .ref b34, .ref b35])), (b35, .inl (cI, 5, .inl (upd (fa) (Int32.toNatClampNeg 2) ((fa (Int32.toNatClampNeg 2)) + 0))))]) [1, 0] rfl
  have hD9 := hD.sub (ws' := [(w, .inr (9, [.int (wd + 1), .int 0, .ref b2, .ref b3, .ref b4, .ref b5, .int 0, .ref b7, .ref b8, .ref b9, .ref b10, .ref b11, .ref b12, .int 0, .ref b14, .ref b15, .ref b16, .ref b17, .int 0, .ref b19, .ref b20, .ref b21, .ref b22, .ref b23, .ref b24, .ref b25, .ref b26, .ref b27, .int 0, .ref b29, .ref b30, .ref b31, .ref b32, .ref b33, .ref b34, .ref b35])), (b35, .inl (cI, 5, .inl (upd (fa) (Int32.toNatClampNeg 2) ((fa (Int32.toNatClampNeg 2)) + 0))))]) [1, 0] (by decide) rfl
  exact W.iret (v := 0) hx hb hr (fun t ht hW => ⟨⟨0, (), rfl, rfl, (upd (fa) (Int32.toNatClampNeg 2) ((fa (Int32.toNatClampNeg 2)) + 0)), by rw [ht]; exact hP9, hD9⟩, hS.F ht⟩) hS.2.2 dX9_pass_440

set_option maxHeartbeats 4000000 in
set_option maxRecDepth 100000 in
/-- the reference's pass on a fresh object -/
theorem m_pass (l : Launch) (D : va_G) (cI cZ cJ : ClassId) (lo sz : Nat) (mm : Nat) (tt : Int32) (w : Nat) (b2 : Nat) (b3 : Nat) (b4 : Nat) (b5 : Nat) (b7 : Nat) (b8 : Nat) (b9 : Nat) (b10 : Nat) (b11 : Nat) (b12 : Nat) (b14 : Nat) (b15 : Nat) (b16 : Nat) (b17 : Nat) (b19 : Nat) (b20 : Nat) (b21 : Nat) (b22 : Nat) (b23 : Nat) (b24 : Nat) (b25 : Nat) (b26 : Nat) (b27 : Nat) (b29 : Nat) (b30 : Nat) (b31 : Nat) (b32 : Nat) (b33 : Nat) (b34 : Nat) (b35 : Nat) (p0 : Int32) : Met l yX10_pass wsX10_pass ({ frames := 2, cells := 30, slots := 0, locals := 47 }) (Pre lo D cI cZ cJ [.ref mm, .int p0] sz [(mm, .inr (10, [.ref w, .int tt])), (w, .inr (9, [.int 0, .int 0, .ref b2, .ref b3, .ref b4, .ref b5, .int 0, .ref b7, .ref b8, .ref b9, .ref b10, .ref b11, .ref b12, .int 0, .ref b14, .ref b15, .ref b16, .ref b17, .int 0, .ref b19, .ref b20, .ref b21, .ref b22, .ref b23, .ref b24, .ref b25, .ref b26, .ref b27, .int 0, .ref b29, .ref b30, .ref b31, .ref b32, .ref b33, .ref b34, .ref b35])), (b35, .inl (cI, 5, .inl (fun _ => 0)))]) (va_Qi (fun (r : Int32) (_ : Unit) => ((1 ≤ p0 ∧ p0 ≤ 30) → r = p0)) (fun _ t => ∃ (tz : Int32), va_P D vwCl [(mm, .inr (10, [.ref w, .int tz]))] t.heap ∧ va_D (va_A [(mm, .inr (10, [.ref w, .int tt])), (w, .inr (9, [.int 0, .int 0, .ref b2, .ref b3, .ref b4, .ref b5, .int 0, .ref b7, .ref b8, .ref b9, .ref b10, .ref b11, .ref b12, .int 0, .ref b14, .ref b15, .ref b16, .ref b17, .int 0, .ref b19, .ref b20, .ref b21, .ref b22, .ref b23, .ref b24, .ref b25, .ref b26, .ref b27, .int 0, .ref b29, .ref b30, .ref b31, .ref b32, .ref b33, .ref b34, .ref b35])), (b35, .inl (cI, 5, .inl (fun _ => 0)))] sz) [(mm, .inr (10, [.ref w, .int tz]))] ∧ ((1 ≤ p0 ∧ p0 ≤ 30) → tz = 0) ∧ (¬ (1 ≤ p0 ∧ p0 ≤ 30) → tz = 1)) (va_A [(mm, .inr (10, [.ref w, .int tt])), (w, .inr (9, [.int 0, .int 0, .ref b2, .ref b3, .ref b4, .ref b5, .int 0, .ref b7, .ref b8, .ref b9, .ref b10, .ref b11, .ref b12, .int 0, .ref b14, .ref b15, .ref b16, .ref b17, .int 0, .ref b19, .ref b20, .ref b21, .ref b22, .ref b23, .ref b24, .ref b25, .ref b26, .ref b27, .int 0, .ref b29, .ref b30, .ref b31, .ref b32, .ref b33, .ref b34, .ref b35])), (b35, .inl (cI, 5, .inl (fun _ => 0)))] sz)) 30 0 (va_A [(mm, .inr (10, [.ref w, .int tt])), (w, .inr (9, [.int 0, .int 0, .ref b2, .ref b3, .ref b4, .ref b5, .int 0, .ref b7, .ref b8, .ref b9, .ref b10, .ref b11, .ref b12, .int 0, .ref b14, .ref b15, .ref b16, .ref b17, .int 0, .ref b19, .ref b20, .ref b21, .ref b22, .ref b23, .ref b24, .ref b25, .ref b26, .ref b27, .int 0, .ref b29, .ref b30, .ref b31, .ref b32, .ref b33, .ref b34, .ref b35])), (b35, .inl (cI, 5, .inl (fun _ => 0)))] sz) := by
  refine Met.ofW (cc := cX10_pass) (maxL := 3) (ret := (some .int)) (by decide) rfl ?_
  intro p e s m args below meth c s₁ B hml hv
  obtain ⟨rfl, hsz, hP, hD0, hC⟩ := hv
  have hx := B.exec
  have hb := B.bytes
  have hr := B.returns
  have hts := atoms_spec (ws := wsX10_pass) B.pre
  have hown : s.vm.findClass RX10 = some m.cls := findClass_of_methodNamed B.named
  have hlocks := B.notSynchronized
  subst hsz
  have hK := hC.K
  have hD := hD0.self (sz := s.heap.size)
  have hAlo0 := va_A_lo hD0 hC.1
  generalize hAe : va_A [(mm, .inr (10, [.ref w, .int tt])), (w, .inr (9, [.int 0, .int 0, .ref b2, .ref b3, .ref b4, .ref b5, .int 0, .ref b7, .ref b8, .ref b9, .ref b10, .ref b11, .ref b12, .int 0, .ref b14, .ref b15, .ref b16, .ref b17, .int 0, .ref b19, .ref b20, .ref b21, .ref b22, .ref b23, .ref b24, .ref b25, .ref b26, .ref b27, .int 0, .ref b29, .ref b30, .ref b31, .ref b32, .ref b33, .ref b34, .ref b35])), (b35, .inl (cI, 5, .inl (fun _ => 0)))] s.heap.size = A at hD hAlo0 ⊢
  have hA : ∀ q : Nat, s.heap.size ≤ q → A q := fun q h => by rw [← hAe]; exact Or.inr h
  have hAlo : ∀ q, A q → lo ≤ q := hAlo0
  have hS : va_S A s.heap s.heap [] := va_S.rf
  have hP : va_P D vwCl [(mm, .inr (10, [.ref w, .int tt])), (w, .inr (9, [.int 0, .int 0, .ref b2, .ref b3, .ref b4, .ref b5, .int 0, .ref b7, .ref b8, .ref b9, .ref b10, .ref b11, .ref b12, .int 0, .ref b14, .ref b15, .ref b16, .ref b17, .int 0, .ref b19, .ref b20, .ref b21, .ref b22, .ref b23, .ref b24, .ref b25, .ref b26, .ref b27, .int 0, .ref b29, .ref b30, .ref b31, .ref b32, .ref b33, .ref b34, .ref b35])), (b35, .inl (cI, 5, .inl (fun _ => 0)))] s.heap := hP
  have hl := lv_entry ([.ref mm, .int p0]) (n := 3) (Nat.le_of_ble_eq_true rfl)
  rw [lg_entry_eq]
  generalize (lg_sl ([.ref mm, .int p0]) ++ List.replicate (3 - (lg_sl ([.ref mm, .int p0])).length) Slot.unset).toArray = ls at hl ⊢
  have hl : lv_has ls 3 [(0, .ref mm), (1, .int p0)] := hl
  have in9 : ∀ w ∈ u_ws RX9 TX9 36, w ∈ wsX10_pass := by decide +kernel
  have in10 : ∀ w ∈ u_ws RX10 TX10 2, w ∈ wsX10_pass := by decide +kernel
  refine lv_aload_n hx hb dX10_pass_0 rfl (lv_at hl 0 rfl) ?_
  refine lv_iconst (v := 0) hx hb dX10_pass_1 (by decide) ?_
  refine va_put (D := D) (ci := 10) (v := .int 0) (ty := .int) (C := RX10) (T := TX10) (N := 2) hx hb hts in10 tyX10 tyX10_ok nmX10 hown hK hP hD hS 0 rfl rfl 1 (by decide) (hts (.fieldLink RX10 22 "GranaryModel" "thrown" "I") (by decide +kernel)) (fun _ h9 => h9) rfl (by decide +kernel) rfl rfl (Nat.le_of_ble_eq_true rfl) dX10_pass_2 (fun H locs hP hD hS => ?_)
  replace hP : va_P D vwCl [(mm, .inr (10, [.ref w, .int 0])), (w, .inr (9, [.int 0, .int 0, .ref b2, .ref b3, .ref b4, .ref b5, .int 0, .ref b7, .ref b8, .ref b9, .ref b10, .ref b11, .ref b12, .int 0, .ref b14, .ref b15, .ref b16, .ref b17, .int 0, .ref b19, .ref b20, .ref b21, .ref b22, .ref b23, .ref b24, .ref b25, .ref b26, .ref b27, .int 0, .ref b29, .ref b30, .ref b31, .ref b32, .ref b33, .ref b34, .ref b35])), (b35, .inl (cI, 5, .inl (fun _ => 0)))] H := hP
  replace hD : va_D A [(mm, .inr (10, [.ref w, .int 0])), (w, .inr (9, [.int 0, .int 0, .ref b2, .ref b3, .ref b4, .ref b5, .int 0, .ref b7, .ref b8, .ref b9, .ref b10, .ref b11, .ref b12, .int 0, .ref b14, .ref b15, .ref b16, .ref b17, .int 0, .ref b19, .ref b20, .ref b21, .ref b22, .ref b23, .ref b24, .ref b25, .ref b26, .ref b27, .int 0, .ref b29, .ref b30, .ref b31, .ref b32, .ref b33, .ref b34, .ref b35])), (b35, .inl (cI, 5, .inl (fun _ => 0)))] := hD
  refine lv_iload_n hx hb dX10_pass_5 rfl (lv_at hl 1 rfl) ?_
  refine lv_iconst (v := 1) hx hb dX10_pass_6 (by decide) ?_
  refine lv_bipush (v := 30) hx hb dX10_pass_7 (by decide) ?_
  have hPc := hP.sub (ws' := []) [] rfl
  have hDc := hD.sub (ws' := []) [] (by decide) rfl
  refine vp_callSi (W.runS (As := [.int p0, .int 1, .int 30]) (rest := []) ⟨hx, hb, hml, hown, hts⟩ (c_isIn l D cI cZ cJ lo H.size p0 1 30) (va_cwS 3 hts gX10_pass_X10_isIn rfl rfl rfl (by decide +kernel) ⟨(Nat.le_of_ble_eq_true rfl), (Nat.le_of_ble_eq_true rfl)⟩) ⟨Pre.blind, Pre.mk hPc (hDc.weaken (fun _ _ _ h => hAlo _ h)) hC hS hAlo⟩ rfl rfl hl.1 rfl (lv_room (Nat.le_of_ble_eq_true rfl)) dX10_pass_9 ⟨(Nat.le_of_ble_eq_true rfl), (Nat.le_of_ble_eq_true rfl)⟩) (fun r_1 e_2 => ?_)
  clear hPc hDc
  rcases e_2 with ⟨rfl, h_3⟩ | ⟨rfl, h_4⟩
  · refine lv_if_ne (tgt := 21) hx hb dX10_pass_12 (by decide) (fun _ => ?_) (fun c9 => absurd c9 (show ¬ (1 : Int32) = (0 : Int32) from (by decide)))
    obtain ⟨dn, hdn, hdx⟩ := in30 h_3
    subst hdx
    refine lv_iconst (v := 0) hx hb dX10_pass_21 (by decide) ?_
    refine lv_istore_n (lv' := [(2, .int 0), (0, .ref mm), (1, .int (nI dn))]) hx hb dX10_pass_22 rfl hl (by decide) rfl (fun ls hl => ?_)
    obtain ⟨f_5, hf9⟩ : ∃ z : Nat → Int32, z = fun _ => 0 := ⟨_, rfl⟩
    rw [← hf9] at hP hD
    clear hf9
    replace hP : va_P D vwCl [(mm, .inr (10, [.ref w, .int 0])), (w, .inr (9, [.int 0, .int 0, .ref b2, .ref b3, .ref b4, .ref b5, .int 0, .ref b7, .ref b8, .ref b9, .ref b10, .ref b11, .ref b12, .int 0, .ref b14, .ref b15, .ref b16, .ref b17, .int 0, .ref b19, .ref b20, .ref b21, .ref b22, .ref b23, .ref b24, .ref b25, .ref b26, .ref b27, .int 0, .ref b29, .ref b30, .ref b31, .ref b32, .ref b33, .ref b34, .ref b35])), (b35, .inl (cI, 5, .inl (f_5)))] H := hP
    replace hD : va_D A [(mm, .inr (10, [.ref w, .int 0])), (w, .inr (9, [.int 0, .int 0, .ref b2, .ref b3, .ref b4, .ref b5, .int 0, .ref b7, .ref b8, .ref b9, .ref b10, .ref b11, .ref b12, .int 0, .ref b14, .ref b15, .ref b16, .ref b17, .int 0, .ref b19, .ref b20, .ref b21, .ref b22, .ref b23, .ref b24, .ref b25, .ref b26, .ref b27, .int 0, .ref b29, .ref b30, .ref b31, .ref b32, .ref b33, .ref b34, .ref b35])), (b35, .inl (cI, 5, .inl (f_5)))] := hD
    obtain ⟨k9, hk0⟩ : ∃ k : Int32, k = 0 := ⟨_, rfl⟩
    obtain ⟨x9, hx0⟩ : ∃ x : Int32, x = 0 := ⟨_, rfl⟩
    obtain ⟨c9, hc0⟩ : ∃ c : Nat, c = 0 := ⟨_, rfl⟩
    replace hP : va_P D vwCl [(mm, .inr (10, [.ref w, .int 0])), (w, .inr (9, [.int x9, .int 0, .ref b2, .ref b3, .ref b4, .ref b5, .int 0, .ref b7, .ref b8, .ref b9, .ref b10, .ref b11, .ref b12, .int 0, .ref b14, .ref b15, .ref b16, .ref b17, .int 0, .ref b19, .ref b20, .ref b21, .ref b22, .ref b23, .ref b24, .ref b25, .ref b26, .ref b27, .int 0, .ref b29, .ref b30, .ref b31, .ref b32, .ref b33, .ref b34, .ref b35])), (b35, .inl (cI, 5, .inl (f_5)))] H := by rw [hx0]; exact hP
    replace hD : va_D A [(mm, .inr (10, [.ref w, .int 0])), (w, .inr (9, [.int x9, .int 0, .ref b2, .ref b3, .ref b4, .ref b5, .int 0, .ref b7, .ref b8, .ref b9, .ref b10, .ref b11, .ref b12, .int 0, .ref b14, .ref b15, .ref b16, .ref b17, .int 0, .ref b19, .ref b20, .ref b21, .ref b22, .ref b23, .ref b24, .ref b25, .ref b26, .ref b27, .int 0, .ref b29, .ref b30, .ref b31, .ref b32, .ref b33, .ref b34, .ref b35])), (b35, .inl (cI, 5, .inl (f_5)))] := by rw [hx0]; exact hD
    replace hl : lv_has ls 3 [(2, .int k9), (0, .ref mm), (1, .int (nI dn))] := by rw [hk0]; exact hl
    refine W.cs (cells' := c9) (slots' := 0) hc0.symm rfl ?_
    obtain ⟨j9, hj9, hk9, hx9, hc9⟩ : ∃ j : Nat, j ≤ dn ∧ k9 = nI j ∧ x9 = nI j ∧ c9 = 0 + j := ⟨0, Nat.zero_le _, hk0, hx0, hc0⟩
    clear hk0 hx0 hc0
    obtain ⟨n9, hn9⟩ : ∃ n : Nat, dn < j9 + n := ⟨dn + 1, by omega⟩
    revert hl
    revert hS
    revert hD
    revert hP
    revert hn9
    revert hc9
    revert hx9
    revert hk9
    revert hj9
    revert ls
    revert locs
    revert H
    revert f_5
    revert c9
    revert x9
    revert k9
    revert j9
    induction n9 with
    | zero =>
      intro j9 k9 x9 c9 f_5 H locs ls hj9 hk9 hx9 hc9 hn9
      exact absurd hn9 (by omega)
    | succ n9 ih =>
      intro j9 k9 x9 c9 f_5 H locs ls hj9 hk9 hx9 hc9 hn9 hP hD hS hl
      refine lv_iload_n hx hb dX10_pass_23 rfl (lv_at hl 0 rfl) ?_
      refine lv_iload_n hx hb dX10_pass_24 rfl (lv_at hl 2 rfl) ?_
      refine lv_icmp_ge (tgt := 42) hx hb dX10_pass_25 (by decide) (fun c_6 => ?_) (fun c_6 => ?_)
      · have hjd : j9 = dn := Nat.le_antisymm hj9 (Nat.not_lt.mp (fun h9 => absurd c_6 (by rw [hk9]; exact nI_ge h9 (by omega))))
        refine lv_aload_n hx hb dX10_pass_42 rfl (lv_at hl 1 rfl) ?_
        refine va_get (D := D) (ci := 10) (v := .ref w) (C := RX10) (T := TX10) (N := 2) hx hb hts in10 hown hK hP 0 rfl rfl 0 (by decide) (hts (.fieldLink RX10 16 "GranaryModel" "w" "LGranaryModel$World;") (by decide +kernel)) (fun _ h9 => h9) rfl dX10_pass_43 ?_
        refine va_get (D := D) (ci := 9) (v := .int x9) (C := RX9) (T := TX9) (N := 36) hx hb hts in9 hown hK hP 1 rfl rfl 0 (by decide) (hts (.fieldLink RX10 91 "GranaryModel$World" "day" "I") (by decide +kernel)) (fun _ h9 => h9) rfl dX10_pass_46 ?_
        refine W.widen (k := 30) (n := 0) (by omega) (by omega) ?_
        have hP9 := hP.sub (ws' := [(mm, .inr (10, [.ref w, .int 0]))]) [0] rfl
        have hD9 := hD.sub (ws' := [(mm, .inr (10, [.ref w, .int 0]))]) [0] (by decide) rfl
        exact W.iret (v := x9) hx hb hr (fun t ht hW => ⟨⟨x9, (), rfl, (fun _ => by rw [hx9, hjd]), 0, by rw [ht]; exact hP9, hD9, ⟨fun _ => rfl, fun h9 => absurd h_3 h9⟩⟩, hS.F ht⟩) hS.2.2 dX10_pass_49
      · have hjl : j9 < dn := by rcases Nat.lt_or_ge j9 dn with q | q; exact q; exact absurd (by rw [hk9]; exact nI_le q (by omega)) c_6
        refine lv_aload_n hx hb dX10_pass_28 rfl (lv_at hl 1 rfl) ?_
        refine va_get (D := D) (ci := 10) (v := .ref w) (C := RX10) (T := TX10) (N := 2) hx hb hts in10 hown hK hP 0 rfl rfl 0 (by decide) (hts (.fieldLink RX10 16 "GranaryModel" "w" "LGranaryModel$World;") (by decide +kernel)) (fun _ h9 => h9) rfl dX10_pass_29 ?_
        have hPc := hP.sub (ws' := [(w, .inr (9, [.int x9, .int 0, .ref b2, .ref b3, .ref b4, .ref b5, .int 0, .ref b7, .ref b8, .ref b9, .ref b10, .ref b11, .ref b12, .int 0, .ref b14, .ref b15, .ref b16, .ref b17, .int 0, .ref b19, .ref b20, .ref b21, .ref b22, .ref b23, .ref b24, .ref b25, .ref b26, .ref b27, .int 0, .ref b29, .ref b30, .ref b31, .ref b32, .ref b33, .ref b34, .ref b35])), (b35, .inl (cI, 5, .inl (f_5)))]) [1, 2] rfl
        have hDc := hD.sub (ws' := [(w, .inr (9, [.int x9, .int 0, .ref b2, .ref b3, .ref b4, .ref b5, .int 0, .ref b7, .ref b8, .ref b9, .ref b10, .ref b11, .ref b12, .int 0, .ref b14, .ref b15, .ref b16, .ref b17, .int 0, .ref b19, .ref b20, .ref b21, .ref b22, .ref b23, .ref b24, .ref b25, .ref b26, .ref b27, .int 0, .ref b29, .ref b30, .ref b31, .ref b32, .ref b33, .ref b34, .ref b35])), (b35, .inl (cI, 5, .inl (f_5)))]) [1, 2] (by decide) rfl
        have hFc := va_free (wc := [(w, .inr (9, [.int x9, .int 0, .ref b2, .ref b3, .ref b4, .ref b5, .int 0, .ref b7, .ref b8, .ref b9, .ref b10, .ref b11, .ref b12, .int 0, .ref b14, .ref b15, .ref b16, .ref b17, .int 0, .ref b19, .ref b20, .ref b21, .ref b22, .ref b23, .ref b24, .ref b25, .ref b26, .ref b27, .int 0, .ref b29, .ref b30, .ref b31, .ref b32, .ref b33, .ref b34, .ref b35])), (b35, .inl (cI, 5, .inl (f_5)))]) hD hS hA [1, 2] rfl
        refine va_calli (va_runV (As := []) (rest := []) ⟨hx, hb, hml, hown, hts⟩ (c_W_pass l D cI cZ cJ lo H.size w x9 b2 b3 b4 b5 b7 b8 b9 b10 b11 b12 b14 b15 b16 b17 b19 b20 b21 b22 b23 b24 b25 b26 b27 b29 b30 b31 b32 b33 b34 b35 f_5) (cwV 0 hts gX10_pass_X9_pass rfl rfl rfl (by decide +kernel) ⟨(Nat.le_of_ble_eq_true rfl), (Nat.le_of_ble_eq_true rfl)⟩) ⟨Pre.blind, va_recv hK hP (ci := 9) (q0 := 1) rfl rfl, Pre.mk hPc (hDc.weaken (fun _ _ _ h => hAlo _ h)) hC hS hAlo⟩ rfl rfl hl.1 rfl (lv_room (Nat.le_of_ble_eq_true rfl)) dX10_pass_32 ⟨(Nat.le_trans (show c9 + 1 ≤ 30 by omega) (Nat.le_of_ble_eq_true rfl)), (Nat.le_of_ble_eq_true rfl)⟩) hS (fun q _ h => hFc q h) hFc (fun r_7 u t H1 locs1 ht hvm e_8 hB hz1 hk1 hS1 => ?_)
        have hS := hS1
        refine W.widen (k := (c9 + 1)) (n := 0) (by omega) (by omega) ?_
        obtain ⟨fb_9, hP1, hD1⟩ := hB
        rw [ht] at hP1
        obtain ⟨hP, hD⟩ := va_join (wr := [(mm, .inr (10, [.ref w, .int 0]))]) (w1 := [(w, .inr (9, [.int (x9 + 1), .int 0, .ref b2, .ref b3, .ref b4, .ref b5, .int 0, .ref b7, .ref b8, .ref b9, .ref b10, .ref b11, .ref b12, .int 0, .ref b14, .ref b15, .ref b16, .ref b17, .int 0, .ref b19, .ref b20, .ref b21, .ref b22, .ref b23, .ref b24, .ref b25, .ref b26, .ref b27, .int 0, .ref b29, .ref b30, .ref b31, .ref b32, .ref b33, .ref b34, .ref b35])), (b35, .inl (cI, 5, .inl (fb_9)))]) hP hD [1, 2] [0] rfl rfl (by decide) (by decide) hk1 hFc hP1 hD1
        have e_8 : 0 = r_7 := Eq.symm e_8
        subst e_8
        clear hFc hPc hDc ht hvm hz1 hk1 hS1 hP1 hD1
        generalize H1 = H at hP hS ⊢
        replace hP : va_P D vwCl [(mm, .inr (10, [.ref w, .int 0])), (w, .inr (9, [.int (x9 + 1), .int 0, .ref b2, .ref b3, .ref b4, .ref b5, .int 0, .ref b7, .ref b8, .ref b9, .ref b10, .ref b11, .ref b12, .int 0, .ref b14, .ref b15, .ref b16, .ref b17, .int 0, .ref b19, .ref b20, .ref b21, .ref b22, .ref b23, .ref b24, .ref b25, .ref b26, .ref b27, .int 0, .ref b29, .ref b30, .ref b31, .ref b32, .ref b33, .ref b34, .ref b35])), (b35, .inl (cI, 5, .inl (fb_9)))] H := hP
        replace hD : va_D A [(mm, .inr (10, [.ref w, .int 0])), (w, .inr (9, [.int (x9 + 1), .int 0, .ref b2, .ref b3, .ref b4, .ref b5, .int 0, .ref b7, .ref b8, .ref b9, .ref b10, .ref b11, .ref b12, .int 0, .ref b14, .ref b15, .ref b16, .ref b17, .int 0, .ref b19, .ref b20, .ref b21, .ref b22, .ref b23, .ref b24, .ref b25, .ref b26, .ref b27, .int 0, .ref b29, .ref b30, .ref b31, .ref b32, .ref b33, .ref b34, .ref b35])), (b35, .inl (cI, 5, .inl (fb_9)))] := hD
        refine lv_pop hx hb dX10_pass_35 rfl ?_
        refine lv_iinc (v := k9 + 1) (lv' := [(2, .int (k9 + 1)), (0, .ref mm), (1, .int (nI dn))]) hx hb dX10_pass_36 hl (k := 0) rfl rfl (by decide) rfl (fun ls hl => ?_)
        refine lv_goto (tgt := 23) hx hb dX10_pass_39 (by decide) ?_
        exact ih (j9 + 1) (k9 + 1) (x9 + 1) ((c9 + 1)) fb_9 H _ ls (by omega) (by rw [hk9]; exact nI_1 j9) (by rw [hx9]; first | exact nI_1 j9 | rfl) (by omega) (by omega) (hP.sub (ws' := [(mm, .inr (10, [.ref w, .int 0])), (w, .inr (9, [.int (x9 + 1), .int 0, .ref b2, .ref b3, .ref b4, .ref b5, .int 0, .ref b7, .ref b8, .ref b9, .ref b10, .ref b11, .ref b12, .int 0, .ref b14, .ref b15, .ref b16, .ref b17, .int 0, .ref b19, .ref b20, .ref b21, .ref b22, .ref b23, .ref b24, .ref b25, .ref b26, .ref b27, .int 0, .ref b29, .ref b30, .ref b31, .ref b32, .ref b33, .ref b34, .ref b35])), (b35, .inl (cI, 5, .inl (fb_9)))]) [0, 1, 2] rfl) (hD.sub (ws' := [(mm, .inr (10, [.ref w, .int 0])), (w, .inr (9, [.int (x9 + 1), .int 0, .ref b2, .ref b3, .ref b4, .ref b5, .int 0, .ref b7, .ref b8, .ref b9, .ref b10, .ref b11, .ref b12, .int 0, .ref b14, .ref b15, .ref b16, .ref b17, .int 0, .ref b19, .ref b20, .ref b21, .ref b22, .ref b23, .ref b24, .ref b25, .ref b26, .ref b27, .int 0, .ref b29, .ref b30, .ref b31, .ref b32, .ref b33, .ref b34, .ref b35])), (b35, .inl (cI, 5, .inl (fb_9)))]) [0, 1, 2] (by decide) rfl) hS (lv_sub hl [0, 1, 2] rfl)
  · refine lv_if_ne (tgt := 21) hx hb dX10_pass_12 (by decide) (fun c9 => absurd (show (0 : Int32) = (0 : Int32) from (by decide)) c9) (fun _ => ?_)
    refine lv_aload_n hx hb dX10_pass_15 rfl (lv_at hl 0 rfl) ?_
    refine lv_iconst (v := 1) hx hb dX10_pass_16 (by decide) ?_
    have hPc := hP.sub (ws' := [(mm, .inr (10, [.ref w, .int 0]))]) [0] rfl
    have hDc := hD.sub (ws' := [(mm, .inr (10, [.ref w, .int 0]))]) [0] (by decide) rfl
    have hFc := va_free (wc := [(mm, .inr (10, [.ref w, .int 0]))]) hD hS hA [0] rfl
    refine va_calli (va_runV (As := [.int 1]) (rest := []) ⟨hx, hb, hml, hown, hts⟩ (c_no l D cI cZ cJ lo H.size mm 0 w 1) (cwV 1 hts gX10_pass_X10_no rfl rfl rfl (by decide +kernel) ⟨(Nat.le_of_ble_eq_true rfl), (Nat.le_of_ble_eq_true rfl)⟩) ⟨Pre.blind, va_recv hK hP (ci := 10) (q0 := 0) rfl rfl, Pre.mk hPc (hDc.weaken (fun _ _ _ h => hAlo _ h)) hC hS hAlo⟩ rfl rfl hl.1 rfl (lv_room (Nat.le_of_ble_eq_true rfl)) dX10_pass_17 ⟨(Nat.le_of_ble_eq_true rfl), (Nat.le_of_ble_eq_true rfl)⟩) hS (fun q _ h => hFc q h) hFc (fun r_10 u t H1 locs1 ht hvm e_11 hB hz1 hk1 hS1 => ?_)
    have hS := hS1
    obtain ⟨hP1, hD1⟩ := hB
    rw [ht] at hP1
    obtain ⟨hP, hD⟩ := va_join (wr := [(w, .inr (9, [.int 0, .int 0, .ref b2, .ref b3, .ref b4, .ref b5, .int 0, .ref b7, .ref b8, .ref b9, .ref b10, .ref b11, .ref b12, .int 0, .ref b14, .ref b15, .ref b16, .ref b17, .int 0, .ref b19, .ref b20, .ref b21, .ref b22, .ref b23, .ref b24, .ref b25, .ref b26, .ref b27, .int 0, .ref b29, .ref b30, .ref b31, .ref b32, .ref b33, .ref b34, .ref b35])), (b35, .inl (cI, 5, .inl (fun _ => 0)))]) (w1 := [(mm, .inr (10, [.ref w, .int 1]))]) hP hD [0] [1, 2] rfl rfl (by decide) (by decide) hk1 hFc hP1 hD1
    have e_11 : 0 = r_10 := Eq.symm e_11
    subst e_11
    clear hFc hPc hDc ht hvm hz1 hk1 hS1 hP1 hD1
    generalize H1 = H at hP hS ⊢
    replace hP : va_P D vwCl [(w, .inr (9, [.int 0, .int 0, .ref b2, .ref b3, .ref b4, .ref b5, .int 0, .ref b7, .ref b8, .ref b9, .ref b10, .ref b11, .ref b12, .int 0, .ref b14, .ref b15, .ref b16, .ref b17, .int 0, .ref b19, .ref b20, .ref b21, .ref b22, .ref b23, .ref b24, .ref b25, .ref b26, .ref b27, .int 0, .ref b29, .ref b30, .ref b31, .ref b32, .ref b33, .ref b34, .ref b35])), (b35, .inl (cI, 5, .inl (fun _ => 0))), (mm, .inr (10, [.ref w, .int 1]))] H := hP
    replace hD : va_D A [(w, .inr (9, [.int 0, .int 0, .ref b2, .ref b3, .ref b4, .ref b5, .int 0, .ref b7, .ref b8, .ref b9, .ref b10, .ref b11, .ref b12, .int 0, .ref b14, .ref b15, .ref b16, .ref b17, .int 0, .ref b19, .ref b20, .ref b21, .ref b22, .ref b23, .ref b24, .ref b25, .ref b26, .ref b27, .int 0, .ref b29, .ref b30, .ref b31, .ref b32, .ref b33, .ref b34, .ref b35])), (b35, .inl (cI, 5, .inl (fun _ => 0))), (mm, .inr (10, [.ref w, .int 1]))] := hD
    refine W.widen (k := 30) (n := 0) (by omega) (by omega) ?_
    have hP9 := hP.sub (ws' := [(mm, .inr (10, [.ref w, .int 1]))]) [2] rfl
    have hD9 := hD.sub (ws' := [(mm, .inr (10, [.ref w, .int 1]))]) [2] (by decide) rfl
    exact W.iret (v := 0) hx hb hr (fun t ht hW => ⟨⟨0, (), rfl, (fun h9 => absurd h9 h_4), 1, by rw [ht]; exact hP9, hD9, ⟨fun h9 => absurd h9 h_4, fun _ => rfl⟩⟩, hS.F ht⟩) hS.2.2 dX10_pass_20

set_option maxHeartbeats 4000000 in
set_option maxRecDepth 100000 in
/-- X10_reserveAnew -/
theorem m_reserveAnew (l : Launch) (D : va_G) (cI cZ cJ : ClassId) (lo sz : Nat) (mm : Nat) (tt : Int32) (w : Nat) (wd : Int32) (b2 : Nat) (b3 : Nat) (b4 : Nat) (b5 : Nat) (b7 : Nat) (b8 : Nat) (b9 : Nat) (b10 : Nat) (b11 : Nat) (b12 : Nat) (b14 : Nat) (b15 : Nat) (b16 : Nat) (b17 : Nat) (b19 : Nat) (b20 : Nat) (b21 : Nat) (b22 : Nat) (b23 : Nat) (b24 : Nat) (b25 : Nat) (b26 : Nat) (b27 : Nat) (b29 : Nat) (b30 : Nat) (b31 : Nat) (b32 : Nat) (b33 : Nat) (b34 : Nat) (b35 : Nat) : Met l yX10_reserveAnew wsX10_reserveAnew ({ frames := 1, cells := 1, slots := 0, locals := 24 }) (Pre lo D cI cZ cJ [.ref mm] sz [(mm, .inr (10, [.ref w, .int tt])), (w, .inr (9, [.int wd, .int 0, .ref b2, .ref b3, .ref b4, .ref b5, .int 0, .ref b7, .ref b8, .ref b9, .ref b10, .ref b11, .ref b12, .int 0, .ref b14, .ref b15, .ref b16, .ref b17, .int 0, .ref b19, .ref b20, .ref b21, .ref b22, .ref b23, .ref b24, .ref b25, .ref b26, .ref b27, .int 0, .ref b29, .ref b30, .ref b31, .ref b32, .ref b33, .ref b34, .ref b35]))]) (va_Qi (fun (r : Int32) (_ : Unit) => r = 0) (fun _ t => True) (va_A [(mm, .inr (10, [.ref w, .int tt])), (w, .inr (9, [.int wd, .int 0, .ref b2, .ref b3, .ref b4, .ref b5, .int 0, .ref b7, .ref b8, .ref b9, .ref b10, .ref b11, .ref b12, .int 0, .ref b14, .ref b15, .ref b16, .ref b17, .int 0, .ref b19, .ref b20, .ref b21, .ref b22, .ref b23, .ref b24, .ref b25, .ref b26, .ref b27, .int 0, .ref b29, .ref b30, .ref b31, .ref b32, .ref b33, .ref b34, .ref b35]))] sz)) 1 0 (va_A [(mm, .inr (10, [.ref w, .int tt])), (w, .inr (9, [.int wd, .int 0, .ref b2, .ref b3, .ref b4, .ref b5, .int 0, .ref b7, .ref b8, .ref b9, .ref b10, .ref b11, .ref b12, .int 0, .ref b14, .ref b15, .ref b16, .ref b17, .int 0, .ref b19, .ref b20, .ref b21, .ref b22, .ref b23, .ref b24, .ref b25, .ref b26, .ref b27, .int 0, .ref b29, .ref b30, .ref b31, .ref b32, .ref b33, .ref b34, .ref b35]))] sz) := by
  refine Met.ofW (cc := cX10_reserveAnew) (maxL := 3) (ret := (some .int)) (by decide) rfl ?_
  intro p e s m args below meth c s₁ B hml hv
  obtain ⟨rfl, hsz, hP, hD0, hC⟩ := hv
  have hx := B.exec
  have hb := B.bytes
  have hr := B.returns
  have hts := atoms_spec (ws := wsX10_reserveAnew) B.pre
  have hown : s.vm.findClass RX10 = some m.cls := findClass_of_methodNamed B.named
  have hlocks := B.notSynchronized
  subst hsz
  have hK := hC.K
  have hD := hD0.self (sz := s.heap.size)
  have hAlo0 := va_A_lo hD0 hC.1
  generalize hAe : va_A [(mm, .inr (10, [.ref w, .int tt])), (w, .inr (9, [.int wd, .int 0, .ref b2, .ref b3, .ref b4, .ref b5, .int 0, .ref b7, .ref b8, .ref b9, .ref b10, .ref b11, .ref b12, .int 0, .ref b14, .ref b15, .ref b16, .ref b17, .int 0, .ref b19, .ref b20, .ref b21, .ref b22, .ref b23, .ref b24, .ref b25, .ref b26, .ref b27, .int 0, .ref b29, .ref b30, .ref b31, .ref b32, .ref b33, .ref b34, .ref b35]))] s.heap.size = A at hD hAlo0 ⊢
  have hA : ∀ q : Nat, s.heap.size ≤ q → A q := fun q h => by rw [← hAe]; exact Or.inr h
  have hAlo : ∀ q, A q → lo ≤ q := hAlo0
  have hS : va_S A s.heap s.heap [] := va_S.rf
  have hP : va_P D vwCl [(mm, .inr (10, [.ref w, .int tt])), (w, .inr (9, [.int wd, .int 0, .ref b2, .ref b3, .ref b4, .ref b5, .int 0, .ref b7, .ref b8, .ref b9, .ref b10, .ref b11, .ref b12, .int 0, .ref b14, .ref b15, .ref b16, .ref b17, .int 0, .ref b19, .ref b20, .ref b21, .ref b22, .ref b23, .ref b24, .ref b25, .ref b26, .ref b27, .int 0, .ref b29, .ref b30, .ref b31, .ref b32, .ref b33, .ref b34, .ref b35]))] s.heap := hP
  have hl := lv_entry ([.ref mm]) (n := 3) (Nat.le_of_ble_eq_true rfl)
  rw [lg_entry_eq]
  generalize (lg_sl ([.ref mm]) ++ List.replicate (3 - (lg_sl ([.ref mm])).length) Slot.unset).toArray = ls at hl ⊢
  have hl : lv_has ls 3 [(0, .ref mm)] := hl
  have in9 : ∀ w ∈ u_ws RX9 TX9 36, w ∈ wsX10_reserveAnew := by decide +kernel
  have in10 : ∀ w ∈ u_ws RX10 TX10 2, w ∈ wsX10_reserveAnew := by decide +kernel
  refine lv_aload_n hx hb dX10_reserveAnew_0 rfl (lv_at hl 0 rfl) ?_
  refine lv_iconst (v := 0) hx hb dX10_reserveAnew_1 (by decide) ?_
  refine va_put (D := D) (ci := 10) (v := .int 0) (ty := .int) (C := RX10) (T := TX10) (N := 2) hx hb hts in10 tyX10 tyX10_ok nmX10 hown hK hP hD hS 0 rfl rfl 1 (by decide) (hts (.fieldLink RX10 22 "GranaryModel" "thrown" "I") (by decide +kernel)) (fun _ h9 => h9) rfl (by decide +kernel) rfl rfl (Nat.le_of_ble_eq_true rfl) dX10_reserveAnew_2 (fun H locs hP hD hS => ?_)
  replace hP : va_P D vwCl [(mm, .inr (10, [.ref w, .int 0])), (w, .inr (9, [.int wd, .int 0, .ref b2, .ref b3, .ref b4, .ref b5, .int 0, .ref b7, .ref b8, .ref b9, .ref b10, .ref b11, .ref b12, .int 0, .ref b14, .ref b15, .ref b16, .ref b17, .int 0, .ref b19, .ref b20, .ref b21, .ref b22, .ref b23, .ref b24, .ref b25, .ref b26, .ref b27, .int 0, .ref b29, .ref b30, .ref b31, .ref b32, .ref b33, .ref b34, .ref b35]))] H := hP
  replace hD : va_D A [(mm, .inr (10, [.ref w, .int 0])), (w, .inr (9, [.int wd, .int 0, .ref b2, .ref b3, .ref b4, .ref b5, .int 0, .ref b7, .ref b8, .ref b9, .ref b10, .ref b11, .ref b12, .int 0, .ref b14, .ref b15, .ref b16, .ref b17, .int 0, .ref b19, .ref b20, .ref b21, .ref b22, .ref b23, .ref b24, .ref b25, .ref b26, .ref b27, .int 0, .ref b29, .ref b30, .ref b31, .ref b32, .ref b33, .ref b34, .ref b35]))] := hD
  refine lv_iconst (v := 0) hx hb dX10_reserveAnew_5 (by decide) ?_
  refine lv_istore_n (lv' := [(1, .int 0), (0, .ref mm)]) hx hb dX10_reserveAnew_6 rfl hl (by decide) rfl (fun ls hl => ?_)
  refine lv_iload_n hx hb dX10_reserveAnew_7 rfl (lv_at hl 0 rfl) ?_
  refine lv_aload_n hx hb dX10_reserveAnew_8 rfl (lv_at hl 1 rfl) ?_
  refine va_get (D := D) (ci := 10) (v := .ref w) (C := RX10) (T := TX10) (N := 2) hx hb hts in10 hown hK hP 0 rfl rfl 0 (by decide) (hts (.fieldLink RX10 16 "GranaryModel" "w" "LGranaryModel$World;") (by decide +kernel)) (fun _ h9 => h9) rfl dX10_reserveAnew_9 ?_
  refine va_get (D := D) (ci := 9) (v := .int 0) (C := RX9) (T := TX9) (N := 36) hx hb hts in9 hown hK hP 1 rfl rfl 18 (by decide) (hts (.fieldLink RX10 98 "GranaryModel$World" "orders" "I") (by decide +kernel)) (fun _ h9 => h9) rfl dX10_reserveAnew_12 ?_
  refine lv_icmp_ge (tgt := 45) hx hb dX10_reserveAnew_15 (by decide) (fun _ => ?_) (fun c9 => absurd (show (0 : Int32) ≤ (0 : Int32) from (by decide)) c9)
  refine lv_aload_n hx hb dX10_reserveAnew_45 rfl (lv_at hl 1 rfl) ?_
  refine va_get (D := D) (ci := 10) (v := .ref w) (C := RX10) (T := TX10) (N := 2) hx hb hts in10 hown hK hP 0 rfl rfl 0 (by decide) (hts (.fieldLink RX10 16 "GranaryModel" "w" "LGranaryModel$World;") (by decide +kernel)) (fun _ h9 => h9) rfl dX10_reserveAnew_46 ?_
  have hPc := hP.sub (ws' := [(w, .inr (9, [.int wd, .int 0, .ref b2, .ref b3, .ref b4, .ref b5, .int 0, .ref b7, .ref b8, .ref b9, .ref b10, .ref b11, .ref b12, .int 0, .ref b14, .ref b15, .ref b16, .ref b17, .int 0, .ref b19, .ref b20, .ref b21, .ref b22, .ref b23, .ref b24, .ref b25, .ref b26, .ref b27, .int 0, .ref b29, .ref b30, .ref b31, .ref b32, .ref b33, .ref b34, .ref b35]))]) [1] rfl
  have hDc := hD.sub (ws' := [(w, .inr (9, [.int wd, .int 0, .ref b2, .ref b3, .ref b4, .ref b5, .int 0, .ref b7, .ref b8, .ref b9, .ref b10, .ref b11, .ref b12, .int 0, .ref b14, .ref b15, .ref b16, .ref b17, .int 0, .ref b19, .ref b20, .ref b21, .ref b22, .ref b23, .ref b24, .ref b25, .ref b26, .ref b27, .int 0, .ref b29, .ref b30, .ref b31, .ref b32, .ref b33, .ref b34, .ref b35]))]) [1] (by decide) rfl
  have hFc := va_free (wc := [(w, .inr (9, [.int wd, .int 0, .ref b2, .ref b3, .ref b4, .ref b5, .int 0, .ref b7, .ref b8, .ref b9, .ref b10, .ref b11, .ref b12, .int 0, .ref b14, .ref b15, .ref b16, .ref b17, .int 0, .ref b19, .ref b20, .ref b21, .ref b22, .ref b23, .ref b24, .ref b25, .ref b26, .ref b27, .int 0, .ref b29, .ref b30, .ref b31, .ref b32, .ref b33, .ref b34, .ref b35]))]) hD hS hA [1] rfl
  refine va_callv (va_runV (As := []) (rest := []) ⟨hx, hb, hml, hown, hts⟩ (c_W_reserveAll l D cI cZ cJ lo H.size w wd b2 b3 b4 b5 b7 b8 b9 b10 b11 b12 b14 b15 b16 b17 b19 b20 b21 b22 b23 b24 b25 b26 b27 b29 b30 b31 b32 b33 b34 b35) (cwV 0 hts gX10_reserveAnew_X9_reserveAll rfl rfl rfl (by decide +kernel) ⟨(Nat.le_of_ble_eq_true rfl), (Nat.le_of_ble_eq_true rfl)⟩) ⟨Pre.blind, va_recv hK hP (ci := 9) (q0 := 1) rfl rfl, Pre.mk hPc (hDc.weaken (fun _ _ _ h => hAlo _ h)) hC hS hAlo⟩ rfl rfl hl.1 rfl (lv_room (Nat.le_of_ble_eq_true rfl)) dX10_reserveAnew_49 ⟨(Nat.le_of_ble_eq_true rfl), (Nat.le_of_ble_eq_true rfl)⟩) hS (fun q _ h => hFc q h) hFc (fun u t H1 locs1 ht hvm e_1 hB hz1 hk1 hS1 => ?_)
  have hS := hS1
  refine W.widen (k := 1) (n := 0) (by omega) (by omega) ?_
  obtain ⟨hP1, hD1⟩ := hB
  rw [ht] at hP1
  obtain ⟨hP, hD⟩ := va_join (wr := [(mm, .inr (10, [.ref w, .int 0]))]) (w1 := [(w, .inr (9, [.int wd, .int 0, .ref b2, .ref b3, .ref b4, .ref b5, .int 0, .ref b7, .ref b8, .ref b9, .ref b10, .ref b11, .ref b12, .int 0, .ref b14, .ref b15, .ref b16, .ref b17, .int 0, .ref b19, .ref b20, .ref b21, .ref b22, .ref b23, .ref b24, .ref b25, .ref b26, .ref b27, .int 0, .ref b29, .ref b30, .ref b31, .ref b32, .ref b33, .ref b34, .ref b35]))]) hP hD [1] [0] rfl rfl (by decide) (by decide) hk1 hFc hP1 hD1
  have e_1 : True := e_1
  clear hFc hPc hDc ht hvm hz1 hk1 hS1 hP1 hD1
  generalize H1 = H at hP hS ⊢
  replace hP : va_P D vwCl [(mm, .inr (10, [.ref w, .int 0])), (w, .inr (9, [.int wd, .int 0, .ref b2, .ref b3, .ref b4, .ref b5, .int 0, .ref b7, .ref b8, .ref b9, .ref b10, .ref b11, .ref b12, .int 0, .ref b14, .ref b15, .ref b16, .ref b17, .int 0, .ref b19, .ref b20, .ref b21, .ref b22, .ref b23, .ref b24, .ref b25, .ref b26, .ref b27, .int 0, .ref b29, .ref b30, .ref b31, .ref b32, .ref b33, .ref b34, .ref b35]))] H := hP
  replace hD : va_D A [(mm, .inr (10, [.ref w, .int 0])), (w, .inr (9, [.int wd, .int 0, .ref b2, .ref b3, .ref b4, .ref b5, .int 0, .ref b7, .ref b8, .ref b9, .ref b10, .ref b11, .ref b12, .int 0, .ref b14, .ref b15, .ref b16, .ref b17, .int 0, .ref b19, .ref b20, .ref b21, .ref b22, .ref b23, .ref b24, .ref b25, .ref b26, .ref b27, .int 0, .ref b29, .ref b30, .ref b31, .ref b32, .ref b33, .ref b34, .ref b35]))] := hD
  refine lv_iconst (v := 0) hx hb dX10_reserveAnew_52 (by decide) ?_
  refine lv_istore_n (lv' := [(1, .int 0), (0, .ref mm)]) hx hb dX10_reserveAnew_53 rfl hl (by decide) rfl (fun ls hl => ?_)
  refine lv_iconst (v := 0) hx hb dX10_reserveAnew_54 (by decide) ?_
  refine lv_istore_n (lv' := [(2, .int 0), (1, .int 0), (0, .ref mm)]) hx hb dX10_reserveAnew_55 rfl hl (by decide) rfl (fun ls hl => ?_)
  refine lv_iload_n hx hb dX10_reserveAnew_56 rfl (lv_at hl 0 rfl) ?_
  refine lv_aload_n hx hb dX10_reserveAnew_57 rfl (lv_at hl 2 rfl) ?_
  refine va_get (D := D) (ci := 10) (v := .ref w) (C := RX10) (T := TX10) (N := 2) hx hb hts in10 hown hK hP 0 rfl rfl 0 (by decide) (hts (.fieldLink RX10 16 "GranaryModel" "w" "LGranaryModel$World;") (by decide +kernel)) (fun _ h9 => h9) rfl dX10_reserveAnew_58 ?_
  refine va_get (D := D) (ci := 9) (v := .int 0) (C := RX9) (T := TX9) (N := 36) hx hb hts in9 hown hK hP 1 rfl rfl 18 (by decide) (hts (.fieldLink RX10 98 "GranaryModel$World" "orders" "I") (by decide +kernel)) (fun _ h9 => h9) rfl dX10_reserveAnew_61 ?_
  refine lv_icmp_ge (tgt := 84) hx hb dX10_reserveAnew_64 (by decide) (fun _ => ?_) (fun c9 => absurd (show (0 : Int32) ≤ (0 : Int32) from (by decide)) c9)
  refine lv_iload_n hx hb dX10_reserveAnew_84 rfl (lv_at hl 1 rfl) ?_
  refine W.widen (k := 1) (n := 0) (by omega) (by omega) ?_
  exact W.iret (v := 0) hx hb hr (fun t ht hW => ⟨⟨0, (), rfl, rfl, trivial⟩, hS.F ht⟩) hS.2.2 dX10_reserveAnew_85

set_option maxHeartbeats 4000000 in
set_option maxRecDepth 100000 in
/-- X10_punctuality -/
theorem m_punctuality (l : Launch) (D : va_G) (cI cZ cJ : ClassId) (lo sz : Nat) (mm : Nat) (tt : Int32) (w : Nat) (wd : Int32) (b2 : Nat) (b3 : Nat) (b4 : Nat) (b5 : Nat) (b7 : Nat) (b8 : Nat) (b9 : Nat) (b10 : Nat) (b11 : Nat) (b12 : Nat) (b14 : Nat) (b15 : Nat) (b16 : Nat) (b17 : Nat) (b19 : Nat) (b20 : Nat) (b21 : Nat) (b22 : Nat) (b23 : Nat) (b24 : Nat) (b25 : Nat) (b26 : Nat) (b27 : Nat) (b29 : Nat) (b30 : Nat) (b31 : Nat) (b32 : Nat) (b33 : Nat) (b34 : Nat) (b35 : Nat) : Met l yX10_punctuality wsX10_punctuality ({ frames := 0, cells := 0, slots := 0, locals := 0 }) (Pre lo D cI cZ cJ [.ref mm] sz [(mm, .inr (10, [.ref w, .int tt])), (w, .inr (9, [.int wd, .int 0, .ref b2, .ref b3, .ref b4, .ref b5, .int 0, .ref b7, .ref b8, .ref b9, .ref b10, .ref b11, .ref b12, .int 0, .ref b14, .ref b15, .ref b16, .ref b17, .int 0, .ref b19, .ref b20, .ref b21, .ref b22, .ref b23, .ref b24, .ref b25, .ref b26, .ref b27, .int 0, .ref b29, .ref b30, .ref b31, .ref b32, .ref b33, .ref b34, .ref b35]))]) (va_Qd (fun (r : UInt64) (_ : Unit) => r = FP.dconst1) (fun _ t => True) (va_A [(mm, .inr (10, [.ref w, .int tt])), (w, .inr (9, [.int wd, .int 0, .ref b2, .ref b3, .ref b4, .ref b5, .int 0, .ref b7, .ref b8, .ref b9, .ref b10, .ref b11, .ref b12, .int 0, .ref b14, .ref b15, .ref b16, .ref b17, .int 0, .ref b19, .ref b20, .ref b21, .ref b22, .ref b23, .ref b24, .ref b25, .ref b26, .ref b27, .int 0, .ref b29, .ref b30, .ref b31, .ref b32, .ref b33, .ref b34, .ref b35]))] sz)) 0 0 (va_A [(mm, .inr (10, [.ref w, .int tt])), (w, .inr (9, [.int wd, .int 0, .ref b2, .ref b3, .ref b4, .ref b5, .int 0, .ref b7, .ref b8, .ref b9, .ref b10, .ref b11, .ref b12, .int 0, .ref b14, .ref b15, .ref b16, .ref b17, .int 0, .ref b19, .ref b20, .ref b21, .ref b22, .ref b23, .ref b24, .ref b25, .ref b26, .ref b27, .int 0, .ref b29, .ref b30, .ref b31, .ref b32, .ref b33, .ref b34, .ref b35]))] sz) := by
  refine Met.ofW (cc := cX10_punctuality) (maxL := 4) (ret := (some .double)) (by decide) rfl ?_
  intro p e s m args below meth c s₁ B hml hv
  obtain ⟨rfl, hsz, hP, hD0, hC⟩ := hv
  have hx := B.exec
  have hb := B.bytes
  have hr := B.returns
  have hts := atoms_spec (ws := wsX10_punctuality) B.pre
  have hown : s.vm.findClass RX10 = some m.cls := findClass_of_methodNamed B.named
  have hlocks := B.notSynchronized
  subst hsz
  have hK := hC.K
  have hD := hD0.self (sz := s.heap.size)
  have hAlo0 := va_A_lo hD0 hC.1
  generalize hAe : va_A [(mm, .inr (10, [.ref w, .int tt])), (w, .inr (9, [.int wd, .int 0, .ref b2, .ref b3, .ref b4, .ref b5, .int 0, .ref b7, .ref b8, .ref b9, .ref b10, .ref b11, .ref b12, .int 0, .ref b14, .ref b15, .ref b16, .ref b17, .int 0, .ref b19, .ref b20, .ref b21, .ref b22, .ref b23, .ref b24, .ref b25, .ref b26, .ref b27, .int 0, .ref b29, .ref b30, .ref b31, .ref b32, .ref b33, .ref b34, .ref b35]))] s.heap.size = A at hD hAlo0 ⊢
  have hA : ∀ q : Nat, s.heap.size ≤ q → A q := fun q h => by rw [← hAe]; exact Or.inr h
  have hAlo : ∀ q, A q → lo ≤ q := hAlo0
  have hS : va_S A s.heap s.heap [] := va_S.rf
  have hP : va_P D vwCl [(mm, .inr (10, [.ref w, .int tt])), (w, .inr (9, [.int wd, .int 0, .ref b2, .ref b3, .ref b4, .ref b5, .int 0, .ref b7, .ref b8, .ref b9, .ref b10, .ref b11, .ref b12, .int 0, .ref b14, .ref b15, .ref b16, .ref b17, .int 0, .ref b19, .ref b20, .ref b21, .ref b22, .ref b23, .ref b24, .ref b25, .ref b26, .ref b27, .int 0, .ref b29, .ref b30, .ref b31, .ref b32, .ref b33, .ref b34, .ref b35]))] s.heap := hP
  have hl := lv_entry ([.ref mm]) (n := 4) (Nat.le_of_ble_eq_true rfl)
  rw [lg_entry_eq]
  generalize (lg_sl ([.ref mm]) ++ List.replicate (4 - (lg_sl ([.ref mm])).length) Slot.unset).toArray = ls at hl ⊢
  have hl : lv_has ls 4 [(0, .ref mm)] := hl
  have in9 : ∀ w ∈ u_ws RX9 TX9 36, w ∈ wsX10_punctuality := by decide +kernel
  have in10 : ∀ w ∈ u_ws RX10 TX10 2, w ∈ wsX10_punctuality := by decide +kernel
  refine lv_aload_n hx hb dX10_punctuality_0 rfl (lv_at hl 0 rfl) ?_
  refine lv_iconst (v := 0) hx hb dX10_punctuality_1 (by decide) ?_
  refine va_put (D := D) (ci := 10) (v := .int 0) (ty := .int) (C := RX10) (T := TX10) (N := 2) hx hb hts in10 tyX10 tyX10_ok nmX10 hown hK hP hD hS 0 rfl rfl 1 (by decide) (hts (.fieldLink RX10 22 "GranaryModel" "thrown" "I") (by decide +kernel)) (fun _ h9 => h9) rfl (by decide +kernel) rfl rfl (Nat.le_of_ble_eq_true rfl) dX10_punctuality_2 (fun H locs hP hD hS => ?_)
  replace hP : va_P D vwCl [(mm, .inr (10, [.ref w, .int 0])), (w, .inr (9, [.int wd, .int 0, .ref b2, .ref b3, .ref b4, .ref b5, .int 0, .ref b7, .ref b8, .ref b9, .ref b10, .ref b11, .ref b12, .int 0, .ref b14, .ref b15, .ref b16, .ref b17, .int 0, .ref b19, .ref b20, .ref b21, .ref b22, .ref b23, .ref b24, .ref b25, .ref b26, .ref b27, .int 0, .ref b29, .ref b30, .ref b31, .ref b32, .ref b33, .ref b34, .ref b35]))] H := hP
  replace hD : va_D A [(mm, .inr (10, [.ref w, .int 0])), (w, .inr (9, [.int wd, .int 0, .ref b2, .ref b3, .ref b4, .ref b5, .int 0, .ref b7, .ref b8, .ref b9, .ref b10, .ref b11, .ref b12, .int 0, .ref b14, .ref b15, .ref b16, .ref b17, .int 0, .ref b19, .ref b20, .ref b21, .ref b22, .ref b23, .ref b24, .ref b25, .ref b26, .ref b27, .int 0, .ref b29, .ref b30, .ref b31, .ref b32, .ref b33, .ref b34, .ref b35]))] := hD
  refine lv_iconst (v := 0) hx hb dX10_punctuality_5 (by decide) ?_
  refine lv_istore_n (lv' := [(1, .int 0), (0, .ref mm)]) hx hb dX10_punctuality_6 rfl hl (by decide) rfl (fun ls hl => ?_)
  refine lv_iconst (v := 0) hx hb dX10_punctuality_7 (by decide) ?_
  refine lv_istore_n (lv' := [(2, .int 0), (1, .int 0), (0, .ref mm)]) hx hb dX10_punctuality_8 rfl hl (by decide) rfl (fun ls hl => ?_)
  refine lv_iconst (v := 0) hx hb dX10_punctuality_9 (by decide) ?_
  refine lv_istore_n (lv' := [(3, .int 0), (2, .int 0), (1, .int 0), (0, .ref mm)]) hx hb dX10_punctuality_10 rfl hl (by decide) rfl (fun ls hl => ?_)
  refine lv_iload_n hx hb dX10_punctuality_11 rfl (lv_at hl 0 rfl) ?_
  refine lv_aload_n hx hb dX10_punctuality_12 rfl (lv_at hl 3 rfl) ?_
  refine va_get (D := D) (ci := 10) (v := .ref w) (C := RX10) (T := TX10) (N := 2) hx hb hts in10 hown hK hP 0 rfl rfl 0 (by decide) (hts (.fieldLink RX10 16 "GranaryModel" "w" "LGranaryModel$World;") (by decide +kernel)) (fun _ h9 => h9) rfl dX10_punctuality_13 ?_
  refine va_get (D := D) (ci := 9) (v := .int 0) (C := RX9) (T := TX9) (N := 36) hx hb hts in9 hown hK hP 1 rfl rfl 18 (by decide) (hts (.fieldLink RX10 98 "GranaryModel$World" "orders" "I") (by decide +kernel)) (fun _ h9 => h9) rfl dX10_punctuality_16 ?_
  refine lv_icmp_ge (tgt := 76) hx hb dX10_punctuality_19 (by decide) (fun _ => ?_) (fun c9 => absurd (show (0 : Int32) ≤ (0 : Int32) from (by decide)) c9)
  refine lv_iload_n hx hb dX10_punctuality_76 rfl (lv_at hl 2 rfl) ?_
  refine lv_if_ne (tgt := 84) hx hb dX10_punctuality_77 (by decide) (fun c9 => absurd (show (0 : Int32) = (0 : Int32) from (by decide)) c9) (fun _ => ?_)
  refine lv_dconst1 hx hb dX10_punctuality_80 ?_
  refine lv_goto (tgt := 89) hx hb dX10_punctuality_81 (by decide) ?_
  refine W.widen (k := 0) (n := 0) (by omega) (by omega) ?_
  exact W.dret (v := FP.dconst1) hx hb hr (fun t ht hW => ⟨⟨FP.dconst1, (), rfl, rfl, trivial⟩, hS.F ht⟩) hS.2.2 dX10_punctuality_89

set_option maxHeartbeats 4000000 in
set_option maxRecDepth 100000 in
/-- the reference's digest on a fresh object -/
theorem m_digest (l : Launch) (D : va_G) (cI cZ cJ : ClassId) (lo sz : Nat) (mm : Nat) (tt : Int32) (w : Nat) (b2 : Nat) (b3 : Nat) (b4 : Nat) (b5 : Nat) (b7 : Nat) (b8 : Nat) (b9 : Nat) (b10 : Nat) (b11 : Nat) (b12 : Nat) (b14 : Nat) (b15 : Nat) (b16 : Nat) (b17 : Nat) (b19 : Nat) (b20 : Nat) (b21 : Nat) (b22 : Nat) (b23 : Nat) (b24 : Nat) (b25 : Nat) (b26 : Nat) (b27 : Nat) (b29 : Nat) (b30 : Nat) (b31 : Nat) (b32 : Nat) (b33 : Nat) (b34 : Nat) (b35 : Nat) : Met l yX10_digest wsX10_digest ({ frames := 0, cells := 0, slots := 0, locals := 0 }) (Pre lo D cI cZ cJ [.ref mm] sz [(mm, .inr (10, [.ref w, .int tt])), (w, .inr (9, [.int 0, .int 0, .ref b2, .ref b3, .ref b4, .ref b5, .int 0, .ref b7, .ref b8, .ref b9, .ref b10, .ref b11, .ref b12, .int 0, .ref b14, .ref b15, .ref b16, .ref b17, .int 0, .ref b19, .ref b20, .ref b21, .ref b22, .ref b23, .ref b24, .ref b25, .ref b26, .ref b27, .int 0, .ref b29, .ref b30, .ref b31, .ref b32, .ref b33, .ref b34, .ref b35])), (b35, .inl (cI, 5, .inl (fun _ => 0)))]) (va_Ql (fun (r : Int64) (_ : Unit) => r = (-1158569213909762195)) (fun _ t => True) (va_A [(mm, .inr (10, [.ref w, .int tt])), (w, .inr (9, [.int 0, .int 0, .ref b2, .ref b3, .ref b4, .ref b5, .int 0, .ref b7, .ref b8, .ref b9, .ref b10, .ref b11, .ref b12, .int 0, .ref b14, .ref b15, .ref b16, .ref b17, .int 0, .ref b19, .ref b20, .ref b21, .ref b22, .ref b23, .ref b24, .ref b25, .ref b26, .ref b27, .int 0, .ref b29, .ref b30, .ref b31, .ref b32, .ref b33, .ref b34, .ref b35])), (b35, .inl (cI, 5, .inl (fun _ => 0)))] sz)) 0 0 (va_A [(mm, .inr (10, [.ref w, .int tt])), (w, .inr (9, [.int 0, .int 0, .ref b2, .ref b3, .ref b4, .ref b5, .int 0, .ref b7, .ref b8, .ref b9, .ref b10, .ref b11, .ref b12, .int 0, .ref b14, .ref b15, .ref b16, .ref b17, .int 0, .ref b19, .ref b20, .ref b21, .ref b22, .ref b23, .ref b24, .ref b25, .ref b26, .ref b27, .int 0, .ref b29, .ref b30, .ref b31, .ref b32, .ref b33, .ref b34, .ref b35])), (b35, .inl (cI, 5, .inl (fun _ => 0)))] sz) := by
  refine Met.ofW (cc := cX10_digest) (maxL := 7) (ret := (some .long)) (by decide) rfl ?_
  intro p e s m args below meth c s₁ B hml hv
  obtain ⟨rfl, hsz, hP, hD0, hC⟩ := hv
  have hx := B.exec
  have hb := B.bytes
  have hr := B.returns
  have hts := atoms_spec (ws := wsX10_digest) B.pre
  have hown : s.vm.findClass RX10 = some m.cls := findClass_of_methodNamed B.named
  have hlocks := B.notSynchronized
  subst hsz
  have hK := hC.K
  have hD := hD0.self (sz := s.heap.size)
  have hAlo0 := va_A_lo hD0 hC.1
  generalize hAe : va_A [(mm, .inr (10, [.ref w, .int tt])), (w, .inr (9, [.int 0, .int 0, .ref b2, .ref b3, .ref b4, .ref b5, .int 0, .ref b7, .ref b8, .ref b9, .ref b10, .ref b11, .ref b12, .int 0, .ref b14, .ref b15, .ref b16, .ref b17, .int 0, .ref b19, .ref b20, .ref b21, .ref b22, .ref b23, .ref b24, .ref b25, .ref b26, .ref b27, .int 0, .ref b29, .ref b30, .ref b31, .ref b32, .ref b33, .ref b34, .ref b35])), (b35, .inl (cI, 5, .inl (fun _ => 0)))] s.heap.size = A at hD hAlo0 ⊢
  have hA : ∀ q : Nat, s.heap.size ≤ q → A q := fun q h => by rw [← hAe]; exact Or.inr h
  have hAlo : ∀ q, A q → lo ≤ q := hAlo0
  have hS : va_S A s.heap s.heap [] := va_S.rf
  have hP : va_P D vwCl [(mm, .inr (10, [.ref w, .int tt])), (w, .inr (9, [.int 0, .int 0, .ref b2, .ref b3, .ref b4, .ref b5, .int 0, .ref b7, .ref b8, .ref b9, .ref b10, .ref b11, .ref b12, .int 0, .ref b14, .ref b15, .ref b16, .ref b17, .int 0, .ref b19, .ref b20, .ref b21, .ref b22, .ref b23, .ref b24, .ref b25, .ref b26, .ref b27, .int 0, .ref b29, .ref b30, .ref b31, .ref b32, .ref b33, .ref b34, .ref b35])), (b35, .inl (cI, 5, .inl (fun _ => 0)))] s.heap := hP
  have hl := lv_entry ([.ref mm]) (n := 7) (Nat.le_of_ble_eq_true rfl)
  rw [lg_entry_eq]
  generalize (lg_sl ([.ref mm]) ++ List.replicate (7 - (lg_sl ([.ref mm])).length) Slot.unset).toArray = ls at hl ⊢
  have hl : lv_has ls 7 [(0, .ref mm)] := hl
  have in9 : ∀ w ∈ u_ws RX9 TX9 36, w ∈ wsX10_digest := by decide +kernel
  have in10 : ∀ w ∈ u_ws RX10 TX10 2, w ∈ wsX10_digest := by decide +kernel
  refine lv_aload_n hx hb dX10_digest_0 rfl (lv_at hl 0 rfl) ?_
  refine lv_iconst (v := 0) hx hb dX10_digest_1 (by decide) ?_
  refine va_put (D := D) (ci := 10) (v := .int 0) (ty := .int) (C := RX10) (T := TX10) (N := 2) hx hb hts in10 tyX10 tyX10_ok nmX10 hown hK hP hD hS 0 rfl rfl 1 (by decide) (hts (.fieldLink RX10 22 "GranaryModel" "thrown" "I") (by decide +kernel)) (fun _ h9 => h9) rfl (by decide +kernel) rfl rfl (Nat.le_of_ble_eq_true rfl) dX10_digest_2 (fun H locs hP hD hS => ?_)
  replace hP : va_P D vwCl [(mm, .inr (10, [.ref w, .int 0])), (w, .inr (9, [.int 0, .int 0, .ref b2, .ref b3, .ref b4, .ref b5, .int 0, .ref b7, .ref b8, .ref b9, .ref b10, .ref b11, .ref b12, .int 0, .ref b14, .ref b15, .ref b16, .ref b17, .int 0, .ref b19, .ref b20, .ref b21, .ref b22, .ref b23, .ref b24, .ref b25, .ref b26, .ref b27, .int 0, .ref b29, .ref b30, .ref b31, .ref b32, .ref b33, .ref b34, .ref b35])), (b35, .inl (cI, 5, .inl (fun _ => 0)))] H := hP
  replace hD : va_D A [(mm, .inr (10, [.ref w, .int 0])), (w, .inr (9, [.int 0, .int 0, .ref b2, .ref b3, .ref b4, .ref b5, .int 0, .ref b7, .ref b8, .ref b9, .ref b10, .ref b11, .ref b12, .int 0, .ref b14, .ref b15, .ref b16, .ref b17, .int 0, .ref b19, .ref b20, .ref b21, .ref b22, .ref b23, .ref b24, .ref b25, .ref b26, .ref b27, .int 0, .ref b29, .ref b30, .ref b31, .ref b32, .ref b33, .ref b34, .ref b35])), (b35, .inl (cI, 5, .inl (fun _ => 0)))] := hD
  refine lv_ldc2 hx hb (v := 1799085) hown (hts (.constantLong RX10 250 (1799085)) (by decide +kernel)) dX10_digest_5 ?_
  refine lv_aload_n hx hb dX10_digest_8 rfl (lv_at hl 0 rfl) ?_
  refine va_get (D := D) (ci := 10) (v := .ref w) (C := RX10) (T := TX10) (N := 2) hx hb hts in10 hown hK hP 0 rfl rfl 0 (by decide) (hts (.fieldLink RX10 16 "GranaryModel" "w" "LGranaryModel$World;") (by decide +kernel)) (fun _ h9 => h9) rfl dX10_digest_9 ?_
  refine va_get (D := D) (ci := 9) (v := .int 0) (C := RX9) (T := TX9) (N := 36) hx hb hts in9 hown hK hP 1 rfl rfl 0 (by decide) (hts (.fieldLink RX10 91 "GranaryModel$World" "day" "I") (by decide +kernel)) (fun _ h9 => h9) rfl dX10_digest_12 ?_
  refine lv_i2l (v := 0) hx hb dX10_digest_15 (by decide) ?_
  refine lv_ladd hx hb dX10_digest_16 ?_
  refine lv_tol (y := 1799085) (by decide +kernel) ?_
  refine lv_ldc2 hx hb (v := 31) hown (hts (.constantLong RX10 252 (31)) (by decide +kernel)) dX10_digest_17 ?_
  refine lv_lmul hx hb dX10_digest_20 ?_
  refine lv_tol (y := 55771635) (by decide +kernel) ?_
  refine lv_aload_n hx hb dX10_digest_21 rfl (lv_at hl 0 rfl) ?_
  refine va_get (D := D) (ci := 10) (v := .ref w) (C := RX10) (T := TX10) (N := 2) hx hb hts in10 hown hK hP 0 rfl rfl 0 (by decide) (hts (.fieldLink RX10 16 "GranaryModel" "w" "LGranaryModel$World;") (by decide +kernel)) (fun _ h9 => h9) rfl dX10_digest_22 ?_
  refine va_get (D := D) (ci := 9) (v := .int 0) (C := RX9) (T := TX9) (N := 36) hx hb hts in9 hown hK hP 1 rfl rfl 1 (by decide) (hts (.fieldLink RX10 26 "GranaryModel$World" "items" "I") (by decide +kernel)) (fun _ h9 => h9) rfl dX10_digest_25 ?_
  refine lv_i2l (v := 0) hx hb dX10_digest_28 (by decide) ?_
  refine lv_ladd hx hb dX10_digest_29 ?_
  refine lv_tol (y := 55771635) (by decide +kernel) ?_
  refine lv_ldc2 hx hb (v := 31) hown (hts (.constantLong RX10 252 (31)) (by decide +kernel)) dX10_digest_30 ?_
  refine lv_lmul hx hb dX10_digest_33 ?_
  refine lv_tol (y := 1728920685) (by decide +kernel) ?_
  refine lv_aload_n hx hb dX10_digest_34 rfl (lv_at hl 0 rfl) ?_
  refine va_get (D := D) (ci := 10) (v := .ref w) (C := RX10) (T := TX10) (N := 2) hx hb hts in10 hown hK hP 0 rfl rfl 0 (by decide) (hts (.fieldLink RX10 16 "GranaryModel" "w" "LGranaryModel$World;") (by decide +kernel)) (fun _ h9 => h9) rfl dX10_digest_35 ?_
  refine va_get (D := D) (ci := 9) (v := .int 0) (C := RX9) (T := TX9) (N := 36) hx hb hts in9 hown hK hP 1 rfl rfl 6 (by decide) (hts (.fieldLink RX10 33 "GranaryModel$World" "sites" "I") (by decide +kernel)) (fun _ h9 => h9) rfl dX10_digest_38 ?_
  refine lv_i2l (v := 0) hx hb dX10_digest_41 (by decide) ?_
  refine lv_ladd hx hb dX10_digest_42 ?_
  refine lv_tol (y := 1728920685) (by decide +kernel) ?_
  refine lv_ldc2 hx hb (v := 31) hown (hts (.constantLong RX10 252 (31)) (by decide +kernel)) dX10_digest_43 ?_
  refine lv_lmul hx hb dX10_digest_46 ?_
  refine lv_tol (y := 53596541235) (by decide +kernel) ?_
  refine lv_aload_n hx hb dX10_digest_47 rfl (lv_at hl 0 rfl) ?_
  refine va_get (D := D) (ci := 10) (v := .ref w) (C := RX10) (T := TX10) (N := 2) hx hb hts in10 hown hK hP 0 rfl rfl 0 (by decide) (hts (.fieldLink RX10 16 "GranaryModel" "w" "LGranaryModel$World;") (by decide +kernel)) (fun _ h9 => h9) rfl dX10_digest_48 ?_
  refine va_get (D := D) (ci := 9) (v := .int 0) (C := RX9) (T := TX9) (N := 36) hx hb hts in9 hown hK hP 1 rfl rfl 13 (by decide) (hts (.fieldLink RX10 82 "GranaryModel$World" "lots" "I") (by decide +kernel)) (fun _ h9 => h9) rfl dX10_digest_51 ?_
  refine lv_i2l (v := 0) hx hb dX10_digest_54 (by decide) ?_
  refine lv_ladd hx hb dX10_digest_55 ?_
  refine lv_tol (y := 53596541235) (by decide +kernel) ?_
  refine lv_ldc2 hx hb (v := 31) hown (hts (.constantLong RX10 252 (31)) (by decide +kernel)) dX10_digest_56 ?_
  refine lv_lmul hx hb dX10_digest_59 ?_
  refine lv_tol (y := 1661492778285) (by decide +kernel) ?_
  refine lv_aload_n hx hb dX10_digest_60 rfl (lv_at hl 0 rfl) ?_
  refine va_get (D := D) (ci := 10) (v := .ref w) (C := RX10) (T := TX10) (N := 2) hx hb hts in10 hown hK hP 0 rfl rfl 0 (by decide) (hts (.fieldLink RX10 16 "GranaryModel" "w" "LGranaryModel$World;") (by decide +kernel)) (fun _ h9 => h9) rfl dX10_digest_61 ?_
  refine va_get (D := D) (ci := 9) (v := .int 0) (C := RX9) (T := TX9) (N := 36) hx hb hts in9 hown hK hP 1 rfl rfl 18 (by decide) (hts (.fieldLink RX10 98 "GranaryModel$World" "orders" "I") (by decide +kernel)) (fun _ h9 => h9) rfl dX10_digest_64 ?_
  refine lv_i2l (v := 0) hx hb dX10_digest_67 (by decide) ?_
  refine lv_ladd hx hb dX10_digest_68 ?_
  refine lv_tol (y := 1661492778285) (by decide +kernel) ?_
  refine lv_lstore_n (lv' := [(1, .long 1661492778285), (0, .ref mm)]) hx hb dX10_digest_69 rfl hl (by decide) rfl (fun ls hl => ?_)
  refine lv_lload_n hx hb dX10_digest_70 rfl (lv_at hl 0 rfl) ?_
  refine lv_ldc2 hx hb (v := 31) hown (hts (.constantLong RX10 252 (31)) (by decide +kernel)) dX10_digest_71 ?_
  refine lv_lmul hx hb dX10_digest_74 ?_
  refine lv_tol (y := 51506276126835) (by decide +kernel) ?_
  refine lv_aload_n hx hb dX10_digest_75 rfl (lv_at hl 1 rfl) ?_
  refine va_get (D := D) (ci := 10) (v := .ref w) (C := RX10) (T := TX10) (N := 2) hx hb hts in10 hown hK hP 0 rfl rfl 0 (by decide) (hts (.fieldLink RX10 16 "GranaryModel" "w" "LGranaryModel$World;") (by decide +kernel)) (fun _ h9 => h9) rfl dX10_digest_76 ?_
  refine va_get (D := D) (ci := 9) (v := .int 0) (C := RX9) (T := TX9) (N := 36) hx hb hts in9 hown hK hP 1 rfl rfl 28 (by decide) (hts (.fieldLink RX10 158 "GranaryModel$World" "transports" "I") (by decide +kernel)) (fun _ h9 => h9) rfl dX10_digest_79 ?_
  refine lv_i2l (v := 0) hx hb dX10_digest_82 (by decide) ?_
  refine lv_ladd hx hb dX10_digest_83 ?_
  refine lv_tol (y := 51506276126835) (by decide +kernel) ?_
  refine lv_lstore_n (lv' := [(1, .long 51506276126835), (0, .ref mm)]) hx hb dX10_digest_84 rfl hl (by decide) rfl (fun ls hl => ?_)
  refine lv_iconst (v := 0) hx hb dX10_digest_85 (by decide) ?_
  refine lv_istore_n (lv' := [(3, .int 0), (1, .long 51506276126835), (0, .ref mm)]) hx hb dX10_digest_86 rfl hl (by decide) rfl (fun ls hl => ?_)
  refine lv_iload_n hx hb dX10_digest_87 rfl (lv_at hl 0 rfl) ?_
  refine lv_iconst (v := 5) hx hb dX10_digest_88 (by decide) ?_
  refine lv_icmp_ge (tgt := 115) hx hb dX10_digest_89 (by decide) (fun c9 => absurd c9 (show ¬ ((5 : Int32) ≤ (0 : Int32)) from (by decide))) (fun _ => ?_)
  refine lv_lload_n hx hb dX10_digest_92 rfl (lv_at hl 1 rfl) ?_
  refine lv_ldc2 hx hb (v := 31) hown (hts (.constantLong RX10 252 (31)) (by decide +kernel)) dX10_digest_93 ?_
  refine lv_lmul hx hb dX10_digest_96 ?_
  refine lv_tol (y := 1596694559931885) (by decide +kernel) ?_
  refine lv_aload_n hx hb dX10_digest_97 rfl (lv_at hl 2 rfl) ?_
  refine va_get (D := D) (ci := 10) (v := .ref w) (C := RX10) (T := TX10) (N := 2) hx hb hts in10 hown hK hP 0 rfl rfl 0 (by decide) (hts (.fieldLink RX10 16 "GranaryModel" "w" "LGranaryModel$World;") (by decide +kernel)) (fun _ h9 => h9) rfl dX10_digest_98 ?_
  refine va_get (D := D) (ci := 9) (v := .ref b35) (C := RX9) (T := TX9) (N := 36) hx hb hts in9 hown hK hP 1 rfl rfl 35 (by decide) (hts (.fieldLink RX10 88 "GranaryModel$World" "account" "[I") (by decide +kernel)) (fun _ h9 => h9) rfl dX10_digest_101 ?_
  refine lv_iload_n hx hb dX10_digest_104 rfl (lv_at hl 0 rfl) ?_
  refine va_iald hx hb hK hP 2 0 rfl rfl (by unfold vp_in; decide) dX10_digest_105 ?_
  refine lv_toi (y := 0) rfl ?_
  refine lv_i2l (v := 0) hx hb dX10_digest_106 (by decide) ?_
  refine lv_ladd hx hb dX10_digest_107 ?_
  refine lv_tol (y := 1596694559931885) (by decide +kernel) ?_
  refine lv_lstore_n (lv' := [(1, .long 1596694559931885), (3, .int 0), (0, .ref mm)]) hx hb dX10_digest_108 rfl hl (by decide) rfl (fun ls hl => ?_)
  refine lv_iinc (v := 1) (lv' := [(3, .int 1), (1, .long 1596694559931885), (0, .ref mm)]) hx hb dX10_digest_109 hl (k := 1) rfl (by decide) (by decide) rfl (fun ls hl => ?_)
  refine lv_goto (tgt := 87) hx hb dX10_digest_112 (by decide) ?_
  refine lv_iload_n hx hb dX10_digest_87 rfl (lv_at hl 0 rfl) ?_
  refine lv_iconst (v := 5) hx hb dX10_digest_88 (by decide) ?_
  refine lv_icmp_ge (tgt := 115) hx hb dX10_digest_89 (by decide) (fun c9 => absurd c9 (show ¬ ((5 : Int32) ≤ (1 : Int32)) from (by decide))) (fun _ => ?_)
  refine lv_lload_n hx hb dX10_digest_92 rfl (lv_at hl 1 rfl) ?_
  refine lv_ldc2 hx hb (v := 31) hown (hts (.constantLong RX10 252 (31)) (by decide +kernel)) dX10_digest_93 ?_
  refine lv_lmul hx hb dX10_digest_96 ?_
  refine lv_tol (y := 49497531357888435) (by decide +kernel) ?_
  refine lv_aload_n hx hb dX10_digest_97 rfl (lv_at hl 2 rfl) ?_
  refine va_get (D := D) (ci := 10) (v := .ref w) (C := RX10) (T := TX10) (N := 2) hx hb hts in10 hown hK hP 0 rfl rfl 0 (by decide) (hts (.fieldLink RX10 16 "GranaryModel" "w" "LGranaryModel$World;") (by decide +kernel)) (fun _ h9 => h9) rfl dX10_digest_98 ?_
  refine va_get (D := D) (ci := 9) (v := .ref b35) (C := RX9) (T := TX9) (N := 36) hx hb hts in9 hown hK hP 1 rfl rfl 35 (by decide) (hts (.fieldLink RX10 88 "GranaryModel$World" "account" "[I") (by decide +kernel)) (fun _ h9 => h9) rfl dX10_digest_101 ?_
  refine lv_iload_n hx hb dX10_digest_104 rfl (lv_at hl 0 rfl) ?_
  refine va_iald hx hb hK hP 2 0 rfl rfl (by unfold vp_in; decide) dX10_digest_105 ?_
  refine lv_toi (y := 0) rfl ?_
  refine lv_i2l (v := 0) hx hb dX10_digest_106 (by decide) ?_
  refine lv_ladd hx hb dX10_digest_107 ?_
  refine lv_tol (y := 49497531357888435) (by decide +kernel) ?_
  refine lv_lstore_n (lv' := [(1, .long 49497531357888435), (3, .int 1), (0, .ref mm)]) hx hb dX10_digest_108 rfl hl (by decide) rfl (fun ls hl => ?_)
  refine lv_iinc (v := 2) (lv' := [(3, .int 2), (1, .long 49497531357888435), (0, .ref mm)]) hx hb dX10_digest_109 hl (k := 1) rfl (by decide) (by decide) rfl (fun ls hl => ?_)
  refine lv_goto (tgt := 87) hx hb dX10_digest_112 (by decide) ?_
  refine lv_iload_n hx hb dX10_digest_87 rfl (lv_at hl 0 rfl) ?_
  refine lv_iconst (v := 5) hx hb dX10_digest_88 (by decide) ?_
  refine lv_icmp_ge (tgt := 115) hx hb dX10_digest_89 (by decide) (fun c9 => absurd c9 (show ¬ ((5 : Int32) ≤ (2 : Int32)) from (by decide))) (fun _ => ?_)
  refine lv_lload_n hx hb dX10_digest_92 rfl (lv_at hl 1 rfl) ?_
  refine lv_ldc2 hx hb (v := 31) hown (hts (.constantLong RX10 252 (31)) (by decide +kernel)) dX10_digest_93 ?_
  refine lv_lmul hx hb dX10_digest_96 ?_
  refine lv_tol (y := 1534423472094541485) (by decide +kernel) ?_
  refine lv_aload_n hx hb dX10_digest_97 rfl (lv_at hl 2 rfl) ?_
  refine va_get (D := D) (ci := 10) (v := .ref w) (C := RX10) (T := TX10) (N := 2) hx hb hts in10 hown hK hP 0 rfl rfl 0 (by decide) (hts (.fieldLink RX10 16 "GranaryModel" "w" "LGranaryModel$World;") (by decide +kernel)) (fun _ h9 => h9) rfl dX10_digest_98 ?_
  refine va_get (D := D) (ci := 9) (v := .ref b35) (C := RX9) (T := TX9) (N := 36) hx hb hts in9 hown hK hP 1 rfl rfl 35 (by decide) (hts (.fieldLink RX10 88 "GranaryModel$World" "account" "[I") (by decide +kernel)) (fun _ h9 => h9) rfl dX10_digest_101 ?_
  refine lv_iload_n hx hb dX10_digest_104 rfl (lv_at hl 0 rfl) ?_
  refine va_iald hx hb hK hP 2 0 rfl rfl (by unfold vp_in; decide) dX10_digest_105 ?_
  refine lv_toi (y := 0) rfl ?_
  refine lv_i2l (v := 0) hx hb dX10_digest_106 (by decide) ?_
  refine lv_ladd hx hb dX10_digest_107 ?_
  refine lv_tol (y := 1534423472094541485) (by decide +kernel) ?_
  refine lv_lstore_n (lv' := [(1, .long 1534423472094541485), (3, .int 2), (0, .ref mm)]) hx hb dX10_digest_108 rfl hl (by decide) rfl (fun ls hl => ?_)
  refine lv_iinc (v := 3) (lv' := [(3, .int 3), (1, .long 1534423472094541485), (0, .ref mm)]) hx hb dX10_digest_109 hl (k := 1) rfl (by decide) (by decide) rfl (fun ls hl => ?_)
  refine lv_goto (tgt := 87) hx hb dX10_digest_112 (by decide) ?_
  refine lv_iload_n hx hb dX10_digest_87 rfl (lv_at hl 0 rfl) ?_
  refine lv_iconst (v := 5) hx hb dX10_digest_88 (by decide) ?_
  refine lv_icmp_ge (tgt := 115) hx hb dX10_digest_89 (by decide) (fun c9 => absurd c9 (show ¬ ((5 : Int32) ≤ (3 : Int32)) from (by decide))) (fun _ => ?_)
  refine lv_lload_n hx hb dX10_digest_92 rfl (lv_at hl 1 rfl) ?_
  refine lv_ldc2 hx hb (v := 31) hown (hts (.constantLong RX10 252 (31)) (by decide +kernel)) dX10_digest_93 ?_
  refine lv_lmul hx hb dX10_digest_96 ?_
  refine lv_tol (y := (-7773104586197868813)) (by decide +kernel) ?_
  refine lv_aload_n hx hb dX10_digest_97 rfl (lv_at hl 2 rfl) ?_
  refine va_get (D := D) (ci := 10) (v := .ref w) (C := RX10) (T := TX10) (N := 2) hx hb hts in10 hown hK hP 0 rfl rfl 0 (by decide) (hts (.fieldLink RX10 16 "GranaryModel" "w" "LGranaryModel$World;") (by decide +kernel)) (fun _ h9 => h9) rfl dX10_digest_98 ?_
  refine va_get (D := D) (ci := 9) (v := .ref b35) (C := RX9) (T := TX9) (N := 36) hx hb hts in9 hown hK hP 1 rfl rfl 35 (by decide) (hts (.fieldLink RX10 88 "GranaryModel$World" "account" "[I") (by decide +kernel)) (fun _ h9 => h9) rfl dX10_digest_101 ?_
  refine lv_iload_n hx hb dX10_digest_104 rfl (lv_at hl 0 rfl) ?_
  refine va_iald hx hb hK hP 2 0 rfl rfl (by unfold vp_in; decide) dX10_digest_105 ?_
  refine lv_toi (y := 0) rfl ?_
  refine lv_i2l (v := 0) hx hb dX10_digest_106 (by decide) ?_
  refine lv_ladd hx hb dX10_digest_107 ?_
  refine lv_tol (y := (-7773104586197868813)) (by decide +kernel) ?_
  refine lv_lstore_n (lv' := [(1, .long (-7773104586197868813)), (3, .int 3), (0, .ref mm)]) hx hb dX10_digest_108 rfl hl (by decide) rfl (fun ls hl => ?_)
  refine lv_iinc (v := 4) (lv' := [(3, .int 4), (1, .long (-7773104586197868813)), (0, .ref mm)]) hx hb dX10_digest_109 hl (k := 1) rfl (by decide) (by decide) rfl (fun ls hl => ?_)
  refine lv_goto (tgt := 87) hx hb dX10_digest_112 (by decide) ?_
  refine lv_iload_n hx hb dX10_digest_87 rfl (lv_at hl 0 rfl) ?_
  refine lv_iconst (v := 5) hx hb dX10_digest_88 (by decide) ?_
  refine lv_icmp_ge (tgt := 115) hx hb dX10_digest_89 (by decide) (fun c9 => absurd c9 (show ¬ ((5 : Int32) ≤ (4 : Int32)) from (by decide))) (fun _ => ?_)
  refine lv_lload_n hx hb dX10_digest_92 rfl (lv_at hl 1 rfl) ?_
  refine lv_ldc2 hx hb (v := 31) hown (hts (.constantLong RX10 252 (31)) (by decide +kernel)) dX10_digest_93 ?_
  refine lv_lmul hx hb dX10_digest_96 ?_
  refine lv_tol (y := (-1158569213909762195)) (by decide +kernel) ?_
  refine lv_aload_n hx hb dX10_digest_97 rfl (lv_at hl 2 rfl) ?_
  refine va_get (D := D) (ci := 10) (v := .ref w) (C := RX10) (T := TX10) (N := 2) hx hb hts in10 hown hK hP 0 rfl rfl 0 (by decide) (hts (.fieldLink RX10 16 "GranaryModel" "w" "LGranaryModel$World;") (by decide +kernel)) (fun _ h9 => h9) rfl dX10_digest_98 ?_
  refine va_get (D := D) (ci := 9) (v := .ref b35) (C := RX9) (T := TX9) (N := 36) hx hb hts in9 hown hK hP 1 rfl rfl 35 (by decide) (hts (.fieldLink RX10 88 "GranaryModel$World" "account" "[I") (by decide +kernel)) (fun _ h9 => h9) rfl dX10_digest_101 ?_
  refine lv_iload_n hx hb dX10_digest_104 rfl (lv_at hl 0 rfl) ?_
  refine va_iald hx hb hK hP 2 0 rfl rfl (by unfold vp_in; decide) dX10_digest_105 ?_
  refine lv_toi (y := 0) rfl ?_
  refine lv_i2l (v := 0) hx hb dX10_digest_106 (by decide) ?_
  refine lv_ladd hx hb dX10_digest_107 ?_
  refine lv_tol (y := (-1158569213909762195)) (by decide +kernel) ?_
  refine lv_lstore_n (lv' := [(1, .long (-1158569213909762195)), (3, .int 4), (0, .ref mm)]) hx hb dX10_digest_108 rfl hl (by decide) rfl (fun ls hl => ?_)
  refine lv_iinc (v := 5) (lv' := [(3, .int 5), (1, .long (-1158569213909762195)), (0, .ref mm)]) hx hb dX10_digest_109 hl (k := 1) rfl (by decide) (by decide) rfl (fun ls hl => ?_)
  refine lv_goto (tgt := 87) hx hb dX10_digest_112 (by decide) ?_
  refine lv_iload_n hx hb dX10_digest_87 rfl (lv_at hl 0 rfl) ?_
  refine lv_iconst (v := 5) hx hb dX10_digest_88 (by decide) ?_
  refine lv_icmp_ge (tgt := 115) hx hb dX10_digest_89 (by decide) (fun _ => ?_) (fun c9 => absurd (show (5 : Int32) ≤ (5 : Int32) from (by decide)) c9)
  refine lv_iconst (v := 0) hx hb dX10_digest_115 (by decide) ?_
  refine lv_istore_n (lv' := [(3, .int 0), (1, .long (-1158569213909762195)), (0, .ref mm)]) hx hb dX10_digest_116 rfl hl (by decide) rfl (fun ls hl => ?_)
  refine lv_iload_n hx hb dX10_digest_117 rfl (lv_at hl 0 rfl) ?_
  refine lv_aload_n hx hb dX10_digest_118 rfl (lv_at hl 2 rfl) ?_
  refine va_get (D := D) (ci := 10) (v := .ref w) (C := RX10) (T := TX10) (N := 2) hx hb hts in10 hown hK hP 0 rfl rfl 0 (by decide) (hts (.fieldLink RX10 16 "GranaryModel" "w" "LGranaryModel$World;") (by decide +kernel)) (fun _ h9 => h9) rfl dX10_digest_119 ?_
  refine va_get (D := D) (ci := 9) (v := .int 0) (C := RX9) (T := TX9) (N := 36) hx hb hts in9 hown hK hP 1 rfl rfl 13 (by decide) (hts (.fieldLink RX10 82 "GranaryModel$World" "lots" "I") (by decide +kernel)) (fun _ h9 => h9) rfl dX10_digest_122 ?_
  refine lv_icmp_ge (tgt := 164) hx hb dX10_digest_125 (by decide) (fun _ => ?_) (fun c9 => absurd (show (0 : Int32) ≤ (0 : Int32) from (by decide)) c9)
  refine lv_iconst (v := 0) hx hb dX10_digest_164 (by decide) ?_
  refine lv_istore_n (lv' := [(3, .int 0), (1, .long (-1158569213909762195)), (0, .ref mm)]) hx hb dX10_digest_165 rfl hl (by decide) rfl (fun ls hl => ?_)
  refine lv_iload_n hx hb dX10_digest_166 rfl (lv_at hl 0 rfl) ?_
  refine lv_aload_n hx hb dX10_digest_167 rfl (lv_at hl 2 rfl) ?_
  refine va_get (D := D) (ci := 10) (v := .ref w) (C := RX10) (T := TX10) (N := 2) hx hb hts in10 hown hK hP 0 rfl rfl 0 (by decide) (hts (.fieldLink RX10 16 "GranaryModel" "w" "LGranaryModel$World;") (by decide +kernel)) (fun _ h9 => h9) rfl dX10_digest_168 ?_
  refine va_get (D := D) (ci := 9) (v := .int 0) (C := RX9) (T := TX9) (N := 36) hx hb hts in9 hown hK hP 1 rfl rfl 18 (by decide) (hts (.fieldLink RX10 98 "GranaryModel$World" "orders" "I") (by decide +kernel)) (fun _ h9 => h9) rfl dX10_digest_171 ?_
  refine lv_icmp_ge (tgt := 285) hx hb dX10_digest_174 (by decide) (fun _ => ?_) (fun c9 => absurd (show (0 : Int32) ≤ (0 : Int32) from (by decide)) c9)
  refine lv_iconst (v := 0) hx hb dX10_digest_285 (by decide) ?_
  refine lv_istore_n (lv' := [(3, .int 0), (1, .long (-1158569213909762195)), (0, .ref mm)]) hx hb dX10_digest_286 rfl hl (by decide) rfl (fun ls hl => ?_)
  refine lv_iload_n hx hb dX10_digest_287 rfl (lv_at hl 0 rfl) ?_
  refine lv_aload_n hx hb dX10_digest_288 rfl (lv_at hl 2 rfl) ?_
  refine va_get (D := D) (ci := 10) (v := .ref w) (C := RX10) (T := TX10) (N := 2) hx hb hts in10 hown hK hP 0 rfl rfl 0 (by decide) (hts (.fieldLink RX10 16 "GranaryModel" "w" "LGranaryModel$World;") (by decide +kernel)) (fun _ h9 => h9) rfl dX10_digest_289 ?_
  refine va_get (D := D) (ci := 9) (v := .int 0) (C := RX9) (T := TX9) (N := 36) hx hb hts in9 hown hK hP 1 rfl rfl 28 (by decide) (hts (.fieldLink RX10 158 "GranaryModel$World" "transports" "I") (by decide +kernel)) (fun _ h9 => h9) rfl dX10_digest_292 ?_
  refine lv_icmp_ge (tgt := 335) hx hb dX10_digest_295 (by decide) (fun _ => ?_) (fun c9 => absurd (show (0 : Int32) ≤ (0 : Int32) from (by decide)) c9)
  refine lv_iconst (v := 0) hx hb dX10_digest_335 (by decide) ?_
  refine lv_istore_n (lv' := [(3, .int 0), (1, .long (-1158569213909762195)), (0, .ref mm)]) hx hb dX10_digest_336 rfl hl (by decide) rfl (fun ls hl => ?_)
  refine lv_iload_n hx hb dX10_digest_337 rfl (lv_at hl 0 rfl) ?_
  refine lv_aload_n hx hb dX10_digest_338 rfl (lv_at hl 2 rfl) ?_
  refine va_get (D := D) (ci := 10) (v := .ref w) (C := RX10) (T := TX10) (N := 2) hx hb hts in10 hown hK hP 0 rfl rfl 0 (by decide) (hts (.fieldLink RX10 16 "GranaryModel" "w" "LGranaryModel$World;") (by decide +kernel)) (fun _ h9 => h9) rfl dX10_digest_339 ?_
  refine va_get (D := D) (ci := 9) (v := .int 0) (C := RX9) (T := TX9) (N := 36) hx hb hts in9 hown hK hP 1 rfl rfl 6 (by decide) (hts (.fieldLink RX10 33 "GranaryModel$World" "sites" "I") (by decide +kernel)) (fun _ h9 => h9) rfl dX10_digest_342 ?_
  refine lv_icmp_ge (tgt := 397) hx hb dX10_digest_345 (by decide) (fun _ => ?_) (fun c9 => absurd (show (0 : Int32) ≤ (0 : Int32) from (by decide)) c9)
  refine lv_iconst (v := 0) hx hb dX10_digest_397 (by decide) ?_
  refine lv_istore_n (lv' := [(3, .int 0), (1, .long (-1158569213909762195)), (0, .ref mm)]) hx hb dX10_digest_398 rfl hl (by decide) rfl (fun ls hl => ?_)
  refine lv_iload_n hx hb dX10_digest_399 rfl (lv_at hl 0 rfl) ?_
  refine lv_aload_n hx hb dX10_digest_400 rfl (lv_at hl 2 rfl) ?_
  refine va_get (D := D) (ci := 10) (v := .ref w) (C := RX10) (T := TX10) (N := 2) hx hb hts in10 hown hK hP 0 rfl rfl 0 (by decide) (hts (.fieldLink RX10 16 "GranaryModel" "w" "LGranaryModel$World;") (by decide +kernel)) (fun _ h9 => h9) rfl dX10_digest_401 ?_
  refine va_get (D := D) (ci := 9) (v := .int 0) (C := RX9) (T := TX9) (N := 36) hx hb hts in9 hown hK hP 1 rfl rfl 1 (by decide) (hts (.fieldLink RX10 26 "GranaryModel$World" "items" "I") (by decide +kernel)) (fun _ h9 => h9) rfl dX10_digest_404 ?_
  refine lv_icmp_ge (tgt := 584) hx hb dX10_digest_407 (by decide) (fun _ => ?_) (fun c9 => absurd (show (0 : Int32) ≤ (0 : Int32) from (by decide)) c9)
  refine lv_iconst (v := 0) hx hb dX10_digest_584 (by decide) ?_
  refine lv_istore_n (lv' := [(3, .int 0), (1, .long (-1158569213909762195)), (0, .ref mm)]) hx hb dX10_digest_585 rfl hl (by decide) rfl (fun ls hl => ?_)
  refine lv_iload_n hx hb dX10_digest_586 rfl (lv_at hl 0 rfl) ?_
  refine lv_aload_n hx hb dX10_digest_587 rfl (lv_at hl 2 rfl) ?_
  refine va_get (D := D) (ci := 10) (v := .ref w) (C := RX10) (T := TX10) (N := 2) hx hb hts in10 hown hK hP 0 rfl rfl 0 (by decide) (hts (.fieldLink RX10 16 "GranaryModel" "w" "LGranaryModel$World;") (by decide +kernel)) (fun _ h9 => h9) rfl dX10_digest_588 ?_
  refine va_get (D := D) (ci := 9) (v := .int 0) (C := RX9) (T := TX9) (N := 36) hx hb hts in9 hown hK hP 1 rfl rfl 1 (by decide) (hts (.fieldLink RX10 26 "GranaryModel$World" "items" "I") (by decide +kernel)) (fun _ h9 => h9) rfl dX10_digest_591 ?_
  refine lv_icmp_ge (tgt := 696) hx hb dX10_digest_594 (by decide) (fun _ => ?_) (fun c9 => absurd (show (0 : Int32) ≤ (0 : Int32) from (by decide)) c9)
  refine lv_iconst (v := 0) hx hb dX10_digest_696 (by decide) ?_
  refine lv_istore_n (lv' := [(3, .int 0), (1, .long (-1158569213909762195)), (0, .ref mm)]) hx hb dX10_digest_697 rfl hl (by decide) rfl (fun ls hl => ?_)
  refine lv_iload_n hx hb dX10_digest_698 rfl (lv_at hl 0 rfl) ?_
  refine lv_aload_n hx hb dX10_digest_699 rfl (lv_at hl 2 rfl) ?_
  refine va_get (D := D) (ci := 10) (v := .ref w) (C := RX10) (T := TX10) (N := 2) hx hb hts in10 hown hK hP 0 rfl rfl 0 (by decide) (hts (.fieldLink RX10 16 "GranaryModel" "w" "LGranaryModel$World;") (by decide +kernel)) (fun _ h9 => h9) rfl dX10_digest_700 ?_
  refine va_get (D := D) (ci := 9) (v := .int 0) (C := RX9) (T := TX9) (N := 36) hx hb hts in9 hown hK hP 1 rfl rfl 6 (by decide) (hts (.fieldLink RX10 33 "GranaryModel$World" "sites" "I") (by decide +kernel)) (fun _ h9 => h9) rfl dX10_digest_703 ?_
  refine lv_icmp_ge (tgt := 731) hx hb dX10_digest_706 (by decide) (fun _ => ?_) (fun c9 => absurd (show (0 : Int32) ≤ (0 : Int32) from (by decide)) c9)
  refine lv_lload_n hx hb dX10_digest_731 rfl (lv_at hl 1 rfl) ?_
  refine W.widen (k := 0) (n := 0) (by omega) (by omega) ?_
  exact W.lret (v := (-1158569213909762195)) hx hb hr (fun t ht hW => ⟨⟨(-1158569213909762195), (), rfl, rfl, trivial⟩, hS.F ht⟩) hS.2.2 dX10_digest_732

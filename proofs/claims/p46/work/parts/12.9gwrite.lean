/-- the same numbers; the flags may have changed -/
def sg_KZ (P Q : sg_Pic) : Prop := P 0 = Q 0 ∧ (sg_W Q → sg_W P)
theorem sg_KZ.W {P Q : sg_Pic} (h : sg_KZ P Q) (hw : sg_W Q) : sg_W P := h.2 hw
theorem sg_KZ.e {P Q : sg_Pic} (h : sg_KZ P Q) (k : Nat) : P 0 k = Q 0 k := by rw [h.1]
theorem sg_KZ.of {P Q : sg_Pic} (h : sg_K P Q) : sg_KZ P Q := ⟨h.1, h.W⟩
theorem sg_KZ.trans {P Q R : sg_Pic} (h : sg_KZ P Q) (g : sg_KZ Q R) : sg_KZ P R := ⟨h.1.trans g.1, fun w => h.2 (g.2 w)⟩
theorem sg_KZ.z {P : sg_Pic} (j : Nat) {v : Int32} (hv : v = 0 ∨ v = 1) : sg_KZ (sg_up P 30 j v) P := by
  refine ⟨rfl, fun hw => ⟨hw.1, hw.2.1, hw.2.2.1, hw.2.2.2.1, hw.2.2.2.2.1, fun k => ?_⟩⟩
  show upd (P 30) j v k = 0 ∨ upd (P 30) j v k = 1
  by_cases e : k = j
  · subst e
    rw [pk_us]
    exact hv
  · rw [pk_un e]
    exact hw.z k

def sg_iadd_r (P : sg_Pic) (x : Int32) (y : Int32) (z : Int32) : Int32 := (if (P 0 1) < 6 then (((P 0 1) + 1) - 1) else (-1))

def sg_iadd (P : sg_Pic) (x : Int32) (y : Int32) (z : Int32) : sg_Pic := (if (P 0 1) < 6 then (sg_up (sg_up (sg_up (sg_up (sg_up P 10 (sg_cn P 1) x) 11 (sg_cn P 1) y) 12 (sg_cn P 1) z) 13 (sg_cn P 1) 0) 0 1 ((P 0 1) + 1)) else P)

set_option maxHeartbeats 4000000 in
set_option maxRecDepth 100000 in
/-- X0_add -/
theorem c_iadd (l : Launch) (D : va_G) (cI cZ cJ : ClassId) (lo sz : Nat) (a : Nat → Nat) (P : sg_Pic) (q : Nat → Int32) (x : Int32) (y : Int32) (z : Int32) (hw : sg_W P) : Met l yX0_add wsX0_add ({ frames := 0, cells := 0, slots := 0, locals := 0 }) (Pre lo D cI cZ cJ [.ref (a 1), .int x, .int y, .int z] sz (sg_St cI cZ a P q)) (va_Qi (fun (r : Int32) (_ : Unit) => r = sg_iadd_r P x y z) (fun _ t => va_P D vwCl (sg_St cI cZ a (sg_iadd P x y z) q) t.heap ∧ va_D (va_A (sg_St cI cZ a P q) sz) (sg_St cI cZ a (sg_iadd P x y z) q)) (va_A (sg_St cI cZ a P q) sz)) 0 0 (va_A (sg_St cI cZ a P q) sz) := by
  refine Met.ofW (cc := cX0_add) (maxL := 4) (ret := (some .int)) (by decide) rfl ?_
  intro p e s m args below meth c s₁ B hml hv
  obtain ⟨rfl, hsz, hP, hD0, hC⟩ := hv
  have hx := B.exec
  have hb := B.bytes
  have hr := B.returns
  have hts := atoms_spec (ws := wsX0_add) B.pre
  have hown : s.vm.findClass RX0 = some m.cls := findClass_of_methodNamed B.named
  have hlocks := B.notSynchronized
  subst hsz
  have hn1 : sg_cn P 1 ≤ 6 := hw.n1
  have hn2 : sg_cn P 2 ≤ 5 := hw.n2
  have hn3 : sg_cn P 3 ≤ 200 := hw.n3
  have hn4 : sg_cn P 4 ≤ 60 := hw.n4
  have hn5 : sg_cn P 5 ≤ 90 := hw.n5
  have hK := hC.K
  have hD := hD0.self (sz := s.heap.size)
  have hAlo0 := va_A_lo hD0 hC.1
  generalize hAe : va_A (sg_St cI cZ a P q) s.heap.size = A at hD hAlo0 ⊢
  have hA : ∀ q : Nat, s.heap.size ≤ q → A q := fun q h => by rw [← hAe]; exact Or.inr h
  have hAlo : ∀ q, A q → lo ≤ q := hAlo0
  have hS : va_S A s.heap s.heap [] := va_S.rf
  have hP : va_P D vwCl (sg_St cI cZ a P q) s.heap := hP
  have hl := lv_entry ([.ref (a 1), .int x, .int y, .int z]) (n := 4) (Nat.le_of_ble_eq_true rfl)
  rw [lg_entry_eq]
  generalize (lg_sl ([.ref (a 1), .int x, .int y, .int z]) ++ List.replicate (4 - (lg_sl ([.ref (a 1), .int x, .int y, .int z])).length) Slot.unset).toArray = ls at hl ⊢
  have hl : lv_has ls 4 [(0, .ref (a 1)), (1, .int x), (2, .int y), (3, .int z)] := hl
  have in0 : ∀ w ∈ u_ws RX0 TX0 5, w ∈ wsX0_add := by decide +kernel
  refine lv_aload_n hx hb dX0_add_0 rfl (lv_at hl 0 rfl) ?_
  refine va_get (D := D) (ci := 0) (v := .int (P 0 1)) (C := RX0) (T := TX0) (N := 5) hx hb hts in0 hown hK hP 1 rfl rfl 0 (by decide) (hts (.fieldLink RX0 24 "Granary$Items" "count" "I") (by decide +kernel)) (fun _ h9 => h9) rfl dX0_add_1 ?_
  refine lv_bipush (v := 6) hx hb dX0_add_4 (by decide) ?_
  refine lv_icmp_lt (tgt := 11) hx hb dX0_add_6 (by decide) (fun c_1 => ?_) (fun c_1 => ?_)
  · have l9 : sg_cn P 1 < 6 := sg_ltl (M := 6) hw.e1 (by omega) (by decide) c_1
    refine lv_aload_n hx hb dX0_add_11 rfl (lv_at hl 0 rfl) ?_
    refine va_get (D := D) (ci := 0) (v := .ref (a 10)) (C := RX0) (T := TX0) (N := 5) hx hb hts in0 hown hK hP 1 rfl rfl 1 (by decide) (hts (.fieldLink RX0 9 "Granary$Items" "life" "[I") (by decide +kernel)) (fun _ h9 => h9) rfl dX0_add_12 ?_
    refine lv_aload_n hx hb dX0_add_15 rfl (lv_at hl 0 rfl) ?_
    refine va_get (D := D) (ci := 0) (v := .int (P 0 1)) (C := RX0) (T := TX0) (N := 5) hx hb hts in0 hown hK hP 1 rfl rfl 0 (by decide) (hts (.fieldLink RX0 24 "Granary$Items" "count" "I") (by decide +kernel)) (fun _ h9 => h9) rfl dX0_add_16 ?_
    refine lv_iload_n hx hb dX0_add_19 rfl (lv_at hl 1 rfl) ?_
    refine sg_iast hx hb hK hP hD hS 7 0 rfl rfl (j := sg_cn P 1) hw.e1 (by omega) (Nat.le_of_ble_eq_true rfl) dX0_add_20 (fun H locs hP hD hS => ?_)
    replace hP : va_P D vwCl (sg_St cI cZ a (sg_up P 10 (sg_cn P 1) x) q) H := hP
    replace hD : va_D A (sg_St cI cZ a (sg_up P 10 (sg_cn P 1) x) q) := hD
    refine lv_aload_n hx hb dX0_add_21 rfl (lv_at hl 0 rfl) ?_
    refine va_get (D := D) (ci := 0) (v := .ref (a 11)) (C := RX0) (T := TX0) (N := 5) hx hb hts in0 hown hK hP 1 rfl rfl 2 (by decide) (hts (.fieldLink RX0 15 "Granary$Items" "price" "[I") (by decide +kernel)) (fun _ h9 => h9) rfl dX0_add_22 ?_
    refine lv_aload_n hx hb dX0_add_25 rfl (lv_at hl 0 rfl) ?_
    refine va_get (D := D) (ci := 0) (v := .int ((sg_up P 10 (sg_cn P 1) x) 0 1)) (C := RX0) (T := TX0) (N := 5) hx hb hts in0 hown hK hP 1 rfl rfl 0 (by decide) (hts (.fieldLink RX0 24 "Granary$Items" "count" "I") (by decide +kernel)) (fun _ h9 => h9) rfl dX0_add_26 ?_
    refine lv_toi (y := P 0 1) rfl ?_
    refine lv_iload_n hx hb dX0_add_29 rfl (lv_at hl 2 rfl) ?_
    refine sg_iast hx hb hK hP hD hS 8 0 rfl rfl (j := sg_cn P 1) hw.e1 (by omega) (Nat.le_of_ble_eq_true rfl) dX0_add_30 (fun H locs hP hD hS => ?_)
    replace hP : va_P D vwCl (sg_St cI cZ a (sg_up (sg_up P 10 (sg_cn P 1) x) 11 (sg_cn P 1) y) q) H := hP
    replace hD : va_D A (sg_St cI cZ a (sg_up (sg_up P 10 (sg_cn P 1) x) 11 (sg_cn P 1) y) q) := hD
    refine lv_aload_n hx hb dX0_add_31 rfl (lv_at hl 0 rfl) ?_
    refine va_get (D := D) (ci := 0) (v := .ref (a 12)) (C := RX0) (T := TX0) (N := 5) hx hb hts in0 hown hK hP 1 rfl rfl 3 (by decide) (hts (.fieldLink RX0 18 "Granary$Items" "pack" "[I") (by decide +kernel)) (fun _ h9 => h9) rfl dX0_add_32 ?_
    refine lv_aload_n hx hb dX0_add_35 rfl (lv_at hl 0 rfl) ?_
    refine va_get (D := D) (ci := 0) (v := .int ((sg_up (sg_up P 10 (sg_cn P 1) x) 11 (sg_cn P 1) y) 0 1)) (C := RX0) (T := TX0) (N := 5) hx hb hts in0 hown hK hP 1 rfl rfl 0 (by decide) (hts (.fieldLink RX0 24 "Granary$Items" "count" "I") (by decide +kernel)) (fun _ h9 => h9) rfl dX0_add_36 ?_
    refine lv_toi (y := P 0 1) rfl ?_
    refine lv_iload_n hx hb dX0_add_39 rfl (lv_at hl 3 rfl) ?_
    refine sg_iast hx hb hK hP hD hS 9 0 rfl rfl (j := sg_cn P 1) hw.e1 (by omega) (Nat.le_of_ble_eq_true rfl) dX0_add_40 (fun H locs hP hD hS => ?_)
    replace hP : va_P D vwCl (sg_St cI cZ a (sg_up (sg_up (sg_up P 10 (sg_cn P 1) x) 11 (sg_cn P 1) y) 12 (sg_cn P 1) z) q) H := hP
    replace hD : va_D A (sg_St cI cZ a (sg_up (sg_up (sg_up P 10 (sg_cn P 1) x) 11 (sg_cn P 1) y) 12 (sg_cn P 1) z) q) := hD
    refine lv_aload_n hx hb dX0_add_41 rfl (lv_at hl 0 rfl) ?_
    refine va_get (D := D) (ci := 0) (v := .ref (a 13)) (C := RX0) (T := TX0) (N := 5) hx hb hts in0 hown hK hP 1 rfl rfl 4 (by decide) (hts (.fieldLink RX0 21 "Granary$Items" "earned" "[I") (by decide +kernel)) (fun _ h9 => h9) rfl dX0_add_42 ?_
    refine lv_aload_n hx hb dX0_add_45 rfl (lv_at hl 0 rfl) ?_
    refine va_get (D := D) (ci := 0) (v := .int ((sg_up (sg_up (sg_up P 10 (sg_cn P 1) x) 11 (sg_cn P 1) y) 12 (sg_cn P 1) z) 0 1)) (C := RX0) (T := TX0) (N := 5) hx hb hts in0 hown hK hP 1 rfl rfl 0 (by decide) (hts (.fieldLink RX0 24 "Granary$Items" "count" "I") (by decide +kernel)) (fun _ h9 => h9) rfl dX0_add_46 ?_
    refine lv_toi (y := P 0 1) rfl ?_
    refine lv_iconst (v := 0) hx hb dX0_add_49 (by decide) ?_
    refine sg_iast hx hb hK hP hD hS 10 0 rfl rfl (j := sg_cn P 1) hw.e1 (by omega) (Nat.le_of_ble_eq_true rfl) dX0_add_50 (fun H locs hP hD hS => ?_)
    replace hP : va_P D vwCl (sg_St cI cZ a (sg_up (sg_up (sg_up (sg_up P 10 (sg_cn P 1) x) 11 (sg_cn P 1) y) 12 (sg_cn P 1) z) 13 (sg_cn P 1) 0) q) H := hP
    replace hD : va_D A (sg_St cI cZ a (sg_up (sg_up (sg_up (sg_up P 10 (sg_cn P 1) x) 11 (sg_cn P 1) y) 12 (sg_cn P 1) z) 13 (sg_cn P 1) 0) q) := hD
    refine lv_aload_n hx hb dX0_add_51 rfl (lv_at hl 0 rfl) ?_
    refine lv_dup hx hb dX0_add_52 rfl ?_
    refine va_get (D := D) (ci := 0) (v := .int ((sg_up (sg_up (sg_up (sg_up P 10 (sg_cn P 1) x) 11 (sg_cn P 1) y) 12 (sg_cn P 1) z) 13 (sg_cn P 1) 0) 0 1)) (C := RX0) (T := TX0) (N := 5) hx hb hts in0 hown hK hP 1 rfl rfl 0 (by decide) (hts (.fieldLink RX0 24 "Granary$Items" "count" "I") (by decide +kernel)) (fun _ h9 => h9) rfl dX0_add_53 ?_
    refine lv_toi (y := P 0 1) rfl ?_
    refine lv_iconst (v := 1) hx hb dX0_add_56 (by decide) ?_
    refine lv_iadd hx hb dX0_add_57 ?_
    refine va_put (D := D) (ci := 0) (v := .int ((P 0 1) + 1)) (ty := .int) (C := RX0) (T := TX0) (N := 5) hx hb hts in0 tyX0 tyX0_ok nmX0 hown hK hP hD hS 1 rfl rfl 0 (by decide) (hts (.fieldLink RX0 24 "Granary$Items" "count" "I") (by decide +kernel)) (fun _ h9 => h9) rfl (by decide +kernel) rfl rfl (Nat.le_of_ble_eq_true rfl) dX0_add_58 (fun H locs hP hD hS => ?_)
    replace hP : va_P D vwCl (sg_St cI cZ a (sg_up (sg_up (sg_up (sg_up (sg_up P 10 (sg_cn P 1) x) 11 (sg_cn P 1) y) 12 (sg_cn P 1) z) 13 (sg_cn P 1) 0) 0 1 ((P 0 1) + 1)) q) H := hP
    replace hD : va_D A (sg_St cI cZ a (sg_up (sg_up (sg_up (sg_up (sg_up P 10 (sg_cn P 1) x) 11 (sg_cn P 1) y) 12 (sg_cn P 1) z) 13 (sg_cn P 1) 0) 0 1 ((P 0 1) + 1)) q) := hD
    refine lv_aload_n hx hb dX0_add_61 rfl (lv_at hl 0 rfl) ?_
    refine va_get (D := D) (ci := 0) (v := .int ((sg_up (sg_up (sg_up (sg_up (sg_up P 10 (sg_cn P 1) x) 11 (sg_cn P 1) y) 12 (sg_cn P 1) z) 13 (sg_cn P 1) 0) 0 1 ((P 0 1) + 1)) 0 1)) (C := RX0) (T := TX0) (N := 5) hx hb hts in0 hown hK hP 1 rfl rfl 0 (by decide) (hts (.fieldLink RX0 24 "Granary$Items" "count" "I") (by decide +kernel)) (fun _ h9 => h9) rfl dX0_add_62 ?_
    refine lv_toi (y := (P 0 1) + 1) rfl ?_
    refine lv_iconst (v := 1) hx hb dX0_add_65 (by decide) ?_
    refine lv_isub hx hb dX0_add_66 ?_
    refine W.widen (k := 0) (n := 0) (by omega) (by omega) ?_
    have e9 : sg_iadd P x y z = sg_up (sg_up (sg_up (sg_up (sg_up P 10 (sg_cn P 1) x) 11 (sg_cn P 1) y) 12 (sg_cn P 1) z) 13 (sg_cn P 1) 0) 0 1 ((P 0 1) + 1) := by rw [sg_iadd, if_pos c_1]
    have hP9 : va_P D vwCl (sg_St cI cZ a (sg_iadd P x y z) q) H := by rw [e9]; exact hP
    have hD9 : va_D A (sg_St cI cZ a (sg_iadd P x y z) q) := by rw [e9]; exact hD
    exact W.iret (v := (((P 0 1) + 1) - 1)) hx hb hr (fun t ht hW => ⟨⟨(((P 0 1) + 1) - 1), (), rfl, (show (((P 0 1) + 1) - 1 : Int32) = sg_iadd_r P x y z from by rw [sg_iadd_r, if_pos c_1]), by rw [ht]; exact hP9, hD9⟩, hS.F ht⟩) hS.2.2 dX0_add_67
  · refine lv_iconst (v := (-1)) hx hb dX0_add_9 (by decide) ?_
    refine W.widen (k := 0) (n := 0) (by omega) (by omega) ?_
    have e9 : sg_iadd P x y z = P := by rw [sg_iadd, if_neg c_1]
    have hP9 : va_P D vwCl (sg_St cI cZ a (sg_iadd P x y z) q) s.heap := by rw [e9]; exact hP
    have hD9 : va_D A (sg_St cI cZ a (sg_iadd P x y z) q) := by rw [e9]; exact hD
    exact W.iret (v := (-1)) hx hb hr (fun t ht hW => ⟨⟨(-1), (), rfl, (show ((-1) : Int32) = sg_iadd_r P x y z from by rw [sg_iadd_r, if_neg c_1]), by rw [ht]; exact hP9, hD9⟩, hS.F ht⟩) hS.2.2 dX0_add_10

def sg_sadd_r (P : sg_Pic) (x : Int32) : Int32 := (if (P 0 2) < 5 then (((P 0 2) + 1) - 1) else (-1))

def sg_sadd (P : sg_Pic) (x : Int32) : sg_Pic := (if (P 0 2) < 5 then (sg_up (sg_up P 20 (sg_cn P 2) x) 0 2 ((P 0 2) + 1)) else P)

set_option maxHeartbeats 4000000 in
set_option maxRecDepth 100000 in
/-- X5_add -/
theorem c_sadd (l : Launch) (D : va_G) (cI cZ cJ : ClassId) (lo sz : Nat) (a : Nat → Nat) (P : sg_Pic) (q : Nat → Int32) (x : Int32) (hw : sg_W P) : Met l yX5_add wsX5_add ({ frames := 0, cells := 0, slots := 0, locals := 0 }) (Pre lo D cI cZ cJ [.ref (a 2), .int x] sz (sg_St cI cZ a P q)) (va_Qi (fun (r : Int32) (_ : Unit) => r = sg_sadd_r P x) (fun _ t => va_P D vwCl (sg_St cI cZ a (sg_sadd P x) q) t.heap ∧ va_D (va_A (sg_St cI cZ a P q) sz) (sg_St cI cZ a (sg_sadd P x) q)) (va_A (sg_St cI cZ a P q) sz)) 0 0 (va_A (sg_St cI cZ a P q) sz) := by
  refine Met.ofW (cc := cX5_add) (maxL := 2) (ret := (some .int)) (by decide) rfl ?_
  intro p e s m args below meth c s₁ B hml hv
  obtain ⟨rfl, hsz, hP, hD0, hC⟩ := hv
  have hx := B.exec
  have hb := B.bytes
  have hr := B.returns
  have hts := atoms_spec (ws := wsX5_add) B.pre
  have hown : s.vm.findClass RX5 = some m.cls := findClass_of_methodNamed B.named
  have hlocks := B.notSynchronized
  subst hsz
  have hn1 : sg_cn P 1 ≤ 6 := hw.n1
  have hn2 : sg_cn P 2 ≤ 5 := hw.n2
  have hn3 : sg_cn P 3 ≤ 200 := hw.n3
  have hn4 : sg_cn P 4 ≤ 60 := hw.n4
  have hn5 : sg_cn P 5 ≤ 90 := hw.n5
  have hK := hC.K
  have hD := hD0.self (sz := s.heap.size)
  have hAlo0 := va_A_lo hD0 hC.1
  generalize hAe : va_A (sg_St cI cZ a P q) s.heap.size = A at hD hAlo0 ⊢
  have hA : ∀ q : Nat, s.heap.size ≤ q → A q := fun q h => by rw [← hAe]; exact Or.inr h
  have hAlo : ∀ q, A q → lo ≤ q := hAlo0
  have hS : va_S A s.heap s.heap [] := va_S.rf
  have hP : va_P D vwCl (sg_St cI cZ a P q) s.heap := hP
  have hl := lv_entry ([.ref (a 2), .int x]) (n := 2) (Nat.le_of_ble_eq_true rfl)
  rw [lg_entry_eq]
  generalize (lg_sl ([.ref (a 2), .int x]) ++ List.replicate (2 - (lg_sl ([.ref (a 2), .int x])).length) Slot.unset).toArray = ls at hl ⊢
  have hl : lv_has ls 2 [(0, .ref (a 2)), (1, .int x)] := hl
  have in5 : ∀ w ∈ u_ws RX5 TX5 3, w ∈ wsX5_add := by decide +kernel
  refine lv_aload_n hx hb dX5_add_0 rfl (lv_at hl 0 rfl) ?_
  refine va_get (D := D) (ci := 5) (v := .int (P 0 2)) (C := RX5) (T := TX5) (N := 3) hx hb hts in5 hown hK hP 2 rfl rfl 0 (by decide) (hts (.fieldLink RX5 18 "Granary$Sites" "count" "I") (by decide +kernel)) (fun _ h9 => h9) rfl dX5_add_1 ?_
  refine lv_iconst (v := 5) hx hb dX5_add_4 (by decide) ?_
  refine lv_icmp_lt (tgt := 10) hx hb dX5_add_5 (by decide) (fun c_1 => ?_) (fun c_1 => ?_)
  · have l9 : sg_cn P 2 < 5 := sg_ltl (M := 5) hw.e2 (by omega) (by decide) c_1
    refine lv_aload_n hx hb dX5_add_10 rfl (lv_at hl 0 rfl) ?_
    refine va_get (D := D) (ci := 5) (v := .ref (a 20)) (C := RX5) (T := TX5) (N := 3) hx hb hts in5 hown hK hP 2 rfl rfl 1 (by decide) (hts (.fieldLink RX5 9 "Granary$Sites" "room" "[I") (by decide +kernel)) (fun _ h9 => h9) rfl dX5_add_11 ?_
    refine lv_aload_n hx hb dX5_add_14 rfl (lv_at hl 0 rfl) ?_
    refine va_get (D := D) (ci := 5) (v := .int (P 0 2)) (C := RX5) (T := TX5) (N := 3) hx hb hts in5 hown hK hP 2 rfl rfl 0 (by decide) (hts (.fieldLink RX5 18 "Granary$Sites" "count" "I") (by decide +kernel)) (fun _ h9 => h9) rfl dX5_add_15 ?_
    refine lv_iload_n hx hb dX5_add_18 rfl (lv_at hl 1 rfl) ?_
    refine sg_iast hx hb hK hP hD hS 11 0 rfl rfl (j := sg_cn P 2) hw.e2 (by omega) (Nat.le_of_ble_eq_true rfl) dX5_add_19 (fun H locs hP hD hS => ?_)
    replace hP : va_P D vwCl (sg_St cI cZ a (sg_up P 20 (sg_cn P 2) x) q) H := hP
    replace hD : va_D A (sg_St cI cZ a (sg_up P 20 (sg_cn P 2) x) q) := hD
    refine lv_aload_n hx hb dX5_add_20 rfl (lv_at hl 0 rfl) ?_
    refine lv_dup hx hb dX5_add_21 rfl ?_
    refine va_get (D := D) (ci := 5) (v := .int ((sg_up P 20 (sg_cn P 2) x) 0 2)) (C := RX5) (T := TX5) (N := 3) hx hb hts in5 hown hK hP 2 rfl rfl 0 (by decide) (hts (.fieldLink RX5 18 "Granary$Sites" "count" "I") (by decide +kernel)) (fun _ h9 => h9) rfl dX5_add_22 ?_
    refine lv_toi (y := P 0 2) rfl ?_
    refine lv_iconst (v := 1) hx hb dX5_add_25 (by decide) ?_
    refine lv_iadd hx hb dX5_add_26 ?_
    refine va_put (D := D) (ci := 5) (v := .int ((P 0 2) + 1)) (ty := .int) (C := RX5) (T := TX5) (N := 3) hx hb hts in5 tyX5 tyX5_ok nmX5 hown hK hP hD hS 2 rfl rfl 0 (by decide) (hts (.fieldLink RX5 18 "Granary$Sites" "count" "I") (by decide +kernel)) (fun _ h9 => h9) rfl (by decide +kernel) rfl rfl (Nat.le_of_ble_eq_true rfl) dX5_add_27 (fun H locs hP hD hS => ?_)
    replace hP : va_P D vwCl (sg_St cI cZ a (sg_up (sg_up P 20 (sg_cn P 2) x) 0 2 ((P 0 2) + 1)) q) H := hP
    replace hD : va_D A (sg_St cI cZ a (sg_up (sg_up P 20 (sg_cn P 2) x) 0 2 ((P 0 2) + 1)) q) := hD
    refine lv_aload_n hx hb dX5_add_30 rfl (lv_at hl 0 rfl) ?_
    refine va_get (D := D) (ci := 5) (v := .int ((sg_up (sg_up P 20 (sg_cn P 2) x) 0 2 ((P 0 2) + 1)) 0 2)) (C := RX5) (T := TX5) (N := 3) hx hb hts in5 hown hK hP 2 rfl rfl 0 (by decide) (hts (.fieldLink RX5 18 "Granary$Sites" "count" "I") (by decide +kernel)) (fun _ h9 => h9) rfl dX5_add_31 ?_
    refine lv_toi (y := (P 0 2) + 1) rfl ?_
    refine lv_iconst (v := 1) hx hb dX5_add_34 (by decide) ?_
    refine lv_isub hx hb dX5_add_35 ?_
    refine W.widen (k := 0) (n := 0) (by omega) (by omega) ?_
    have e9 : sg_sadd P x = sg_up (sg_up P 20 (sg_cn P 2) x) 0 2 ((P 0 2) + 1) := by rw [sg_sadd, if_pos c_1]
    have hP9 : va_P D vwCl (sg_St cI cZ a (sg_sadd P x) q) H := by rw [e9]; exact hP
    have hD9 : va_D A (sg_St cI cZ a (sg_sadd P x) q) := by rw [e9]; exact hD
    exact W.iret (v := (((P 0 2) + 1) - 1)) hx hb hr (fun t ht hW => ⟨⟨(((P 0 2) + 1) - 1), (), rfl, (show (((P 0 2) + 1) - 1 : Int32) = sg_sadd_r P x from by rw [sg_sadd_r, if_pos c_1]), by rw [ht]; exact hP9, hD9⟩, hS.F ht⟩) hS.2.2 dX5_add_36
  · refine lv_iconst (v := (-1)) hx hb dX5_add_8 (by decide) ?_
    refine W.widen (k := 0) (n := 0) (by omega) (by omega) ?_
    have e9 : sg_sadd P x = P := by rw [sg_sadd, if_neg c_1]
    have hP9 : va_P D vwCl (sg_St cI cZ a (sg_sadd P x) q) s.heap := by rw [e9]; exact hP
    have hD9 : va_D A (sg_St cI cZ a (sg_sadd P x) q) := by rw [e9]; exact hD
    exact W.iret (v := (-1)) hx hb hr (fun t ht hW => ⟨⟨(-1), (), rfl, (show ((-1) : Int32) = sg_sadd_r P x from by rw [sg_sadd_r, if_neg c_1]), by rw [ht]; exact hP9, hD9⟩, hS.F ht⟩) hS.2.2 dX5_add_9

def sg_oadd_r (P : sg_Pic) (x : Int32) (y : Int32) (z : Int32) (v : Int32) (x5 : Int32) (x6 : Int32) : Int32 := (if (P 0 4) < 60 then (((P 0 4) + 1) - 1) else (-1))

def sg_oadd (P : sg_Pic) (x : Int32) (y : Int32) (z : Int32) (v : Int32) (x5 : Int32) (x6 : Int32) : sg_Pic := (if (P 0 4) < 60 then (sg_up (sg_up (sg_up (sg_up (sg_up (sg_up (sg_up (sg_up (sg_up (sg_up P 50 (sg_cn P 4) x) 51 (sg_cn P 4) y) 52 (sg_cn P 4) z) 53 (sg_cn P 4) 0) 54 (sg_cn P 4) v) 55 (sg_cn P 4) x5) 56 (sg_cn P 4) x6) 57 (sg_cn P 4) 0) 58 (sg_cn P 4) (-1)) 0 4 ((P 0 4) + 1)) else P)

set_option maxHeartbeats 4000000 in
set_option maxRecDepth 100000 in
/-- X2_add -/
theorem c_oadd (l : Launch) (D : va_G) (cI cZ cJ : ClassId) (lo sz : Nat) (a : Nat → Nat) (P : sg_Pic) (q : Nat → Int32) (x : Int32) (y : Int32) (z : Int32) (v : Int32) (x5 : Int32) (x6 : Int32) (hw : sg_W P) : Met l yX2_add wsX2_add ({ frames := 0, cells := 0, slots := 0, locals := 0 }) (Pre lo D cI cZ cJ [.ref (a 5), .int x, .int y, .int z, .int v, .int x5, .int x6] sz (sg_St cI cZ a P q)) (va_Qi (fun (r : Int32) (_ : Unit) => r = sg_oadd_r P x y z v x5 x6) (fun _ t => va_P D vwCl (sg_St cI cZ a (sg_oadd P x y z v x5 x6) q) t.heap ∧ va_D (va_A (sg_St cI cZ a P q) sz) (sg_St cI cZ a (sg_oadd P x y z v x5 x6) q)) (va_A (sg_St cI cZ a P q) sz)) 0 0 (va_A (sg_St cI cZ a P q) sz) := by
  refine Met.ofW (cc := cX2_add) (maxL := 7) (ret := (some .int)) (by decide) rfl ?_
  intro p e s m args below meth c s₁ B hml hv
  obtain ⟨rfl, hsz, hP, hD0, hC⟩ := hv
  have hx := B.exec
  have hb := B.bytes
  have hr := B.returns
  have hts := atoms_spec (ws := wsX2_add) B.pre
  have hown : s.vm.findClass RX2 = some m.cls := findClass_of_methodNamed B.named
  have hlocks := B.notSynchronized
  subst hsz
  have hn1 : sg_cn P 1 ≤ 6 := hw.n1
  have hn2 : sg_cn P 2 ≤ 5 := hw.n2
  have hn3 : sg_cn P 3 ≤ 200 := hw.n3
  have hn4 : sg_cn P 4 ≤ 60 := hw.n4
  have hn5 : sg_cn P 5 ≤ 90 := hw.n5
  have hK := hC.K
  have hD := hD0.self (sz := s.heap.size)
  have hAlo0 := va_A_lo hD0 hC.1
  generalize hAe : va_A (sg_St cI cZ a P q) s.heap.size = A at hD hAlo0 ⊢
  have hA : ∀ q : Nat, s.heap.size ≤ q → A q := fun q h => by rw [← hAe]; exact Or.inr h
  have hAlo : ∀ q, A q → lo ≤ q := hAlo0
  have hS : va_S A s.heap s.heap [] := va_S.rf
  have hP : va_P D vwCl (sg_St cI cZ a P q) s.heap := hP
  have hl := lv_entry ([.ref (a 5), .int x, .int y, .int z, .int v, .int x5, .int x6]) (n := 7) (Nat.le_of_ble_eq_true rfl)
  rw [lg_entry_eq]
  generalize (lg_sl ([.ref (a 5), .int x, .int y, .int z, .int v, .int x5, .int x6]) ++ List.replicate (7 - (lg_sl ([.ref (a 5), .int x, .int y, .int z, .int v, .int x5, .int x6])).length) Slot.unset).toArray = ls at hl ⊢
  have hl : lv_has ls 7 [(0, .ref (a 5)), (1, .int x), (2, .int y), (3, .int z), (4, .int v), (5, .int x5), (6, .int x6)] := hl
  have in2 : ∀ w ∈ u_ws RX2 TX2 11, w ∈ wsX2_add := by decide +kernel
  refine lv_aload_n hx hb dX2_add_0 rfl (lv_at hl 0 rfl) ?_
  refine va_get (D := D) (ci := 2) (v := .int (P 0 4)) (C := RX2) (T := TX2) (N := 11) hx hb hts in2 hown hK hP 5 rfl rfl 0 (by decide) (hts (.fieldLink RX2 42 "Granary$Orders" "count" "I") (by decide +kernel)) (fun _ h9 => h9) rfl dX2_add_1 ?_
  refine lv_bipush (v := 60) hx hb dX2_add_4 (by decide) ?_
  refine lv_icmp_lt (tgt := 11) hx hb dX2_add_6 (by decide) (fun c_1 => ?_) (fun c_1 => ?_)
  · have l9 : sg_cn P 4 < 60 := sg_ltl (M := 60) hw.e4 (by omega) (by decide) c_1
    refine lv_aload_n hx hb dX2_add_11 rfl (lv_at hl 0 rfl) ?_
    refine va_get (D := D) (ci := 2) (v := .ref (a 50)) (C := RX2) (T := TX2) (N := 11) hx hb hts in2 hown hK hP 5 rfl rfl 1 (by decide) (hts (.fieldLink RX2 9 "Granary$Orders" "item" "[I") (by decide +kernel)) (fun _ h9 => h9) rfl dX2_add_12 ?_
    refine lv_aload_n hx hb dX2_add_15 rfl (lv_at hl 0 rfl) ?_
    refine va_get (D := D) (ci := 2) (v := .int (P 0 4)) (C := RX2) (T := TX2) (N := 11) hx hb hts in2 hown hK hP 5 rfl rfl 0 (by decide) (hts (.fieldLink RX2 42 "Granary$Orders" "count" "I") (by decide +kernel)) (fun _ h9 => h9) rfl dX2_add_16 ?_
    refine lv_iload_n hx hb dX2_add_19 rfl (lv_at hl 1 rfl) ?_
    refine sg_iast hx hb hK hP hD hS 23 0 rfl rfl (j := sg_cn P 4) hw.e4 (by omega) (Nat.le_of_ble_eq_true rfl) dX2_add_20 (fun H locs hP hD hS => ?_)
    replace hP : va_P D vwCl (sg_St cI cZ a (sg_up P 50 (sg_cn P 4) x) q) H := hP
    replace hD : va_D A (sg_St cI cZ a (sg_up P 50 (sg_cn P 4) x) q) := hD
    refine lv_aload_n hx hb dX2_add_21 rfl (lv_at hl 0 rfl) ?_
    refine va_get (D := D) (ci := 2) (v := .ref (a 51)) (C := RX2) (T := TX2) (N := 11) hx hb hts in2 hown hK hP 5 rfl rfl 2 (by decide) (hts (.fieldLink RX2 15 "Granary$Orders" "site" "[I") (by decide +kernel)) (fun _ h9 => h9) rfl dX2_add_22 ?_
    refine lv_aload_n hx hb dX2_add_25 rfl (lv_at hl 0 rfl) ?_
    refine va_get (D := D) (ci := 2) (v := .int ((sg_up P 50 (sg_cn P 4) x) 0 4)) (C := RX2) (T := TX2) (N := 11) hx hb hts in2 hown hK hP 5 rfl rfl 0 (by decide) (hts (.fieldLink RX2 42 "Granary$Orders" "count" "I") (by decide +kernel)) (fun _ h9 => h9) rfl dX2_add_26 ?_
    refine lv_toi (y := P 0 4) rfl ?_
    refine lv_iload_n hx hb dX2_add_29 rfl (lv_at hl 2 rfl) ?_
    refine sg_iast hx hb hK hP hD hS 24 0 rfl rfl (j := sg_cn P 4) hw.e4 (by omega) (Nat.le_of_ble_eq_true rfl) dX2_add_30 (fun H locs hP hD hS => ?_)
    replace hP : va_P D vwCl (sg_St cI cZ a (sg_up (sg_up P 50 (sg_cn P 4) x) 51 (sg_cn P 4) y) q) H := hP
    replace hD : va_D A (sg_St cI cZ a (sg_up (sg_up P 50 (sg_cn P 4) x) 51 (sg_cn P 4) y) q) := hD
    refine lv_aload_n hx hb dX2_add_31 rfl (lv_at hl 0 rfl) ?_
    refine va_get (D := D) (ci := 2) (v := .ref (a 52)) (C := RX2) (T := TX2) (N := 11) hx hb hts in2 hown hK hP 5 rfl rfl 3 (by decide) (hts (.fieldLink RX2 18 "Granary$Orders" "units" "[I") (by decide +kernel)) (fun _ h9 => h9) rfl dX2_add_32 ?_
    refine lv_aload_n hx hb dX2_add_35 rfl (lv_at hl 0 rfl) ?_
    refine va_get (D := D) (ci := 2) (v := .int ((sg_up (sg_up P 50 (sg_cn P 4) x) 51 (sg_cn P 4) y) 0 4)) (C := RX2) (T := TX2) (N := 11) hx hb hts in2 hown hK hP 5 rfl rfl 0 (by decide) (hts (.fieldLink RX2 42 "Granary$Orders" "count" "I") (by decide +kernel)) (fun _ h9 => h9) rfl dX2_add_36 ?_
    refine lv_toi (y := P 0 4) rfl ?_
    refine lv_iload_n hx hb dX2_add_39 rfl (lv_at hl 3 rfl) ?_
    refine sg_iast hx hb hK hP hD hS 25 0 rfl rfl (j := sg_cn P 4) hw.e4 (by omega) (Nat.le_of_ble_eq_true rfl) dX2_add_40 (fun H locs hP hD hS => ?_)
    replace hP : va_P D vwCl (sg_St cI cZ a (sg_up (sg_up (sg_up P 50 (sg_cn P 4) x) 51 (sg_cn P 4) y) 52 (sg_cn P 4) z) q) H := hP
    replace hD : va_D A (sg_St cI cZ a (sg_up (sg_up (sg_up P 50 (sg_cn P 4) x) 51 (sg_cn P 4) y) 52 (sg_cn P 4) z) q) := hD
    refine lv_aload_n hx hb dX2_add_41 rfl (lv_at hl 0 rfl) ?_
    refine va_get (D := D) (ci := 2) (v := .ref (a 53)) (C := RX2) (T := TX2) (N := 11) hx hb hts in2 hown hK hP 5 rfl rfl 4 (by decide) (hts (.fieldLink RX2 21 "Granary$Orders" "reserved" "[I") (by decide +kernel)) (fun _ h9 => h9) rfl dX2_add_42 ?_
    refine lv_aload_n hx hb dX2_add_45 rfl (lv_at hl 0 rfl) ?_
    refine va_get (D := D) (ci := 2) (v := .int ((sg_up (sg_up (sg_up P 50 (sg_cn P 4) x) 51 (sg_cn P 4) y) 52 (sg_cn P 4) z) 0 4)) (C := RX2) (T := TX2) (N := 11) hx hb hts in2 hown hK hP 5 rfl rfl 0 (by decide) (hts (.fieldLink RX2 42 "Granary$Orders" "count" "I") (by decide +kernel)) (fun _ h9 => h9) rfl dX2_add_46 ?_
    refine lv_toi (y := P 0 4) rfl ?_
    refine lv_iconst (v := 0) hx hb dX2_add_49 (by decide) ?_
    refine sg_iast hx hb hK hP hD hS 26 0 rfl rfl (j := sg_cn P 4) hw.e4 (by omega) (Nat.le_of_ble_eq_true rfl) dX2_add_50 (fun H locs hP hD hS => ?_)
    replace hP : va_P D vwCl (sg_St cI cZ a (sg_up (sg_up (sg_up (sg_up P 50 (sg_cn P 4) x) 51 (sg_cn P 4) y) 52 (sg_cn P 4) z) 53 (sg_cn P 4) 0) q) H := hP
    replace hD : va_D A (sg_St cI cZ a (sg_up (sg_up (sg_up (sg_up P 50 (sg_cn P 4) x) 51 (sg_cn P 4) y) 52 (sg_cn P 4) z) 53 (sg_cn P 4) 0) q) := hD
    refine lv_aload_n hx hb dX2_add_51 rfl (lv_at hl 0 rfl) ?_
    refine va_get (D := D) (ci := 2) (v := .ref (a 54)) (C := RX2) (T := TX2) (N := 11) hx hb hts in2 hown hK hP 5 rfl rfl 5 (by decide) (hts (.fieldLink RX2 24 "Granary$Orders" "due" "[I") (by decide +kernel)) (fun _ h9 => h9) rfl dX2_add_52 ?_
    refine lv_aload_n hx hb dX2_add_55 rfl (lv_at hl 0 rfl) ?_
    refine va_get (D := D) (ci := 2) (v := .int ((sg_up (sg_up (sg_up (sg_up P 50 (sg_cn P 4) x) 51 (sg_cn P 4) y) 52 (sg_cn P 4) z) 53 (sg_cn P 4) 0) 0 4)) (C := RX2) (T := TX2) (N := 11) hx hb hts in2 hown hK hP 5 rfl rfl 0 (by decide) (hts (.fieldLink RX2 42 "Granary$Orders" "count" "I") (by decide +kernel)) (fun _ h9 => h9) rfl dX2_add_56 ?_
    refine lv_toi (y := P 0 4) rfl ?_
    refine lv_iload hx hb dX2_add_59 (lv_at hl 4 rfl) ?_
    refine sg_iast hx hb hK hP hD hS 27 0 rfl rfl (j := sg_cn P 4) hw.e4 (by omega) (Nat.le_of_ble_eq_true rfl) dX2_add_61 (fun H locs hP hD hS => ?_)
    replace hP : va_P D vwCl (sg_St cI cZ a (sg_up (sg_up (sg_up (sg_up (sg_up P 50 (sg_cn P 4) x) 51 (sg_cn P 4) y) 52 (sg_cn P 4) z) 53 (sg_cn P 4) 0) 54 (sg_cn P 4) v) q) H := hP
    replace hD : va_D A (sg_St cI cZ a (sg_up (sg_up (sg_up (sg_up (sg_up P 50 (sg_cn P 4) x) 51 (sg_cn P 4) y) 52 (sg_cn P 4) z) 53 (sg_cn P 4) 0) 54 (sg_cn P 4) v) q) := hD
    refine lv_aload_n hx hb dX2_add_62 rfl (lv_at hl 0 rfl) ?_
    refine va_get (D := D) (ci := 2) (v := .ref (a 55)) (C := RX2) (T := TX2) (N := 11) hx hb hts in2 hown hK hP 5 rfl rfl 6 (by decide) (hts (.fieldLink RX2 27 "Granary$Orders" "rank" "[I") (by decide +kernel)) (fun _ h9 => h9) rfl dX2_add_63 ?_
    refine lv_aload_n hx hb dX2_add_66 rfl (lv_at hl 0 rfl) ?_
    refine va_get (D := D) (ci := 2) (v := .int ((sg_up (sg_up (sg_up (sg_up (sg_up P 50 (sg_cn P 4) x) 51 (sg_cn P 4) y) 52 (sg_cn P 4) z) 53 (sg_cn P 4) 0) 54 (sg_cn P 4) v) 0 4)) (C := RX2) (T := TX2) (N := 11) hx hb hts in2 hown hK hP 5 rfl rfl 0 (by decide) (hts (.fieldLink RX2 42 "Granary$Orders" "count" "I") (by decide +kernel)) (fun _ h9 => h9) rfl dX2_add_67 ?_
    refine lv_toi (y := P 0 4) rfl ?_
    refine lv_iload hx hb dX2_add_70 (lv_at hl 5 rfl) ?_
    refine sg_iast hx hb hK hP hD hS 28 0 rfl rfl (j := sg_cn P 4) hw.e4 (by omega) (Nat.le_of_ble_eq_true rfl) dX2_add_72 (fun H locs hP hD hS => ?_)
    replace hP : va_P D vwCl (sg_St cI cZ a (sg_up (sg_up (sg_up (sg_up (sg_up (sg_up P 50 (sg_cn P 4) x) 51 (sg_cn P 4) y) 52 (sg_cn P 4) z) 53 (sg_cn P 4) 0) 54 (sg_cn P 4) v) 55 (sg_cn P 4) x5) q) H := hP
    replace hD : va_D A (sg_St cI cZ a (sg_up (sg_up (sg_up (sg_up (sg_up (sg_up P 50 (sg_cn P 4) x) 51 (sg_cn P 4) y) 52 (sg_cn P 4) z) 53 (sg_cn P 4) 0) 54 (sg_cn P 4) v) 55 (sg_cn P 4) x5) q) := hD
    refine lv_aload_n hx hb dX2_add_73 rfl (lv_at hl 0 rfl) ?_
    refine va_get (D := D) (ci := 2) (v := .ref (a 56)) (C := RX2) (T := TX2) (N := 11) hx hb hts in2 hown hK hP 5 rfl rfl 7 (by decide) (hts (.fieldLink RX2 30 "Granary$Orders" "keep" "[I") (by decide +kernel)) (fun _ h9 => h9) rfl dX2_add_74 ?_
    refine lv_aload_n hx hb dX2_add_77 rfl (lv_at hl 0 rfl) ?_
    refine va_get (D := D) (ci := 2) (v := .int ((sg_up (sg_up (sg_up (sg_up (sg_up (sg_up P 50 (sg_cn P 4) x) 51 (sg_cn P 4) y) 52 (sg_cn P 4) z) 53 (sg_cn P 4) 0) 54 (sg_cn P 4) v) 55 (sg_cn P 4) x5) 0 4)) (C := RX2) (T := TX2) (N := 11) hx hb hts in2 hown hK hP 5 rfl rfl 0 (by decide) (hts (.fieldLink RX2 42 "Granary$Orders" "count" "I") (by decide +kernel)) (fun _ h9 => h9) rfl dX2_add_78 ?_
    refine lv_toi (y := P 0 4) rfl ?_
    refine lv_iload hx hb dX2_add_81 (lv_at hl 6 rfl) ?_
    refine sg_iast hx hb hK hP hD hS 29 0 rfl rfl (j := sg_cn P 4) hw.e4 (by omega) (Nat.le_of_ble_eq_true rfl) dX2_add_83 (fun H locs hP hD hS => ?_)
    replace hP : va_P D vwCl (sg_St cI cZ a (sg_up (sg_up (sg_up (sg_up (sg_up (sg_up (sg_up P 50 (sg_cn P 4) x) 51 (sg_cn P 4) y) 52 (sg_cn P 4) z) 53 (sg_cn P 4) 0) 54 (sg_cn P 4) v) 55 (sg_cn P 4) x5) 56 (sg_cn P 4) x6) q) H := hP
    replace hD : va_D A (sg_St cI cZ a (sg_up (sg_up (sg_up (sg_up (sg_up (sg_up (sg_up P 50 (sg_cn P 4) x) 51 (sg_cn P 4) y) 52 (sg_cn P 4) z) 53 (sg_cn P 4) 0) 54 (sg_cn P 4) v) 55 (sg_cn P 4) x5) 56 (sg_cn P 4) x6) q) := hD
    refine lv_aload_n hx hb dX2_add_84 rfl (lv_at hl 0 rfl) ?_
    refine va_get (D := D) (ci := 2) (v := .ref (a 57)) (C := RX2) (T := TX2) (N := 11) hx hb hts in2 hown hK hP 5 rfl rfl 8 (by decide) (hts (.fieldLink RX2 33 "Granary$Orders" "state" "[I") (by decide +kernel)) (fun _ h9 => h9) rfl dX2_add_85 ?_
    refine lv_aload_n hx hb dX2_add_88 rfl (lv_at hl 0 rfl) ?_
    refine va_get (D := D) (ci := 2) (v := .int ((sg_up (sg_up (sg_up (sg_up (sg_up (sg_up (sg_up P 50 (sg_cn P 4) x) 51 (sg_cn P 4) y) 52 (sg_cn P 4) z) 53 (sg_cn P 4) 0) 54 (sg_cn P 4) v) 55 (sg_cn P 4) x5) 56 (sg_cn P 4) x6) 0 4)) (C := RX2) (T := TX2) (N := 11) hx hb hts in2 hown hK hP 5 rfl rfl 0 (by decide) (hts (.fieldLink RX2 42 "Granary$Orders" "count" "I") (by decide +kernel)) (fun _ h9 => h9) rfl dX2_add_89 ?_
    refine lv_toi (y := P 0 4) rfl ?_
    refine lv_iconst (v := 0) hx hb dX2_add_92 (by decide) ?_
    refine sg_iast hx hb hK hP hD hS 30 0 rfl rfl (j := sg_cn P 4) hw.e4 (by omega) (Nat.le_of_ble_eq_true rfl) dX2_add_93 (fun H locs hP hD hS => ?_)
    replace hP : va_P D vwCl (sg_St cI cZ a (sg_up (sg_up (sg_up (sg_up (sg_up (sg_up (sg_up (sg_up P 50 (sg_cn P 4) x) 51 (sg_cn P 4) y) 52 (sg_cn P 4) z) 53 (sg_cn P 4) 0) 54 (sg_cn P 4) v) 55 (sg_cn P 4) x5) 56 (sg_cn P 4) x6) 57 (sg_cn P 4) 0) q) H := hP
    replace hD : va_D A (sg_St cI cZ a (sg_up (sg_up (sg_up (sg_up (sg_up (sg_up (sg_up (sg_up P 50 (sg_cn P 4) x) 51 (sg_cn P 4) y) 52 (sg_cn P 4) z) 53 (sg_cn P 4) 0) 54 (sg_cn P 4) v) 55 (sg_cn P 4) x5) 56 (sg_cn P 4) x6) 57 (sg_cn P 4) 0) q) := hD
    refine lv_aload_n hx hb dX2_add_94 rfl (lv_at hl 0 rfl) ?_
    refine va_get (D := D) (ci := 2) (v := .ref (a 58)) (C := RX2) (T := TX2) (N := 11) hx hb hts in2 hown hK hP 5 rfl rfl 9 (by decide) (hts (.fieldLink RX2 36 "Granary$Orders" "shipDay" "[I") (by decide +kernel)) (fun _ h9 => h9) rfl dX2_add_95 ?_
    refine lv_aload_n hx hb dX2_add_98 rfl (lv_at hl 0 rfl) ?_
    refine va_get (D := D) (ci := 2) (v := .int ((sg_up (sg_up (sg_up (sg_up (sg_up (sg_up (sg_up (sg_up P 50 (sg_cn P 4) x) 51 (sg_cn P 4) y) 52 (sg_cn P 4) z) 53 (sg_cn P 4) 0) 54 (sg_cn P 4) v) 55 (sg_cn P 4) x5) 56 (sg_cn P 4) x6) 57 (sg_cn P 4) 0) 0 4)) (C := RX2) (T := TX2) (N := 11) hx hb hts in2 hown hK hP 5 rfl rfl 0 (by decide) (hts (.fieldLink RX2 42 "Granary$Orders" "count" "I") (by decide +kernel)) (fun _ h9 => h9) rfl dX2_add_99 ?_
    refine lv_toi (y := P 0 4) rfl ?_
    refine lv_iconst (v := (-1)) hx hb dX2_add_102 (by decide) ?_
    refine sg_iast hx hb hK hP hD hS 31 0 rfl rfl (j := sg_cn P 4) hw.e4 (by omega) (Nat.le_of_ble_eq_true rfl) dX2_add_103 (fun H locs hP hD hS => ?_)
    replace hP : va_P D vwCl (sg_St cI cZ a (sg_up (sg_up (sg_up (sg_up (sg_up (sg_up (sg_up (sg_up (sg_up P 50 (sg_cn P 4) x) 51 (sg_cn P 4) y) 52 (sg_cn P 4) z) 53 (sg_cn P 4) 0) 54 (sg_cn P 4) v) 55 (sg_cn P 4) x5) 56 (sg_cn P 4) x6) 57 (sg_cn P 4) 0) 58 (sg_cn P 4) (-1)) q) H := hP
    replace hD : va_D A (sg_St cI cZ a (sg_up (sg_up (sg_up (sg_up (sg_up (sg_up (sg_up (sg_up (sg_up P 50 (sg_cn P 4) x) 51 (sg_cn P 4) y) 52 (sg_cn P 4) z) 53 (sg_cn P 4) 0) 54 (sg_cn P 4) v) 55 (sg_cn P 4) x5) 56 (sg_cn P 4) x6) 57 (sg_cn P 4) 0) 58 (sg_cn P 4) (-1)) q) := hD
    refine lv_aload_n hx hb dX2_add_104 rfl (lv_at hl 0 rfl) ?_
    refine lv_dup hx hb dX2_add_105 rfl ?_
    refine va_get (D := D) (ci := 2) (v := .int ((sg_up (sg_up (sg_up (sg_up (sg_up (sg_up (sg_up (sg_up (sg_up P 50 (sg_cn P 4) x) 51 (sg_cn P 4) y) 52 (sg_cn P 4) z) 53 (sg_cn P 4) 0) 54 (sg_cn P 4) v) 55 (sg_cn P 4) x5) 56 (sg_cn P 4) x6) 57 (sg_cn P 4) 0) 58 (sg_cn P 4) (-1)) 0 4)) (C := RX2) (T := TX2) (N := 11) hx hb hts in2 hown hK hP 5 rfl rfl 0 (by decide) (hts (.fieldLink RX2 42 "Granary$Orders" "count" "I") (by decide +kernel)) (fun _ h9 => h9) rfl dX2_add_106 ?_
    refine lv_toi (y := P 0 4) rfl ?_
    refine lv_iconst (v := 1) hx hb dX2_add_109 (by decide) ?_
    refine lv_iadd hx hb dX2_add_110 ?_
    refine va_put (D := D) (ci := 2) (v := .int ((P 0 4) + 1)) (ty := .int) (C := RX2) (T := TX2) (N := 11) hx hb hts in2 tyX2 tyX2_ok nmX2 hown hK hP hD hS 5 rfl rfl 0 (by decide) (hts (.fieldLink RX2 42 "Granary$Orders" "count" "I") (by decide +kernel)) (fun _ h9 => h9) rfl (by decide +kernel) rfl rfl (Nat.le_of_ble_eq_true rfl) dX2_add_111 (fun H locs hP hD hS => ?_)
    replace hP : va_P D vwCl (sg_St cI cZ a (sg_up (sg_up (sg_up (sg_up (sg_up (sg_up (sg_up (sg_up (sg_up (sg_up P 50 (sg_cn P 4) x) 51 (sg_cn P 4) y) 52 (sg_cn P 4) z) 53 (sg_cn P 4) 0) 54 (sg_cn P 4) v) 55 (sg_cn P 4) x5) 56 (sg_cn P 4) x6) 57 (sg_cn P 4) 0) 58 (sg_cn P 4) (-1)) 0 4 ((P 0 4) + 1)) q) H := hP
    replace hD : va_D A (sg_St cI cZ a (sg_up (sg_up (sg_up (sg_up (sg_up (sg_up (sg_up (sg_up (sg_up (sg_up P 50 (sg_cn P 4) x) 51 (sg_cn P 4) y) 52 (sg_cn P 4) z) 53 (sg_cn P 4) 0) 54 (sg_cn P 4) v) 55 (sg_cn P 4) x5) 56 (sg_cn P 4) x6) 57 (sg_cn P 4) 0) 58 (sg_cn P 4) (-1)) 0 4 ((P 0 4) + 1)) q) := hD
    refine lv_aload_n hx hb dX2_add_114 rfl (lv_at hl 0 rfl) ?_
    refine va_get (D := D) (ci := 2) (v := .int ((sg_up (sg_up (sg_up (sg_up (sg_up (sg_up (sg_up (sg_up (sg_up (sg_up P 50 (sg_cn P 4) x) 51 (sg_cn P 4) y) 52 (sg_cn P 4) z) 53 (sg_cn P 4) 0) 54 (sg_cn P 4) v) 55 (sg_cn P 4) x5) 56 (sg_cn P 4) x6) 57 (sg_cn P 4) 0) 58 (sg_cn P 4) (-1)) 0 4 ((P 0 4) + 1)) 0 4)) (C := RX2) (T := TX2) (N := 11) hx hb hts in2 hown hK hP 5 rfl rfl 0 (by decide) (hts (.fieldLink RX2 42 "Granary$Orders" "count" "I") (by decide +kernel)) (fun _ h9 => h9) rfl dX2_add_115 ?_
    refine lv_toi (y := (P 0 4) + 1) rfl ?_
    refine lv_iconst (v := 1) hx hb dX2_add_118 (by decide) ?_
    refine lv_isub hx hb dX2_add_119 ?_
    refine W.widen (k := 0) (n := 0) (by omega) (by omega) ?_
    have e9 : sg_oadd P x y z v x5 x6 = sg_up (sg_up (sg_up (sg_up (sg_up (sg_up (sg_up (sg_up (sg_up (sg_up P 50 (sg_cn P 4) x) 51 (sg_cn P 4) y) 52 (sg_cn P 4) z) 53 (sg_cn P 4) 0) 54 (sg_cn P 4) v) 55 (sg_cn P 4) x5) 56 (sg_cn P 4) x6) 57 (sg_cn P 4) 0) 58 (sg_cn P 4) (-1)) 0 4 ((P 0 4) + 1) := by rw [sg_oadd, if_pos c_1]
    have hP9 : va_P D vwCl (sg_St cI cZ a (sg_oadd P x y z v x5 x6) q) H := by rw [e9]; exact hP
    have hD9 : va_D A (sg_St cI cZ a (sg_oadd P x y z v x5 x6) q) := by rw [e9]; exact hD
    exact W.iret (v := (((P 0 4) + 1) - 1)) hx hb hr (fun t ht hW => ⟨⟨(((P 0 4) + 1) - 1), (), rfl, (show (((P 0 4) + 1) - 1 : Int32) = sg_oadd_r P x y z v x5 x6 from by rw [sg_oadd_r, if_pos c_1]), by rw [ht]; exact hP9, hD9⟩, hS.F ht⟩) hS.2.2 dX2_add_120
  · refine lv_iconst (v := (-1)) hx hb dX2_add_9 (by decide) ?_
    refine W.widen (k := 0) (n := 0) (by omega) (by omega) ?_
    have e9 : sg_oadd P x y z v x5 x6 = P := by rw [sg_oadd, if_neg c_1]
    have hP9 : va_P D vwCl (sg_St cI cZ a (sg_oadd P x y z v x5 x6) q) s.heap := by rw [e9]; exact hP
    have hD9 : va_D A (sg_St cI cZ a (sg_oadd P x y z v x5 x6) q) := by rw [e9]; exact hD
    exact W.iret (v := (-1)) hx hb hr (fun t ht hW => ⟨⟨(-1), (), rfl, (show ((-1) : Int32) = sg_oadd_r P x y z v x5 x6 from by rw [sg_oadd_r, if_neg c_1]), by rw [ht]; exact hP9, hD9⟩, hS.F ht⟩) hS.2.2 dX2_add_10

theorem sg_addsub (x : Int32) : x + 1 - 1 = x := by
  rw [Int32.sub_eq_add_neg, Int32.add_assoc]
  have e : (1 : Int32) + -1 = 0 := by decide
  rw [e]
  exact Int32.add_zero x
theorem sg_iadd_W {P : sg_Pic} {x y z : Int32} (hw : sg_W P) : sg_W (sg_iadd P x y z) := by
  unfold sg_iadd
  split
  · rename_i c
    exact hw.up1 (sg_ltl (M := 6) hw.e1 (Nat.lt_of_le_of_lt hw.n1 (by decide)) (by decide) c)
  · exact hw
theorem sg_iadd_n {P : sg_Pic} {x y z : Int32} (hw : sg_W P) (h : sg_cn P 1 < 6) : sg_iadd_r P x y z = nI (sg_cn P 1) := by
  unfold sg_iadd_r
  rw [if_pos (by rw [hw.e1]; exact nI_lt h (by decide)), hw.e1]
  exact sg_addsub _

theorem sg_sadd_W {P : sg_Pic} {x : Int32} (hw : sg_W P) : sg_W (sg_sadd P x) := by
  unfold sg_sadd
  split
  · rename_i c
    exact hw.up2 (sg_ltl (M := 5) hw.e2 (Nat.lt_of_le_of_lt hw.n2 (by decide)) (by decide) c)
  · exact hw
theorem sg_sadd_n {P : sg_Pic} {x : Int32} (hw : sg_W P) (h : sg_cn P 2 < 5) : sg_sadd_r P x = nI (sg_cn P 2) := by
  unfold sg_sadd_r
  rw [if_pos (by rw [hw.e2]; exact nI_lt h (by decide)), hw.e2]
  exact sg_addsub _

theorem sg_oadd_W {P : sg_Pic} {x y z v x5 x6 : Int32} (hw : sg_W P) : sg_W (sg_oadd P x y z v x5 x6) := by
  unfold sg_oadd
  split
  · rename_i c
    exact hw.up4 (sg_ltl (M := 60) hw.e4 (Nat.lt_of_le_of_lt hw.n4 (by decide)) (by decide) c)
  · exact hw
theorem sg_oadd_n {P : sg_Pic} {x y z v x5 x6 : Int32} (hw : sg_W P) (h : sg_cn P 4 < 60) : sg_oadd_r P x y z v x5 x6 = nI (sg_cn P 4) := by
  unfold sg_oadd_r
  rw [if_pos (by rw [hw.e4]; exact nI_lt h (by decide)), hw.e4]
  exact sg_addsub _

def sg_g_addItem_r (P : sg_Pic) (x : Int32) (y : Int32) (z : Int32) : Int32 := (sg_iadd_r P x y z)

def sg_g_addItem (P : sg_Pic) (x : Int32) (y : Int32) (z : Int32) : sg_Pic := (sg_iadd P x y z)

set_option maxHeartbeats 4000000 in
set_option maxRecDepth 100000 in
/-- X8_addItem -/
theorem c_g_addItem (l : Launch) (D : va_G) (cI cZ cJ : ClassId) (lo sz : Nat) (g : Nat) (pa : Nat → Nat) (b : Nat → Nat) (a : Nat → Nat) (P : sg_Pic) (q : Nat → Int32) (x : Int32) (y : Int32) (z : Int32) (hw : sg_W P) (h1 : (1 : Int32) ≤ x) (h2 : x ≤ 99) (h3 : (1 : Int32) ≤ y) (h4 : y ≤ 99) (h5 : (1 : Int32) ≤ z) (h6 : z ≤ 20) (h7 : sg_cn P 1 < 6) : Met l yX8_addItem wsX8_addItem ({ frames := 2, cells := 0, slots := 0, locals := 42 }) (Pre lo D cI cZ cJ [.ref g, .int x, .int y, .int z] sz ([(g, .inr (8, [.ref (a 0), .ref (b 0), .ref (pa 0)]))] ++ sg_St cI cZ a P q)) (va_Qi (fun (r : Int32) (_ : Unit) => r = sg_g_addItem_r P x y z) (fun _ t => va_P D vwCl ([(g, .inr (8, [.ref (a 0), .ref (b 0), .ref (pa 0)]))] ++ sg_St cI cZ a (sg_g_addItem P x y z) q) t.heap ∧ va_D (va_A ([(g, .inr (8, [.ref (a 0), .ref (b 0), .ref (pa 0)]))] ++ sg_St cI cZ a P q) sz) ([(g, .inr (8, [.ref (a 0), .ref (b 0), .ref (pa 0)]))] ++ sg_St cI cZ a (sg_g_addItem P x y z) q)) (va_A ([(g, .inr (8, [.ref (a 0), .ref (b 0), .ref (pa 0)]))] ++ sg_St cI cZ a P q) sz)) 0 0 (va_A ([(g, .inr (8, [.ref (a 0), .ref (b 0), .ref (pa 0)]))] ++ sg_St cI cZ a P q) sz) := by
  refine Met.ofW (cc := cX8_addItem) (maxL := 4) (ret := (some .int)) (by decide) rfl ?_
  intro p e s m args below meth c s₁ B hml hv
  obtain ⟨rfl, hsz, hP, hD0, hC⟩ := hv
  have hx := B.exec
  have hb := B.bytes
  have hr := B.returns
  have hts := atoms_spec (ws := wsX8_addItem) B.pre
  have hown : s.vm.findClass RX8 = some m.cls := findClass_of_methodNamed B.named
  have hlocks := B.notSynchronized
  subst hsz
  have hn1 : sg_cn P 1 ≤ 6 := hw.n1
  have hn2 : sg_cn P 2 ≤ 5 := hw.n2
  have hn3 : sg_cn P 3 ≤ 200 := hw.n3
  have hn4 : sg_cn P 4 ≤ 60 := hw.n4
  have hn5 : sg_cn P 5 ≤ 90 := hw.n5
  have hK := hC.K
  have hD := hD0.self (sz := s.heap.size)
  have hAlo0 := va_A_lo hD0 hC.1
  generalize hAe : va_A ([(g, .inr (8, [.ref (a 0), .ref (b 0), .ref (pa 0)]))] ++ sg_St cI cZ a P q) s.heap.size = A at hD hAlo0 ⊢
  have hA : ∀ q : Nat, s.heap.size ≤ q → A q := fun q h => by rw [← hAe]; exact Or.inr h
  have hAlo : ∀ q, A q → lo ≤ q := hAlo0
  have hS : va_S A s.heap s.heap [] := va_S.rf
  have hP : va_P D vwCl ([(g, .inr (8, [.ref (a 0), .ref (b 0), .ref (pa 0)]))] ++ sg_St cI cZ a P q) s.heap := hP
  have hl := lv_entry ([.ref g, .int x, .int y, .int z]) (n := 4) (Nat.le_of_ble_eq_true rfl)
  rw [lg_entry_eq]
  generalize (lg_sl ([.ref g, .int x, .int y, .int z]) ++ List.replicate (4 - (lg_sl ([.ref g, .int x, .int y, .int z])).length) Slot.unset).toArray = ls at hl ⊢
  have hl : lv_has ls 4 [(0, .ref g), (1, .int x), (2, .int y), (3, .int z)] := hl
  have in0 : ∀ w ∈ u_ws RX0 TX0 5, w ∈ wsX8_addItem := by decide +kernel
  have in6 : ∀ w ∈ u_ws RX6 TX6 9, w ∈ wsX8_addItem := by decide +kernel
  have in8 : ∀ w ∈ u_ws RX8 TX8 3, w ∈ wsX8_addItem := by decide +kernel
  refine lv_iload_n hx hb dX8_addItem_0 rfl (lv_at hl 1 rfl) ?_
  refine lv_iconst (v := 1) hx hb dX8_addItem_1 (by decide) ?_
  refine lv_bipush (v := 99) hx hb dX8_addItem_2 (by decide) ?_
  have hPc := hP.sub (ws' := []) [] rfl
  have hDc := hD.sub (ws' := []) [] (by decide) rfl
  refine va_csv (W.runS (As := [.int x, .int 1, .int 99]) (rest := []) ⟨hx, hb, hml, hown, hts⟩ (c_needWithin l D cI cZ cJ lo s.heap.size x 1 99 h1 h2) (va_cwS 3 hts gX8_addItem_X8_needWithin rfl rfl rfl (by decide +kernel) ⟨(Nat.le_of_ble_eq_true rfl), (Nat.le_of_ble_eq_true rfl)⟩) ⟨Pre.blind, Pre.mk hPc (hDc.weaken (fun _ _ _ h => hAlo _ h)) hC hS hAlo⟩ rfl rfl hl.1 rfl (lv_room (Nat.le_of_ble_eq_true rfl)) dX8_addItem_4 ⟨(Nat.le_of_ble_eq_true rfl), (Nat.le_of_ble_eq_true rfl)⟩) (fun e_1 => ?_)
  clear hPc hDc
  refine lv_iload_n hx hb dX8_addItem_7 rfl (lv_at hl 2 rfl) ?_
  refine lv_iconst (v := 1) hx hb dX8_addItem_8 (by decide) ?_
  refine lv_bipush (v := 99) hx hb dX8_addItem_9 (by decide) ?_
  have hPc := hP.sub (ws' := []) [] rfl
  have hDc := hD.sub (ws' := []) [] (by decide) rfl
  refine va_csv (W.runS (As := [.int y, .int 1, .int 99]) (rest := []) ⟨hx, hb, hml, hown, hts⟩ (c_needWithin l D cI cZ cJ lo s.heap.size y 1 99 h3 h4) (va_cwS 3 hts gX8_addItem_X8_needWithin rfl rfl rfl (by decide +kernel) ⟨(Nat.le_of_ble_eq_true rfl), (Nat.le_of_ble_eq_true rfl)⟩) ⟨Pre.blind, Pre.mk hPc (hDc.weaken (fun _ _ _ h => hAlo _ h)) hC hS hAlo⟩ rfl rfl hl.1 rfl (lv_room (Nat.le_of_ble_eq_true rfl)) dX8_addItem_11 ⟨(Nat.le_of_ble_eq_true rfl), (Nat.le_of_ble_eq_true rfl)⟩) (fun e_2 => ?_)
  clear hPc hDc
  refine lv_iload_n hx hb dX8_addItem_14 rfl (lv_at hl 3 rfl) ?_
  refine lv_iconst (v := 1) hx hb dX8_addItem_15 (by decide) ?_
  refine lv_bipush (v := 20) hx hb dX8_addItem_16 (by decide) ?_
  have hPc := hP.sub (ws' := []) [] rfl
  have hDc := hD.sub (ws' := []) [] (by decide) rfl
  refine va_csv (W.runS (As := [.int z, .int 1, .int 20]) (rest := []) ⟨hx, hb, hml, hown, hts⟩ (c_needWithin l D cI cZ cJ lo s.heap.size z 1 20 h5 h6) (va_cwS 3 hts gX8_addItem_X8_needWithin rfl rfl rfl (by decide +kernel) ⟨(Nat.le_of_ble_eq_true rfl), (Nat.le_of_ble_eq_true rfl)⟩) ⟨Pre.blind, Pre.mk hPc (hDc.weaken (fun _ _ _ h => hAlo _ h)) hC hS hAlo⟩ rfl rfl hl.1 rfl (lv_room (Nat.le_of_ble_eq_true rfl)) dX8_addItem_18 ⟨(Nat.le_of_ble_eq_true rfl), (Nat.le_of_ble_eq_true rfl)⟩) (fun e_3 => ?_)
  clear hPc hDc
  refine lv_aload_n hx hb dX8_addItem_21 rfl (lv_at hl 0 rfl) ?_
  refine va_get (D := D) (ci := 8) (v := .ref (a 0)) (C := RX8) (T := TX8) (N := 3) hx hb hts in8 hown hK hP 0 rfl rfl 0 (by decide) (hts (.fieldLink RX8 10 "Granary" "now" "LGranary$Stock;") (by decide +kernel)) (fun _ h9 => h9) rfl dX8_addItem_22 ?_
  refine va_get (D := D) (ci := 6) (v := .ref (a 1)) (C := RX6) (T := TX6) (N := 9) hx hb hts in6 hown hK hP 1 rfl rfl 1 (by decide) (hts (.fieldLink RX8 30 "Granary$Stock" "items" "LGranary$Items;") (by decide +kernel)) (fun _ h9 => h9) rfl dX8_addItem_25 ?_
  refine va_get (D := D) (ci := 0) (v := .int (P 0 1)) (C := RX0) (T := TX0) (N := 5) hx hb hts in0 hown hK hP 2 rfl rfl 0 (by decide) (hts (.fieldLink RX8 34 "Granary$Items" "count" "I") (by decide +kernel)) (fun _ h9 => h9) rfl dX8_addItem_28 ?_
  refine lv_bipush (v := 6) hx hb dX8_addItem_31 (by decide) ?_
  refine lv_icmp_ge (tgt := 40) hx hb dX8_addItem_33 (by decide) (fun c9 => absurd c9 (show ¬ ((6 : Int32) ≤ (P 0 1)) from (sg_ge1 hw h7))) (fun _ => ?_)
  refine lv_iconst (v := 1) hx hb dX8_addItem_36 (by decide) ?_
  refine lv_goto (tgt := 41) hx hb dX8_addItem_37 (by decide) ?_
  have hPc := hP.sub (ws' := []) [] rfl
  have hDc := hD.sub (ws' := []) [] (by decide) rfl
  refine va_csv (W.runS (As := [.int 1]) (rest := []) ⟨hx, hb, hml, hown, hts⟩ (c_needState l D cI cZ cJ lo s.heap.size 1 (by decide)) (va_cwS 1 hts gX8_addItem_X8_needState rfl rfl rfl (by decide +kernel) ⟨(Nat.le_of_ble_eq_true rfl), (Nat.le_of_ble_eq_true rfl)⟩) ⟨Pre.blind, Pre.mk hPc (hDc.weaken (fun _ _ _ h => hAlo _ h)) hC hS hAlo⟩ rfl rfl hl.1 rfl (lv_room (Nat.le_of_ble_eq_true rfl)) dX8_addItem_41 ⟨(Nat.le_of_ble_eq_true rfl), (Nat.le_of_ble_eq_true rfl)⟩) (fun e_4 => ?_)
  clear hPc hDc
  refine lv_aload_n hx hb dX8_addItem_44 rfl (lv_at hl 0 rfl) ?_
  refine va_get (D := D) (ci := 8) (v := .ref (a 0)) (C := RX8) (T := TX8) (N := 3) hx hb hts in8 hown hK hP 0 rfl rfl 0 (by decide) (hts (.fieldLink RX8 10 "Granary" "now" "LGranary$Stock;") (by decide +kernel)) (fun _ h9 => h9) rfl dX8_addItem_45 ?_
  refine va_get (D := D) (ci := 6) (v := .ref (a 1)) (C := RX6) (T := TX6) (N := 9) hx hb hts in6 hown hK hP 1 rfl rfl 1 (by decide) (hts (.fieldLink RX8 30 "Granary$Stock" "items" "LGranary$Items;") (by decide +kernel)) (fun _ h9 => h9) rfl dX8_addItem_48 ?_
  refine lv_iload_n hx hb dX8_addItem_51 rfl (lv_at hl 1 rfl) ?_
  refine lv_iload_n hx hb dX8_addItem_52 rfl (lv_at hl 2 rfl) ?_
  refine lv_iload_n hx hb dX8_addItem_53 rfl (lv_at hl 3 rfl) ?_
  have hPc := hP.sub (ws' := (sg_St cI cZ a P q)) [1, 2, 3, 4, 5, 6, 7, 8, 9, 10, 11, 12, 13, 14, 15, 16, 17, 18, 19, 20, 21, 22, 23, 24, 25, 26, 27, 28, 29, 30, 31, 32, 33, 34, 35, 36, 37, 38, 39, 40, 41] rfl
  have hDc := hD.sub (ws' := (sg_St cI cZ a P q)) [1, 2, 3, 4, 5, 6, 7, 8, 9, 10, 11, 12, 13, 14, 15, 16, 17, 18, 19, 20, 21, 22, 23, 24, 25, 26, 27, 28, 29, 30, 31, 32, 33, 34, 35, 36, 37, 38, 39, 40, 41] (by decide) rfl
  have hFc := va_free (wc := (sg_St cI cZ a P q)) hD hS hA [1, 2, 3, 4, 5, 6, 7, 8, 9, 10, 11, 12, 13, 14, 15, 16, 17, 18, 19, 20, 21, 22, 23, 24, 25, 26, 27, 28, 29, 30, 31, 32, 33, 34, 35, 36, 37, 38, 39, 40, 41] rfl
  refine va_calli (va_runV (As := [.int x, .int y, .int z]) (rest := []) ⟨hx, hb, hml, hown, hts⟩ (c_iadd l D cI cZ cJ lo s.heap.size a P q x y z hw) (cwV 3 hts gX8_addItem_X0_add rfl rfl rfl (by decide +kernel) ⟨(Nat.le_of_ble_eq_true rfl), (Nat.le_of_ble_eq_true rfl)⟩) ⟨Pre.blind, va_recv hK hP (ci := 0) (q0 := 2) rfl rfl, Pre.mk hPc (hDc.weaken (fun _ _ _ h => hAlo _ h)) hC hS hAlo⟩ rfl rfl hl.1 rfl (lv_room (Nat.le_of_ble_eq_true rfl)) dX8_addItem_54 ⟨(Nat.le_of_ble_eq_true rfl), (Nat.le_of_ble_eq_true rfl)⟩) hS (fun q _ h => hFc q h) hFc (fun r_5 u t H1 locs1 ht hvm e_6 hB hz1 hk1 hS1 => ?_)
  have hS := hS1
  obtain ⟨hP1, hD1⟩ := hB
  rw [ht] at hP1
  obtain ⟨hP, hD⟩ := va_join (wr := [(g, .inr (8, [.ref (a 0), .ref (b 0), .ref (pa 0)]))]) (w1 := (sg_St cI cZ a (sg_iadd P x y z) q)) hP hD [1, 2, 3, 4, 5, 6, 7, 8, 9, 10, 11, 12, 13, 14, 15, 16, 17, 18, 19, 20, 21, 22, 23, 24, 25, 26, 27, 28, 29, 30, 31, 32, 33, 34, 35, 36, 37, 38, 39, 40, 41] [0] rfl rfl (by decide) (by decide) hk1 hFc hP1 hD1
  have e_6 : sg_iadd_r P x y z = r_5 := Eq.symm e_6
  subst e_6
  clear hFc hPc hDc ht hvm hz1 hk1 hS1 hP1 hD1
  generalize H1 = H at hP hS ⊢
  replace hP : va_P D vwCl ([(g, .inr (8, [.ref (a 0), .ref (b 0), .ref (pa 0)]))] ++ sg_St cI cZ a (sg_iadd P x y z) q) H := hP
  replace hD : va_D A ([(g, .inr (8, [.ref (a 0), .ref (b 0), .ref (pa 0)]))] ++ sg_St cI cZ a (sg_iadd P x y z) q) := hD
  refine W.widen (k := 0) (n := 0) (by omega) (by omega) ?_
  have hP9 : va_P D vwCl ([(g, .inr (8, [.ref (a 0), .ref (b 0), .ref (pa 0)]))] ++ sg_St cI cZ a (sg_g_addItem P x y z) q) H := by exact hP
  have hD9 : va_D A ([(g, .inr (8, [.ref (a 0), .ref (b 0), .ref (pa 0)]))] ++ sg_St cI cZ a (sg_g_addItem P x y z) q) := by exact hD
  exact W.iret (v := (sg_iadd_r P x y z)) hx hb hr (fun t ht hW => ⟨⟨(sg_iadd_r P x y z), (), rfl, rfl, by rw [ht]; exact hP9, hD9⟩, hS.F ht⟩) hS.2.2 dX8_addItem_57

def sg_g_addSite_r (P : sg_Pic) (x : Int32) : Int32 := (sg_sadd_r P x)

def sg_g_addSite (P : sg_Pic) (x : Int32) : sg_Pic := (sg_sadd P x)

set_option maxHeartbeats 4000000 in
set_option maxRecDepth 100000 in
/-- X8_addSite -/
theorem c_g_addSite (l : Launch) (D : va_G) (cI cZ cJ : ClassId) (lo sz : Nat) (g : Nat) (pa : Nat → Nat) (b : Nat → Nat) (a : Nat → Nat) (P : sg_Pic) (q : Nat → Int32) (x : Int32) (hw : sg_W P) (h1 : (1 : Int32) ≤ x) (h2 : x ≤ 9999) (h7 : sg_cn P 2 < 5) : Met l yX8_addSite wsX8_addSite ({ frames := 2, cells := 0, slots := 0, locals := 42 }) (Pre lo D cI cZ cJ [.ref g, .int x] sz ([(g, .inr (8, [.ref (a 0), .ref (b 0), .ref (pa 0)]))] ++ sg_St cI cZ a P q)) (va_Qi (fun (r : Int32) (_ : Unit) => r = sg_g_addSite_r P x) (fun _ t => va_P D vwCl ([(g, .inr (8, [.ref (a 0), .ref (b 0), .ref (pa 0)]))] ++ sg_St cI cZ a (sg_g_addSite P x) q) t.heap ∧ va_D (va_A ([(g, .inr (8, [.ref (a 0), .ref (b 0), .ref (pa 0)]))] ++ sg_St cI cZ a P q) sz) ([(g, .inr (8, [.ref (a 0), .ref (b 0), .ref (pa 0)]))] ++ sg_St cI cZ a (sg_g_addSite P x) q)) (va_A ([(g, .inr (8, [.ref (a 0), .ref (b 0), .ref (pa 0)]))] ++ sg_St cI cZ a P q) sz)) 0 0 (va_A ([(g, .inr (8, [.ref (a 0), .ref (b 0), .ref (pa 0)]))] ++ sg_St cI cZ a P q) sz) := by
  refine Met.ofW (cc := cX8_addSite) (maxL := 2) (ret := (some .int)) (by decide) rfl ?_
  intro p e s m args below meth c s₁ B hml hv
  obtain ⟨rfl, hsz, hP, hD0, hC⟩ := hv
  have hx := B.exec
  have hb := B.bytes
  have hr := B.returns
  have hts := atoms_spec (ws := wsX8_addSite) B.pre
  have hown : s.vm.findClass RX8 = some m.cls := findClass_of_methodNamed B.named
  have hlocks := B.notSynchronized
  subst hsz
  have hn1 : sg_cn P 1 ≤ 6 := hw.n1
  have hn2 : sg_cn P 2 ≤ 5 := hw.n2
  have hn3 : sg_cn P 3 ≤ 200 := hw.n3
  have hn4 : sg_cn P 4 ≤ 60 := hw.n4
  have hn5 : sg_cn P 5 ≤ 90 := hw.n5
  have hK := hC.K
  have hD := hD0.self (sz := s.heap.size)
  have hAlo0 := va_A_lo hD0 hC.1
  generalize hAe : va_A ([(g, .inr (8, [.ref (a 0), .ref (b 0), .ref (pa 0)]))] ++ sg_St cI cZ a P q) s.heap.size = A at hD hAlo0 ⊢
  have hA : ∀ q : Nat, s.heap.size ≤ q → A q := fun q h => by rw [← hAe]; exact Or.inr h
  have hAlo : ∀ q, A q → lo ≤ q := hAlo0
  have hS : va_S A s.heap s.heap [] := va_S.rf
  have hP : va_P D vwCl ([(g, .inr (8, [.ref (a 0), .ref (b 0), .ref (pa 0)]))] ++ sg_St cI cZ a P q) s.heap := hP
  have hl := lv_entry ([.ref g, .int x]) (n := 2) (Nat.le_of_ble_eq_true rfl)
  rw [lg_entry_eq]
  generalize (lg_sl ([.ref g, .int x]) ++ List.replicate (2 - (lg_sl ([.ref g, .int x])).length) Slot.unset).toArray = ls at hl ⊢
  have hl : lv_has ls 2 [(0, .ref g), (1, .int x)] := hl
  have in5 : ∀ w ∈ u_ws RX5 TX5 3, w ∈ wsX8_addSite := by decide +kernel
  have in6 : ∀ w ∈ u_ws RX6 TX6 9, w ∈ wsX8_addSite := by decide +kernel
  have in8 : ∀ w ∈ u_ws RX8 TX8 3, w ∈ wsX8_addSite := by decide +kernel
  refine lv_iload_n hx hb dX8_addSite_0 rfl (lv_at hl 1 rfl) ?_
  refine lv_iconst (v := 1) hx hb dX8_addSite_1 (by decide) ?_
  refine lv_sipush (v := 9999) hx hb dX8_addSite_2 (by decide) ?_
  have hPc := hP.sub (ws' := []) [] rfl
  have hDc := hD.sub (ws' := []) [] (by decide) rfl
  refine va_csv (W.runS (As := [.int x, .int 1, .int 9999]) (rest := []) ⟨hx, hb, hml, hown, hts⟩ (c_needWithin l D cI cZ cJ lo s.heap.size x 1 9999 h1 h2) (va_cwS 3 hts gX8_addSite_X8_needWithin rfl rfl rfl (by decide +kernel) ⟨(Nat.le_of_ble_eq_true rfl), (Nat.le_of_ble_eq_true rfl)⟩) ⟨Pre.blind, Pre.mk hPc (hDc.weaken (fun _ _ _ h => hAlo _ h)) hC hS hAlo⟩ rfl rfl hl.1 rfl (lv_room (Nat.le_of_ble_eq_true rfl)) dX8_addSite_5 ⟨(Nat.le_of_ble_eq_true rfl), (Nat.le_of_ble_eq_true rfl)⟩) (fun e_1 => ?_)
  clear hPc hDc
  refine lv_aload_n hx hb dX8_addSite_8 rfl (lv_at hl 0 rfl) ?_
  refine va_get (D := D) (ci := 8) (v := .ref (a 0)) (C := RX8) (T := TX8) (N := 3) hx hb hts in8 hown hK hP 0 rfl rfl 0 (by decide) (hts (.fieldLink RX8 10 "Granary" "now" "LGranary$Stock;") (by decide +kernel)) (fun _ h9 => h9) rfl dX8_addSite_9 ?_
  refine va_get (D := D) (ci := 6) (v := .ref (a 2)) (C := RX6) (T := TX6) (N := 9) hx hb hts in6 hown hK hP 1 rfl rfl 2 (by decide) (hts (.fieldLink RX8 48 "Granary$Stock" "sites" "LGranary$Sites;") (by decide +kernel)) (fun _ h9 => h9) rfl dX8_addSite_12 ?_
  refine va_get (D := D) (ci := 5) (v := .int (P 0 2)) (C := RX5) (T := TX5) (N := 3) hx hb hts in5 hown hK hP 3 rfl rfl 0 (by decide) (hts (.fieldLink RX8 52 "Granary$Sites" "count" "I") (by decide +kernel)) (fun _ h9 => h9) rfl dX8_addSite_15 ?_
  refine lv_iconst (v := 5) hx hb dX8_addSite_18 (by decide) ?_
  refine lv_icmp_ge (tgt := 26) hx hb dX8_addSite_19 (by decide) (fun c9 => absurd c9 (show ¬ ((5 : Int32) ≤ (P 0 2)) from (sg_ge2 hw h7))) (fun _ => ?_)
  refine lv_iconst (v := 1) hx hb dX8_addSite_22 (by decide) ?_
  refine lv_goto (tgt := 27) hx hb dX8_addSite_23 (by decide) ?_
  have hPc := hP.sub (ws' := []) [] rfl
  have hDc := hD.sub (ws' := []) [] (by decide) rfl
  refine va_csv (W.runS (As := [.int 1]) (rest := []) ⟨hx, hb, hml, hown, hts⟩ (c_needState l D cI cZ cJ lo s.heap.size 1 (by decide)) (va_cwS 1 hts gX8_addSite_X8_needState rfl rfl rfl (by decide +kernel) ⟨(Nat.le_of_ble_eq_true rfl), (Nat.le_of_ble_eq_true rfl)⟩) ⟨Pre.blind, Pre.mk hPc (hDc.weaken (fun _ _ _ h => hAlo _ h)) hC hS hAlo⟩ rfl rfl hl.1 rfl (lv_room (Nat.le_of_ble_eq_true rfl)) dX8_addSite_27 ⟨(Nat.le_of_ble_eq_true rfl), (Nat.le_of_ble_eq_true rfl)⟩) (fun e_2 => ?_)
  clear hPc hDc
  refine lv_aload_n hx hb dX8_addSite_30 rfl (lv_at hl 0 rfl) ?_
  refine va_get (D := D) (ci := 8) (v := .ref (a 0)) (C := RX8) (T := TX8) (N := 3) hx hb hts in8 hown hK hP 0 rfl rfl 0 (by decide) (hts (.fieldLink RX8 10 "Granary" "now" "LGranary$Stock;") (by decide +kernel)) (fun _ h9 => h9) rfl dX8_addSite_31 ?_
  refine va_get (D := D) (ci := 6) (v := .ref (a 2)) (C := RX6) (T := TX6) (N := 9) hx hb hts in6 hown hK hP 1 rfl rfl 2 (by decide) (hts (.fieldLink RX8 48 "Granary$Stock" "sites" "LGranary$Sites;") (by decide +kernel)) (fun _ h9 => h9) rfl dX8_addSite_34 ?_
  refine lv_iload_n hx hb dX8_addSite_37 rfl (lv_at hl 1 rfl) ?_
  have hPc := hP.sub (ws' := (sg_St cI cZ a P q)) [1, 2, 3, 4, 5, 6, 7, 8, 9, 10, 11, 12, 13, 14, 15, 16, 17, 18, 19, 20, 21, 22, 23, 24, 25, 26, 27, 28, 29, 30, 31, 32, 33, 34, 35, 36, 37, 38, 39, 40, 41] rfl
  have hDc := hD.sub (ws' := (sg_St cI cZ a P q)) [1, 2, 3, 4, 5, 6, 7, 8, 9, 10, 11, 12, 13, 14, 15, 16, 17, 18, 19, 20, 21, 22, 23, 24, 25, 26, 27, 28, 29, 30, 31, 32, 33, 34, 35, 36, 37, 38, 39, 40, 41] (by decide) rfl
  have hFc := va_free (wc := (sg_St cI cZ a P q)) hD hS hA [1, 2, 3, 4, 5, 6, 7, 8, 9, 10, 11, 12, 13, 14, 15, 16, 17, 18, 19, 20, 21, 22, 23, 24, 25, 26, 27, 28, 29, 30, 31, 32, 33, 34, 35, 36, 37, 38, 39, 40, 41] rfl
  refine va_calli (va_runV (As := [.int x]) (rest := []) ⟨hx, hb, hml, hown, hts⟩ (c_sadd l D cI cZ cJ lo s.heap.size a P q x hw) (cwV 1 hts gX8_addSite_X5_add rfl rfl rfl (by decide +kernel) ⟨(Nat.le_of_ble_eq_true rfl), (Nat.le_of_ble_eq_true rfl)⟩) ⟨Pre.blind, va_recv hK hP (ci := 5) (q0 := 3) rfl rfl, Pre.mk hPc (hDc.weaken (fun _ _ _ h => hAlo _ h)) hC hS hAlo⟩ rfl rfl hl.1 rfl (lv_room (Nat.le_of_ble_eq_true rfl)) dX8_addSite_38 ⟨(Nat.le_of_ble_eq_true rfl), (Nat.le_of_ble_eq_true rfl)⟩) hS (fun q _ h => hFc q h) hFc (fun r_3 u t H1 locs1 ht hvm e_4 hB hz1 hk1 hS1 => ?_)
  have hS := hS1
  obtain ⟨hP1, hD1⟩ := hB
  rw [ht] at hP1
  obtain ⟨hP, hD⟩ := va_join (wr := [(g, .inr (8, [.ref (a 0), .ref (b 0), .ref (pa 0)]))]) (w1 := (sg_St cI cZ a (sg_sadd P x) q)) hP hD [1, 2, 3, 4, 5, 6, 7, 8, 9, 10, 11, 12, 13, 14, 15, 16, 17, 18, 19, 20, 21, 22, 23, 24, 25, 26, 27, 28, 29, 30, 31, 32, 33, 34, 35, 36, 37, 38, 39, 40, 41] [0] rfl rfl (by decide) (by decide) hk1 hFc hP1 hD1
  have e_4 : sg_sadd_r P x = r_3 := Eq.symm e_4
  subst e_4
  clear hFc hPc hDc ht hvm hz1 hk1 hS1 hP1 hD1
  generalize H1 = H at hP hS ⊢
  replace hP : va_P D vwCl ([(g, .inr (8, [.ref (a 0), .ref (b 0), .ref (pa 0)]))] ++ sg_St cI cZ a (sg_sadd P x) q) H := hP
  replace hD : va_D A ([(g, .inr (8, [.ref (a 0), .ref (b 0), .ref (pa 0)]))] ++ sg_St cI cZ a (sg_sadd P x) q) := hD
  refine W.widen (k := 0) (n := 0) (by omega) (by omega) ?_
  have hP9 : va_P D vwCl ([(g, .inr (8, [.ref (a 0), .ref (b 0), .ref (pa 0)]))] ++ sg_St cI cZ a (sg_g_addSite P x) q) H := by exact hP
  have hD9 : va_D A ([(g, .inr (8, [.ref (a 0), .ref (b 0), .ref (pa 0)]))] ++ sg_St cI cZ a (sg_g_addSite P x) q) := by exact hD
  exact W.iret (v := (sg_sadd_r P x)) hx hb hr (fun t ht hW => ⟨⟨(sg_sadd_r P x), (), rfl, rfl, by rw [ht]; exact hP9, hD9⟩, hS.F ht⟩) hS.2.2 dX8_addSite_41

def sg_drop_2 (P : sg_Pic) (x : Int32) (xt : Nat) : Nat → sg_Pic
  | 0 => P
  | j2 + 1 => (if ((sg_drop_2 P x xt j2) 33 ((j2 * 5) + xt)) = x then (sg_up (sg_drop_2 P x xt j2) 30 ((j2 * 5) + xt) 0) else (sg_drop_2 P x xt j2))
theorem sg_drop_2_K (P : sg_Pic) (x : Int32) (xt : Nat) : ∀ j : Nat, sg_KZ (sg_drop_2 P x xt j) P
  | 0 => by exact sg_KZ.of ⟨rfl, rfl⟩
  | j + 1 => by
    have h := sg_drop_2_K P x xt j
    rw [sg_drop_2]
    repeat' split
    all_goals first | exact h | (refine sg_KZ.trans ?_ h; exact sg_KZ.of ⟨rfl, rfl⟩) | (refine sg_KZ.trans ?_ h; exact sg_KZ.z _ (Or.inl rfl))

def sg_drop (P : sg_Pic) (x : Int32) (xt : Nat) : sg_Pic := (sg_drop_2 P x xt 6)

theorem sg_drop_K (P : sg_Pic) (x : Int32) (xt : Nat) : sg_KZ (sg_drop P x xt) P := by
  unfold sg_drop
  repeat' split
  all_goals first | exact sg_drop_2_K _ _ _ _ | exact sg_KZ.of ⟨rfl, rfl⟩
theorem sg_drop_W {P : sg_Pic} {x : Int32} {xt : Nat} (hw : sg_W P) : sg_W (sg_drop P x xt) := (sg_drop_K P x xt).W hw

set_option maxHeartbeats 4000000 in
set_option maxRecDepth 100000 in
/-- X4_dropFilledFrom -/
theorem c_drop (l : Launch) (D : va_G) (cI cZ cJ : ClassId) (lo sz : Nat) (a : Nat → Nat) (P : sg_Pic) (q : Nat → Int32) (x : Int32) (xt : Nat) (ht : xt < 5) : Met l yX4_dropFilledFrom wsX4_dropFilledFrom ({ frames := 1, cells := 0, slots := 0, locals := 21 }) (Pre lo D cI cZ cJ [.ref (a 3), .int x, .int (nI xt)] sz (sg_St cI cZ a P q)) (va_Qv (fun _ : Unit => True) (fun _ t => va_P D vwCl (sg_St cI cZ a (sg_drop P x xt) q) t.heap ∧ va_D (va_A (sg_St cI cZ a P q) sz) (sg_St cI cZ a (sg_drop P x xt) q)) (va_A (sg_St cI cZ a P q) sz)) 0 0 (va_A (sg_St cI cZ a P q) sz) := by
  refine Met.ofW (cc := cX4_dropFilledFrom) (maxL := 4) (ret := none) (by decide) rfl ?_
  intro p e s m args below meth c s₁ B hml hv
  obtain ⟨rfl, hsz, hP, hD0, hC⟩ := hv
  have hx := B.exec
  have hb := B.bytes
  have hr := B.returns
  have hts := atoms_spec (ws := wsX4_dropFilledFrom) B.pre
  have hown : s.vm.findClass RX4 = some m.cls := findClass_of_methodNamed B.named
  have hlocks := B.notSynchronized
  subst hsz
  have hK := hC.K
  have hD := hD0.self (sz := s.heap.size)
  have hAlo0 := va_A_lo hD0 hC.1
  generalize hAe : va_A (sg_St cI cZ a P q) s.heap.size = A at hD hAlo0 ⊢
  have hA : ∀ q : Nat, s.heap.size ≤ q → A q := fun q h => by rw [← hAe]; exact Or.inr h
  have hAlo : ∀ q, A q → lo ≤ q := hAlo0
  have hS : va_S A s.heap s.heap [] := va_S.rf
  have hP : va_P D vwCl (sg_St cI cZ a P q) s.heap := hP
  have hl := lv_entry ([.ref (a 3), .int x, .int (nI xt)]) (n := 4) (Nat.le_of_ble_eq_true rfl)
  rw [lg_entry_eq]
  generalize (lg_sl ([.ref (a 3), .int x, .int (nI xt)]) ++ List.replicate (4 - (lg_sl ([.ref (a 3), .int x, .int (nI xt)])).length) Slot.unset).toArray = ls at hl ⊢
  have hl : lv_has ls 4 [(0, .ref (a 3)), (1, .int x), (2, .int (nI xt))] := hl
  have in4 : ∀ w ∈ u_ws RX4 TX4 5, w ∈ wsX4_dropFilledFrom := by decide +kernel
  refine lv_iconst (v := 0) hx hb dX4_dropFilledFrom_0 (by decide) ?_
  refine lv_istore_n (lv' := [(3, .int 0), (0, .ref (a 3)), (1, .int x), (2, .int (nI xt))]) hx hb dX4_dropFilledFrom_1 rfl hl (by decide) rfl (fun ls hl => ?_)
  obtain ⟨H, hH9⟩ : ∃ z : Heap, z = s.heap := ⟨_, rfl⟩
  replace hS : va_S A s.heap H [] := by rw [hH9]; exact va_S.rf
  replace hP : va_P D vwCl (sg_St cI cZ a P q) H := by rw [hH9]; exact hP
  rw [← hH9]
  clear hH9
  generalize ([] : List Loc) = locs at hS ⊢
  obtain ⟨j2, h0j2⟩ : ∃ j : Nat, j = 0 := ⟨_, rfl⟩
  obtain ⟨P2, hP2⟩ : ∃ z9 : sg_Pic, z9 = sg_drop_2 P x xt j2 := ⟨_, rfl⟩
  replace hl : lv_has ls 4 [(3, .int (nI j2)), (0, .ref (a 3)), (1, .int x), (2, .int (nI xt))] := by rw [h0j2]; exact hl
  replace hP : va_P D vwCl (sg_St cI cZ a P2 q) H := by rw [hP2, h0j2]; exact hP
  replace hD : va_D A (sg_St cI cZ a P2 q) := by rw [hP2, h0j2]; exact hD
  have hjj2 : j2 ≤ 6 := by omega
  clear h0j2
  obtain ⟨n2, hn2⟩ : ∃ n : Nat, 6 < j2 + n := ⟨6 + 1, by omega⟩
  revert hP
  revert hD
  revert hS
  revert hl
  revert hn2
  revert hjj2
  revert hP2
  revert ls
  revert locs
  revert H
  revert P2
  revert j2
  induction n2 with
  | zero =>
    intro j2 P2 H locs ls hP2 hjj2 hn2 hl hS hD hP
    exact absurd hn2 (by omega)
  | succ n2 ih2 =>
    intro j2 P2 H locs ls hP2 hjj2 hn2 hl hS hD hP
    refine lv_iload_n hx hb dX4_dropFilledFrom_2 rfl (lv_at hl 0 rfl) ?_
    refine lv_bipush (v := 6) hx hb dX4_dropFilledFrom_3 (by decide) ?_
    have hkP2 : sg_KZ P2 P := by rw [hP2]; exact sg_drop_2_K P x xt j2
    have hB2 : (6 : Int32) = nI (6) := rfl
    refine lv_icmp_ge (tgt := 39) hx hb dX4_dropFilledFrom_5 (by decide) (fun c_1 => ?_) (fun c_1 => ?_)
    · have hE2 : 6 = j2 := (sg_eq hB2 c_1 hjj2 (by omega)).symm
      clear ih2 hn2
      subst hE2
      subst hP2
      refine W.widen (k := 0) (n := 0) (by omega) (by omega) ?_
      have hP9 : va_P D vwCl (sg_St cI cZ a (sg_drop P x xt) q) H := by exact hP
      have hD9 : va_D A (sg_St cI cZ a (sg_drop P x xt) q) := by exact hD
      exact W.vret hx hb hr (fun t ht hW => ⟨⟨(), rfl, trivial, by rw [ht]; exact hP9, hD9⟩, hS.F ht⟩) hS.2.2 dX4_dropFilledFrom_39
    · have hL2 : j2 < 6 := sg_lt hB2 c_1 (by omega)
      refine lv_aload_n hx hb dX4_dropFilledFrom_8 rfl (lv_at hl 1 rfl) ?_
      refine va_get (D := D) (ci := 4) (v := .ref (a 33)) (C := RX4) (T := TX4) (N := 5) hx hb hts in4 hown hK hP 3 rfl rfl 3 (by decide) (hts (.fieldLink RX4 22 "Granary$Policies" "source" "[I") (by decide +kernel)) (fun _ h9 => h9) rfl dX4_dropFilledFrom_9 ?_
      refine lv_iload_n hx hb dX4_dropFilledFrom_12 rfl (lv_at hl 0 rfl) ?_
      refine lv_iload_n hx hb dX4_dropFilledFrom_13 rfl (lv_at hl 3 rfl) ?_
      have hPc := hP.sub (ws' := []) [] rfl
      have hDc := hD.sub (ws' := []) [] (by decide) rfl
      refine vp_callSi (sg_dr (va_runSN (As := [.int (nI j2), .int (nI xt)]) (rest := [.ref (a 33)]) ⟨hx, hb, hml, hown, hts⟩ (c_pair l D cI cZ cJ lo H.size j2 xt) ⟨va_cnB 2 hts gX4_dropFilledFrom_X8_pair_n28 rfl rfl rfl (hC.nestX4_28) (hts (.initialized RX8) (by decide +kernel)) (by decide +kernel) ⟨(Nat.le_of_ble_eq_true rfl), (Nat.le_of_ble_eq_true rfl)⟩, (hts (.static yX8_pair) (by decide +kernel)), trivial⟩ ⟨Pre.blind, Pre.mk hPc (hDc.weaken (fun _ _ _ h => hAlo _ h)) hC hS hAlo⟩ rfl rfl hl.1 rfl (lv_room (Nat.le_of_ble_eq_true rfl)) dX4_dropFilledFrom_14 ⟨(Nat.le_of_ble_eq_true rfl), (Nat.le_of_ble_eq_true rfl)⟩)) (fun r_2 e_3 => ?_)
      clear hPc hDc
      have e_3 : nI ((j2 * 5) + xt) = r_2 := Eq.symm e_3
      subst e_3
      refine sg_iald hx hb hK hP 16 0 rfl rfl (j := (j2 * 5) + xt) rfl (by omega) (Nat.le_of_ble_eq_true rfl) dX4_dropFilledFrom_17 ?_
      refine lv_toi (y := P2 33 ((j2 * 5) + xt)) rfl ?_
      refine lv_iload_n hx hb dX4_dropFilledFrom_18 rfl (lv_at hl 2 rfl) ?_
      refine lv_icmp_ne (tgt := 33) hx hb dX4_dropFilledFrom_19 (by decide) (fun c_4 => ?_) (fun c_4 => ?_)
      · refine lv_iinc (v := nI (j2 + 1)) (lv' := [(3, .int (nI (j2 + 1))), (0, .ref (a 3)), (1, .int x), (2, .int (nI xt))]) hx hb dX4_dropFilledFrom_33 hl (k := 0) rfl (nI_1 j2) (by decide) rfl (fun ls hl => ?_)
        refine lv_goto (tgt := 2) hx hb dX4_dropFilledFrom_36 (by decide) ?_
        have hl8 := hl; have hS8 := hS; have hD8 := hD; have hP8 := hP
        subst hP2
        exact ih2 (j2 + 1) (sg_drop_2 P x xt j2) _ _ _ (show ((sg_drop_2 P x xt j2) : sg_Pic) = sg_drop_2 P x xt (j2 + 1) from by rw [sg_drop_2, if_neg c_4]) (by omega) (by omega) (lv_sub hl8 [0, 1, 2, 3] rfl) hS8 hD8 hP8
      · refine lv_aload_n hx hb dX4_dropFilledFrom_22 rfl (lv_at hl 1 rfl) ?_
        refine va_get (D := D) (ci := 4) (v := .ref (a 30)) (C := RX4) (T := TX4) (N := 5) hx hb hts in4 hown hK hP 3 rfl rfl 0 (by decide) (hts (.fieldLink RX4 11 "Granary$Policies" "set" "[Z") (by decide +kernel)) (fun _ h9 => h9) rfl dX4_dropFilledFrom_23 ?_
        refine lv_iload_n hx hb dX4_dropFilledFrom_26 rfl (lv_at hl 0 rfl) ?_
        refine lv_iload_n hx hb dX4_dropFilledFrom_27 rfl (lv_at hl 3 rfl) ?_
        have hPc := hP.sub (ws' := []) [] rfl
        have hDc := hD.sub (ws' := []) [] (by decide) rfl
        refine vp_callSi (sg_dr (va_runSN (As := [.int (nI j2), .int (nI xt)]) (rest := [.ref (a 30)]) ⟨hx, hb, hml, hown, hts⟩ (c_pair l D cI cZ cJ lo H.size j2 xt) ⟨va_cnB 2 hts gX4_dropFilledFrom_X8_pair_n28 rfl rfl rfl (hC.nestX4_28) (hts (.initialized RX8) (by decide +kernel)) (by decide +kernel) ⟨(Nat.le_of_ble_eq_true rfl), (Nat.le_of_ble_eq_true rfl)⟩, (hts (.static yX8_pair) (by decide +kernel)), trivial⟩ ⟨Pre.blind, Pre.mk hPc (hDc.weaken (fun _ _ _ h => hAlo _ h)) hC hS hAlo⟩ rfl rfl hl.1 rfl (lv_room (Nat.le_of_ble_eq_true rfl)) dX4_dropFilledFrom_28 ⟨(Nat.le_of_ble_eq_true rfl), (Nat.le_of_ble_eq_true rfl)⟩)) (fun r_5 e_6 => ?_)
        clear hPc hDc
        have e_6 : nI ((j2 * 5) + xt) = r_5 := Eq.symm e_6
        subst e_6
        refine lv_iconst (v := 0) hx hb dX4_dropFilledFrom_31 (by decide) ?_
        refine sg_zast hx hb hK hP hD hS 13 1 rfl rfl (j := (j2 * 5) + xt) rfl (by omega) (Nat.le_of_ble_eq_true rfl) (by decide) dX4_dropFilledFrom_32 (fun H locs hP hD hS => ?_)
        replace hP : va_P D vwCl (sg_St cI cZ a (sg_up P2 30 ((j2 * 5) + xt) 0) q) H := hP
        replace hD : va_D A (sg_St cI cZ a (sg_up P2 30 ((j2 * 5) + xt) 0) q) := hD
        refine lv_iinc (v := nI (j2 + 1)) (lv' := [(3, .int (nI (j2 + 1))), (0, .ref (a 3)), (1, .int x), (2, .int (nI xt))]) hx hb dX4_dropFilledFrom_33 hl (k := 0) rfl (nI_1 j2) (by decide) rfl (fun ls hl => ?_)
        refine lv_goto (tgt := 2) hx hb dX4_dropFilledFrom_36 (by decide) ?_
        have hl8 := hl; have hS8 := hS; have hD8 := hD; have hP8 := hP
        subst hP2
        exact ih2 (j2 + 1) (sg_up (sg_drop_2 P x xt j2) 30 ((j2 * 5) + xt) 0) _ _ _ (show (sg_up (sg_drop_2 P x xt j2) 30 ((j2 * 5) + xt) 0 : sg_Pic) = sg_drop_2 P x xt (j2 + 1) from by rw [sg_drop_2, if_pos c_4]) (by omega) (by omega) (lv_sub hl8 [0, 1, 2, 3] rfl) hS8 hD8 hP8

def sg_g_setRoute_r (P : sg_Pic) (xs : Nat) (xt : Nat) (x : Int32) : Int32 := (if x = 0 then (sg_daysBetween P (nI xs) (nI xt)) else (sg_daysBetween P (nI xs) (nI xt)))

def sg_g_setRoute (P : sg_Pic) (xs : Nat) (xt : Nat) (x : Int32) : sg_Pic := (if x = 0 then (sg_drop (sg_up P 21 ((xs * 5) + xt) x) (nI xs) xt) else (sg_up P 21 ((xs * 5) + xt) x))

set_option maxHeartbeats 4000000 in
set_option maxRecDepth 100000 in
/-- X8_setRoute -/
theorem c_g_setRoute (l : Launch) (D : va_G) (cI cZ cJ : ClassId) (lo sz : Nat) (g : Nat) (pa : Nat → Nat) (b : Nat → Nat) (a : Nat → Nat) (P : sg_Pic) (q : Nat → Int32) (xs : Nat) (xt : Nat) (x : Int32) (hw : sg_W P) (hs : xs < sg_cn P 2) (ht : xt < sg_cn P 2) (hne : ¬ (xs = xt)) (h1 : (0 : Int32) ≤ x) (h2 : x ≤ 9) : Met l yX8_setRoute wsX8_setRoute ({ frames := 2, cells := 0, slots := 0, locals := 44 }) (Pre lo D cI cZ cJ [.ref g, .int (nI xs), .int (nI xt), .int x] sz ([(g, .inr (8, [.ref (a 0), .ref (b 0), .ref (pa 0)]))] ++ sg_St cI cZ a P q)) (va_Qi (fun (r : Int32) (_ : Unit) => r = sg_g_setRoute_r P xs xt x) (fun _ t => va_P D vwCl ([(g, .inr (8, [.ref (a 0), .ref (b 0), .ref (pa 0)]))] ++ sg_St cI cZ a (sg_g_setRoute P xs xt x) q) t.heap ∧ va_D (va_A ([(g, .inr (8, [.ref (a 0), .ref (b 0), .ref (pa 0)]))] ++ sg_St cI cZ a P q) sz) ([(g, .inr (8, [.ref (a 0), .ref (b 0), .ref (pa 0)]))] ++ sg_St cI cZ a (sg_g_setRoute P xs xt x) q)) (va_A ([(g, .inr (8, [.ref (a 0), .ref (b 0), .ref (pa 0)]))] ++ sg_St cI cZ a P q) sz)) 0 0 (va_A ([(g, .inr (8, [.ref (a 0), .ref (b 0), .ref (pa 0)]))] ++ sg_St cI cZ a P q) sz) := by
  refine Met.ofW (cc := cX8_setRoute) (maxL := 5) (ret := (some .int)) (by decide) rfl ?_
  intro p e s m args below meth c s₁ B hml hv
  obtain ⟨rfl, hsz, hP, hD0, hC⟩ := hv
  have hx := B.exec
  have hb := B.bytes
  have hr := B.returns
  have hts := atoms_spec (ws := wsX8_setRoute) B.pre
  have hown : s.vm.findClass RX8 = some m.cls := findClass_of_methodNamed B.named
  have hlocks := B.notSynchronized
  subst hsz
  have hn1 : sg_cn P 1 ≤ 6 := hw.n1
  have hn2 : sg_cn P 2 ≤ 5 := hw.n2
  have hn3 : sg_cn P 3 ≤ 200 := hw.n3
  have hn4 : sg_cn P 4 ≤ 60 := hw.n4
  have hn5 : sg_cn P 5 ≤ 90 := hw.n5
  have hK := hC.K
  have hD := hD0.self (sz := s.heap.size)
  have hAlo0 := va_A_lo hD0 hC.1
  generalize hAe : va_A ([(g, .inr (8, [.ref (a 0), .ref (b 0), .ref (pa 0)]))] ++ sg_St cI cZ a P q) s.heap.size = A at hD hAlo0 ⊢
  have hA : ∀ q : Nat, s.heap.size ≤ q → A q := fun q h => by rw [← hAe]; exact Or.inr h
  have hAlo : ∀ q, A q → lo ≤ q := hAlo0
  have hS : va_S A s.heap s.heap [] := va_S.rf
  have hP : va_P D vwCl ([(g, .inr (8, [.ref (a 0), .ref (b 0), .ref (pa 0)]))] ++ sg_St cI cZ a P q) s.heap := hP
  have hl := lv_entry ([.ref g, .int (nI xs), .int (nI xt), .int x]) (n := 5) (Nat.le_of_ble_eq_true rfl)
  rw [lg_entry_eq]
  generalize (lg_sl ([.ref g, .int (nI xs), .int (nI xt), .int x]) ++ List.replicate (5 - (lg_sl ([.ref g, .int (nI xs), .int (nI xt), .int x])).length) Slot.unset).toArray = ls at hl ⊢
  have hl : lv_has ls 5 [(0, .ref g), (1, .int (nI xs)), (2, .int (nI xt)), (3, .int x)] := hl
  have in5 : ∀ w ∈ u_ws RX5 TX5 3, w ∈ wsX8_setRoute := by decide +kernel
  have in6 : ∀ w ∈ u_ws RX6 TX6 9, w ∈ wsX8_setRoute := by decide +kernel
  have in8 : ∀ w ∈ u_ws RX8 TX8 3, w ∈ wsX8_setRoute := by decide +kernel
  refine lv_aload_n hx hb dX8_setRoute_0 rfl (lv_at hl 0 rfl) ?_
  refine lv_iload_n hx hb dX8_setRoute_1 rfl (lv_at hl 1 rfl) ?_
  have hPc := hP.sub (ws' := [(g, .inr (8, [.ref (a 0), .ref (b 0), .ref (pa 0)])), (a 0, .inr (6, [.int (P 0 0), .ref (a 1), .ref (a 2), .ref (a 3), .ref (a 4), .ref (a 5), .ref (a 6), .ref (a 70), .ref (a 71)])), (a 2, .inr (5, [.int (P 0 2), .ref (a 20), .ref (a 21)]))]) [0, 1, 3] rfl
  have hDc := hD.sub (ws' := [(g, .inr (8, [.ref (a 0), .ref (b 0), .ref (pa 0)])), (a 0, .inr (6, [.int (P 0 0), .ref (a 1), .ref (a 2), .ref (a 3), .ref (a 4), .ref (a 5), .ref (a 6), .ref (a 70), .ref (a 71)])), (a 2, .inr (5, [.int (P 0 2), .ref (a 20), .ref (a 21)]))]) [0, 1, 3] (by decide) rfl
  refine va_csv (W.runV (As := [.int (nI xs)]) (rest := []) ⟨hx, hb, hml, hown, hts⟩ (c_needSite l D cI cZ cJ lo s.heap.size g pa b a P xs hw (by omega)) (cwV 1 hts gX8_setRoute_X8_needSite rfl rfl rfl (by decide +kernel) ⟨(Nat.le_of_ble_eq_true rfl), (Nat.le_of_ble_eq_true rfl)⟩) ⟨Pre.blind, va_recv hK hP (ci := 8) (q0 := 0) rfl rfl, Pre.mk hPc (hDc.weaken (fun _ _ _ h => hAlo _ h)) hC hS hAlo⟩ rfl rfl hl.1 rfl (lv_room (Nat.le_of_ble_eq_true rfl)) dX8_setRoute_2 ⟨(Nat.le_of_ble_eq_true rfl), (Nat.le_of_ble_eq_true rfl)⟩) (fun e_1 => ?_)
  clear hPc hDc
  refine lv_aload_n hx hb dX8_setRoute_5 rfl (lv_at hl 0 rfl) ?_
  refine lv_iload_n hx hb dX8_setRoute_6 rfl (lv_at hl 2 rfl) ?_
  have hPc := hP.sub (ws' := [(g, .inr (8, [.ref (a 0), .ref (b 0), .ref (pa 0)])), (a 0, .inr (6, [.int (P 0 0), .ref (a 1), .ref (a 2), .ref (a 3), .ref (a 4), .ref (a 5), .ref (a 6), .ref (a 70), .ref (a 71)])), (a 2, .inr (5, [.int (P 0 2), .ref (a 20), .ref (a 21)]))]) [0, 1, 3] rfl
  have hDc := hD.sub (ws' := [(g, .inr (8, [.ref (a 0), .ref (b 0), .ref (pa 0)])), (a 0, .inr (6, [.int (P 0 0), .ref (a 1), .ref (a 2), .ref (a 3), .ref (a 4), .ref (a 5), .ref (a 6), .ref (a 70), .ref (a 71)])), (a 2, .inr (5, [.int (P 0 2), .ref (a 20), .ref (a 21)]))]) [0, 1, 3] (by decide) rfl
  refine va_csv (W.runV (As := [.int (nI xt)]) (rest := []) ⟨hx, hb, hml, hown, hts⟩ (c_needSite l D cI cZ cJ lo s.heap.size g pa b a P xt hw (by omega)) (cwV 1 hts gX8_setRoute_X8_needSite rfl rfl rfl (by decide +kernel) ⟨(Nat.le_of_ble_eq_true rfl), (Nat.le_of_ble_eq_true rfl)⟩) ⟨Pre.blind, va_recv hK hP (ci := 8) (q0 := 0) rfl rfl, Pre.mk hPc (hDc.weaken (fun _ _ _ h => hAlo _ h)) hC hS hAlo⟩ rfl rfl hl.1 rfl (lv_room (Nat.le_of_ble_eq_true rfl)) dX8_setRoute_7 ⟨(Nat.le_of_ble_eq_true rfl), (Nat.le_of_ble_eq_true rfl)⟩) (fun e_2 => ?_)
  clear hPc hDc
  refine lv_iload_n hx hb dX8_setRoute_10 rfl (lv_at hl 1 rfl) ?_
  refine lv_iload_n hx hb dX8_setRoute_11 rfl (lv_at hl 2 rfl) ?_
  refine lv_icmp_eq (tgt := 19) hx hb dX8_setRoute_12 (by decide) (fun c9 => absurd c9 (show ¬ ((nI xs) = (nI xt)) from (fun h9 => hne ((nI_eq (by omega) (by omega)).mp h9)))) (fun _ => ?_)
  refine lv_iconst (v := 1) hx hb dX8_setRoute_15 (by decide) ?_
  refine lv_goto (tgt := 20) hx hb dX8_setRoute_16 (by decide) ?_
  have hPc := hP.sub (ws' := []) [] rfl
  have hDc := hD.sub (ws' := []) [] (by decide) rfl
  refine va_csv (W.runS (As := [.int 1]) (rest := []) ⟨hx, hb, hml, hown, hts⟩ (c_needArgument l D cI cZ cJ lo s.heap.size 1 (by decide)) (va_cwS 1 hts gX8_setRoute_X8_needArgument rfl rfl rfl (by decide +kernel) ⟨(Nat.le_of_ble_eq_true rfl), (Nat.le_of_ble_eq_true rfl)⟩) ⟨Pre.blind, Pre.mk hPc (hDc.weaken (fun _ _ _ h => hAlo _ h)) hC hS hAlo⟩ rfl rfl hl.1 rfl (lv_room (Nat.le_of_ble_eq_true rfl)) dX8_setRoute_20 ⟨(Nat.le_of_ble_eq_true rfl), (Nat.le_of_ble_eq_true rfl)⟩) (fun e_3 => ?_)
  clear hPc hDc
  refine lv_iload_n hx hb dX8_setRoute_23 rfl (lv_at hl 3 rfl) ?_
  refine lv_iconst (v := 0) hx hb dX8_setRoute_24 (by decide) ?_
  refine lv_bipush (v := 9) hx hb dX8_setRoute_25 (by decide) ?_
  have hPc := hP.sub (ws' := []) [] rfl
  have hDc := hD.sub (ws' := []) [] (by decide) rfl
  refine va_csv (W.runS (As := [.int x, .int 0, .int 9]) (rest := []) ⟨hx, hb, hml, hown, hts⟩ (c_needWithin l D cI cZ cJ lo s.heap.size x 0 9 h1 h2) (va_cwS 3 hts gX8_setRoute_X8_needWithin rfl rfl rfl (by decide +kernel) ⟨(Nat.le_of_ble_eq_true rfl), (Nat.le_of_ble_eq_true rfl)⟩) ⟨Pre.blind, Pre.mk hPc (hDc.weaken (fun _ _ _ h => hAlo _ h)) hC hS hAlo⟩ rfl rfl hl.1 rfl (lv_room (Nat.le_of_ble_eq_true rfl)) dX8_setRoute_27 ⟨(Nat.le_of_ble_eq_true rfl), (Nat.le_of_ble_eq_true rfl)⟩) (fun e_4 => ?_)
  clear hPc hDc
  refine lv_aload_n hx hb dX8_setRoute_30 rfl (lv_at hl 0 rfl) ?_
  refine va_get (D := D) (ci := 8) (v := .ref (a 0)) (C := RX8) (T := TX8) (N := 3) hx hb hts in8 hown hK hP 0 rfl rfl 0 (by decide) (hts (.fieldLink RX8 10 "Granary" "now" "LGranary$Stock;") (by decide +kernel)) (fun _ h9 => h9) rfl dX8_setRoute_31 ?_
  refine va_get (D := D) (ci := 6) (v := .ref (a 2)) (C := RX6) (T := TX6) (N := 9) hx hb hts in6 hown hK hP 1 rfl rfl 2 (by decide) (hts (.fieldLink RX8 48 "Granary$Stock" "sites" "LGranary$Sites;") (by decide +kernel)) (fun _ h9 => h9) rfl dX8_setRoute_34 ?_
  refine lv_iload_n hx hb dX8_setRoute_37 rfl (lv_at hl 1 rfl) ?_
  refine lv_iload_n hx hb dX8_setRoute_38 rfl (lv_at hl 2 rfl) ?_
  have hPc := hP.sub (ws' := [(a 2, .inr (5, [.int (P 0 2), .ref (a 20), .ref (a 21)])), (a 21, .inl (cI, 25, .inl (P 21)))]) [3, 13] rfl
  have hDc := hD.sub (ws' := [(a 2, .inr (5, [.int (P 0 2), .ref (a 20), .ref (a 21)])), (a 21, .inl (cI, 25, .inl (P 21)))]) [3, 13] (by decide) rfl
  refine vp_callSi (W.runV (As := [.int (nI xs), .int (nI xt)]) (rest := []) ⟨hx, hb, hml, hown, hts⟩ (c_daysBetween l D cI cZ cJ lo s.heap.size a P (nI xs) (nI xt) hw) (cwV 2 hts gX8_setRoute_X5_daysBetween rfl rfl rfl (by decide +kernel) ⟨(Nat.le_of_ble_eq_true rfl), (Nat.le_of_ble_eq_true rfl)⟩) ⟨Pre.blind, va_recv hK hP (ci := 5) (q0 := 3) rfl rfl, Pre.mk hPc (hDc.weaken (fun _ _ _ h => hAlo _ h)) hC hS hAlo⟩ rfl rfl hl.1 rfl (lv_room (Nat.le_of_ble_eq_true rfl)) dX8_setRoute_39 ⟨(Nat.le_of_ble_eq_true rfl), (Nat.le_of_ble_eq_true rfl)⟩) (fun r_5 e_6 => ?_)
  clear hPc hDc
  have e_6 : sg_daysBetween P (nI xs) (nI xt) = r_5 := Eq.symm e_6
  subst e_6
  refine lv_istore (lv' := [(4, .int (sg_daysBetween P (nI xs) (nI xt))), (0, .ref g), (1, .int (nI xs)), (2, .int (nI xt)), (3, .int x)]) hx hb dX8_setRoute_42 hl (by decide) rfl (fun ls hl => ?_)
  refine lv_aload_n hx hb dX8_setRoute_44 rfl (lv_at hl 1 rfl) ?_
  refine va_get (D := D) (ci := 8) (v := .ref (a 0)) (C := RX8) (T := TX8) (N := 3) hx hb hts in8 hown hK hP 0 rfl rfl 0 (by decide) (hts (.fieldLink RX8 10 "Granary" "now" "LGranary$Stock;") (by decide +kernel)) (fun _ h9 => h9) rfl dX8_setRoute_45 ?_
  refine va_get (D := D) (ci := 6) (v := .ref (a 2)) (C := RX6) (T := TX6) (N := 9) hx hb hts in6 hown hK hP 1 rfl rfl 2 (by decide) (hts (.fieldLink RX8 48 "Granary$Stock" "sites" "LGranary$Sites;") (by decide +kernel)) (fun _ h9 => h9) rfl dX8_setRoute_48 ?_
  refine va_get (D := D) (ci := 5) (v := .ref (a 21)) (C := RX5) (T := TX5) (N := 3) hx hb hts in5 hown hK hP 3 rfl rfl 2 (by decide) (hts (.fieldLink RX8 69 "Granary$Sites" "days" "[I") (by decide +kernel)) (fun _ h9 => h9) rfl dX8_setRoute_51 ?_
  refine lv_iload_n hx hb dX8_setRoute_54 rfl (lv_at hl 2 rfl) ?_
  refine lv_iload_n hx hb dX8_setRoute_55 rfl (lv_at hl 3 rfl) ?_
  have hPc := hP.sub (ws' := []) [] rfl
  have hDc := hD.sub (ws' := []) [] (by decide) rfl
  refine vp_callSi (W.runS (As := [.int (nI xs), .int (nI xt)]) (rest := [.ref (a 21)]) ⟨hx, hb, hml, hown, hts⟩ (c_pair l D cI cZ cJ lo s.heap.size xs xt) (va_cwS 2 hts gX8_setRoute_X8_pair rfl rfl rfl (by decide +kernel) ⟨(Nat.le_of_ble_eq_true rfl), (Nat.le_of_ble_eq_true rfl)⟩) ⟨Pre.blind, Pre.mk hPc (hDc.weaken (fun _ _ _ h => hAlo _ h)) hC hS hAlo⟩ rfl rfl hl.1 rfl (lv_room (Nat.le_of_ble_eq_true rfl)) dX8_setRoute_56 ⟨(Nat.le_of_ble_eq_true rfl), (Nat.le_of_ble_eq_true rfl)⟩) (fun r_7 e_8 => ?_)
  clear hPc hDc
  have e_8 : nI ((xs * 5) + xt) = r_7 := Eq.symm e_8
  subst e_8
  refine lv_iload_n hx hb dX8_setRoute_59 rfl (lv_at hl 4 rfl) ?_
  refine sg_iast hx hb hK hP hD hS 13 0 rfl rfl (j := (xs * 5) + xt) rfl (by omega) (Nat.le_of_ble_eq_true rfl) dX8_setRoute_60 (fun H locs hP hD hS => ?_)
  replace hP : va_P D vwCl ([(g, .inr (8, [.ref (a 0), .ref (b 0), .ref (pa 0)]))] ++ sg_St cI cZ a (sg_up P 21 ((xs * 5) + xt) x) q) H := hP
  replace hD : va_D A ([(g, .inr (8, [.ref (a 0), .ref (b 0), .ref (pa 0)]))] ++ sg_St cI cZ a (sg_up P 21 ((xs * 5) + xt) x) q) := hD
  refine lv_iload_n hx hb dX8_setRoute_61 rfl (lv_at hl 4 rfl) ?_
  refine lv_if_ne (tgt := 77) hx hb dX8_setRoute_62 (by decide) (fun c_9 => ?_) (fun c_9 => ?_)
  · refine lv_iload hx hb dX8_setRoute_77 (lv_at hl 0 rfl) ?_
    refine W.widen (k := 0) (n := 0) (by omega) (by omega) ?_
    have e9 : sg_g_setRoute P xs xt x = sg_up P 21 ((xs * 5) + xt) x := by rw [sg_g_setRoute, if_neg c_9]
    have hP9 : va_P D vwCl ([(g, .inr (8, [.ref (a 0), .ref (b 0), .ref (pa 0)]))] ++ sg_St cI cZ a (sg_g_setRoute P xs xt x) q) H := by rw [e9]; exact hP
    have hD9 : va_D A ([(g, .inr (8, [.ref (a 0), .ref (b 0), .ref (pa 0)]))] ++ sg_St cI cZ a (sg_g_setRoute P xs xt x) q) := by rw [e9]; exact hD
    exact W.iret (v := (sg_daysBetween P (nI xs) (nI xt))) hx hb hr (fun t ht hW => ⟨⟨(sg_daysBetween P (nI xs) (nI xt)), (), rfl, (show (sg_daysBetween P (nI xs) (nI xt) : Int32) = sg_g_setRoute_r P xs xt x from by rw [sg_g_setRoute_r, if_neg c_9]), by rw [ht]; exact hP9, hD9⟩, hS.F ht⟩) hS.2.2 dX8_setRoute_79
  · refine lv_aload_n hx hb dX8_setRoute_65 rfl (lv_at hl 1 rfl) ?_
    refine va_get (D := D) (ci := 8) (v := .ref (a 0)) (C := RX8) (T := TX8) (N := 3) hx hb hts in8 hown hK hP 0 rfl rfl 0 (by decide) (hts (.fieldLink RX8 10 "Granary" "now" "LGranary$Stock;") (by decide +kernel)) (fun _ h9 => h9) rfl dX8_setRoute_66 ?_
    refine va_get (D := D) (ci := 6) (v := .ref (a 3)) (C := RX6) (T := TX6) (N := 9) hx hb hts in6 hown hK hP 1 rfl rfl 3 (by decide) (hts (.fieldLink RX8 76 "Granary$Stock" "policies" "LGranary$Policies;") (by decide +kernel)) (fun _ h9 => h9) rfl dX8_setRoute_69 ?_
    refine lv_iload_n hx hb dX8_setRoute_72 rfl (lv_at hl 2 rfl) ?_
    refine lv_iload_n hx hb dX8_setRoute_73 rfl (lv_at hl 3 rfl) ?_
    have hPc := hP.sub (ws' := (sg_St cI cZ a (sg_up P 21 ((xs * 5) + xt) x) q)) [1, 2, 3, 4, 5, 6, 7, 8, 9, 10, 11, 12, 13, 14, 15, 16, 17, 18, 19, 20, 21, 22, 23, 24, 25, 26, 27, 28, 29, 30, 31, 32, 33, 34, 35, 36, 37, 38, 39, 40, 41] rfl
    have hDc := hD.sub (ws' := (sg_St cI cZ a (sg_up P 21 ((xs * 5) + xt) x) q)) [1, 2, 3, 4, 5, 6, 7, 8, 9, 10, 11, 12, 13, 14, 15, 16, 17, 18, 19, 20, 21, 22, 23, 24, 25, 26, 27, 28, 29, 30, 31, 32, 33, 34, 35, 36, 37, 38, 39, 40, 41] (by decide) rfl
    have hFc := va_free (wc := (sg_St cI cZ a (sg_up P 21 ((xs * 5) + xt) x) q)) hD hS hA [1, 2, 3, 4, 5, 6, 7, 8, 9, 10, 11, 12, 13, 14, 15, 16, 17, 18, 19, 20, 21, 22, 23, 24, 25, 26, 27, 28, 29, 30, 31, 32, 33, 34, 35, 36, 37, 38, 39, 40, 41] rfl
    refine va_callv (va_runV (As := [.int (nI xs), .int (nI xt)]) (rest := []) ⟨hx, hb, hml, hown, hts⟩ (c_drop l D cI cZ cJ lo H.size a (sg_up P 21 ((xs * 5) + xt) x) q (nI xs) xt (by omega)) (cwV 2 hts gX8_setRoute_X4_dropFilledFrom rfl rfl rfl (by decide +kernel) ⟨(Nat.le_of_ble_eq_true rfl), (Nat.le_of_ble_eq_true rfl)⟩) ⟨Pre.blind, va_recv hK hP (ci := 4) (q0 := 4) rfl rfl, Pre.mk hPc (hDc.weaken (fun _ _ _ h => hAlo _ h)) hC hS hAlo⟩ rfl rfl hl.1 rfl (lv_room (Nat.le_of_ble_eq_true rfl)) dX8_setRoute_74 ⟨(Nat.le_of_ble_eq_true rfl), (Nat.le_of_ble_eq_true rfl)⟩) hS (fun q _ h => hFc q h) hFc (fun u t H1 locs1 ht hvm e_10 hB hz1 hk1 hS1 => ?_)
    have hS := hS1
    obtain ⟨hP1, hD1⟩ := hB
    rw [ht] at hP1
    obtain ⟨hP, hD⟩ := va_join (wr := [(g, .inr (8, [.ref (a 0), .ref (b 0), .ref (pa 0)]))]) (w1 := (sg_St cI cZ a (sg_drop (sg_up P 21 ((xs * 5) + xt) x) (nI xs) xt) q)) hP hD [1, 2, 3, 4, 5, 6, 7, 8, 9, 10, 11, 12, 13, 14, 15, 16, 17, 18, 19, 20, 21, 22, 23, 24, 25, 26, 27, 28, 29, 30, 31, 32, 33, 34, 35, 36, 37, 38, 39, 40, 41] [0] rfl rfl (by decide) (by decide) hk1 hFc hP1 hD1
    have e_10 : True := e_10
    clear hFc hPc hDc ht hvm hz1 hk1 hS1 hP1 hD1
    generalize H1 = H at hP hS ⊢
    replace hP : va_P D vwCl ([(g, .inr (8, [.ref (a 0), .ref (b 0), .ref (pa 0)]))] ++ sg_St cI cZ a (sg_drop (sg_up P 21 ((xs * 5) + xt) x) (nI xs) xt) q) H := hP
    replace hD : va_D A ([(g, .inr (8, [.ref (a 0), .ref (b 0), .ref (pa 0)]))] ++ sg_St cI cZ a (sg_drop (sg_up P 21 ((xs * 5) + xt) x) (nI xs) xt) q) := hD
    refine lv_iload hx hb dX8_setRoute_77 (lv_at hl 0 rfl) ?_
    refine W.widen (k := 0) (n := 0) (by omega) (by omega) ?_
    have e9 : sg_g_setRoute P xs xt x = sg_drop (sg_up P 21 ((xs * 5) + xt) x) (nI xs) xt := by rw [sg_g_setRoute, if_pos c_9]
    have hP9 : va_P D vwCl ([(g, .inr (8, [.ref (a 0), .ref (b 0), .ref (pa 0)]))] ++ sg_St cI cZ a (sg_g_setRoute P xs xt x) q) H := by rw [e9]; exact hP
    have hD9 : va_D A ([(g, .inr (8, [.ref (a 0), .ref (b 0), .ref (pa 0)]))] ++ sg_St cI cZ a (sg_g_setRoute P xs xt x) q) := by rw [e9]; exact hD
    exact W.iret (v := (sg_daysBetween P (nI xs) (nI xt))) hx hb hr (fun t ht hW => ⟨⟨(sg_daysBetween P (nI xs) (nI xt)), (), rfl, (show (sg_daysBetween P (nI xs) (nI xt) : Int32) = sg_g_setRoute_r P xs xt x from by rw [sg_g_setRoute_r, if_pos c_9]), by rw [ht]; exact hP9, hD9⟩, hS.F ht⟩) hS.2.2 dX8_setRoute_79

def sg_g_setPolicy_r (P : sg_Pic) (xi : Nat) (xs : Nat) (x : Int32) (y : Int32) (z : Int32) (v : Int32) : Int32 := (if z = (-1) then (sg_stands P xi xs) else (sg_stands P xi xs))

def sg_g_setPolicy (P : sg_Pic) (xi : Nat) (xs : Nat) (x : Int32) (y : Int32) (z : Int32) (v : Int32) : sg_Pic := (if z = (-1) then (sg_up (sg_up (sg_up (sg_up (sg_up P 30 ((xi * 5) + xs) 1) 31 ((xi * 5) + xs) x) 32 ((xi * 5) + xs) y) 33 ((xi * 5) + xs) z) 34 ((xi * 5) + xs) v) else (sg_up (sg_up (sg_up (sg_up (sg_up P 30 ((xi * 5) + xs) 1) 31 ((xi * 5) + xs) x) 32 ((xi * 5) + xs) y) 33 ((xi * 5) + xs) z) 34 ((xi * 5) + xs) v))

set_option maxHeartbeats 4000000 in
set_option maxRecDepth 100000 in
/-- X8_setPolicy -/
theorem c_g_setPolicy (l : Launch) (D : va_G) (cI cZ cJ : ClassId) (lo sz : Nat) (g : Nat) (pa : Nat → Nat) (b : Nat → Nat) (a : Nat → Nat) (P : sg_Pic) (q : Nat → Int32) (xi : Nat) (xs : Nat) (x : Int32) (y : Int32) (z : Int32) (v : Int32) (hw : sg_W P) (hi : xi < sg_cn P 1) (hs : xs < sg_cn P 2) (h1 : (0 : Int32) ≤ x) (h2 : x ≤ 999) (h3 : x ≤ y) (h4 : y ≤ 999) (hv1 : z = -1 → (1 : Int32) ≤ v) (hv2 : z = -1 → v ≤ 20) (hd : ¬ (z = -1) → ¬ (sg_daysBetween P z (nI xs) ≤ 0)) : Met l yX8_setPolicy wsX8_setPolicy ({ frames := 2, cells := 0, slots := 0, locals := 43 }) (Pre lo D cI cZ cJ [.ref g, .int (nI xi), .int (nI xs), .int x, .int y, .int z, .int v] sz ([(g, .inr (8, [.ref (a 0), .ref (b 0), .ref (pa 0)]))] ++ sg_St cI cZ a P q)) (va_Qi (fun (r : Int32) (_ : Unit) => r = sg_g_setPolicy_r P xi xs x y z v) (fun _ t => va_P D vwCl ([(g, .inr (8, [.ref (a 0), .ref (b 0), .ref (pa 0)]))] ++ sg_St cI cZ a (sg_g_setPolicy P xi xs x y z v) q) t.heap ∧ va_D (va_A ([(g, .inr (8, [.ref (a 0), .ref (b 0), .ref (pa 0)]))] ++ sg_St cI cZ a P q) sz) ([(g, .inr (8, [.ref (a 0), .ref (b 0), .ref (pa 0)]))] ++ sg_St cI cZ a (sg_g_setPolicy P xi xs x y z v) q)) (va_A ([(g, .inr (8, [.ref (a 0), .ref (b 0), .ref (pa 0)]))] ++ sg_St cI cZ a P q) sz)) 0 0 (va_A ([(g, .inr (8, [.ref (a 0), .ref (b 0), .ref (pa 0)]))] ++ sg_St cI cZ a P q) sz) := by
  refine Met.ofW (cc := cX8_setPolicy) (maxL := 9) (ret := (some .boolean)) (by decide) rfl ?_
  intro p e s m args below meth c s₁ B hml hv
  obtain ⟨rfl, hsz, hP, hD0, hC⟩ := hv
  have hx := B.exec
  have hb := B.bytes
  have hr := B.returns
  have hts := atoms_spec (ws := wsX8_setPolicy) B.pre
  have hown : s.vm.findClass RX8 = some m.cls := findClass_of_methodNamed B.named
  have hlocks := B.notSynchronized
  subst hsz
  have hn1 : sg_cn P 1 ≤ 6 := hw.n1
  have hn2 : sg_cn P 2 ≤ 5 := hw.n2
  have hn3 : sg_cn P 3 ≤ 200 := hw.n3
  have hn4 : sg_cn P 4 ≤ 60 := hw.n4
  have hn5 : sg_cn P 5 ≤ 90 := hw.n5
  have hK := hC.K
  have hD := hD0.self (sz := s.heap.size)
  have hAlo0 := va_A_lo hD0 hC.1
  generalize hAe : va_A ([(g, .inr (8, [.ref (a 0), .ref (b 0), .ref (pa 0)]))] ++ sg_St cI cZ a P q) s.heap.size = A at hD hAlo0 ⊢
  have hA : ∀ q : Nat, s.heap.size ≤ q → A q := fun q h => by rw [← hAe]; exact Or.inr h
  have hAlo : ∀ q, A q → lo ≤ q := hAlo0
  have hS : va_S A s.heap s.heap [] := va_S.rf
  have hP : va_P D vwCl ([(g, .inr (8, [.ref (a 0), .ref (b 0), .ref (pa 0)]))] ++ sg_St cI cZ a P q) s.heap := hP
  have hl := lv_entry ([.ref g, .int (nI xi), .int (nI xs), .int x, .int y, .int z, .int v]) (n := 9) (Nat.le_of_ble_eq_true rfl)
  rw [lg_entry_eq]
  generalize (lg_sl ([.ref g, .int (nI xi), .int (nI xs), .int x, .int y, .int z, .int v]) ++ List.replicate (9 - (lg_sl ([.ref g, .int (nI xi), .int (nI xs), .int x, .int y, .int z, .int v])).length) Slot.unset).toArray = ls at hl ⊢
  have hl : lv_has ls 9 [(0, .ref g), (1, .int (nI xi)), (2, .int (nI xs)), (3, .int x), (4, .int y), (5, .int z), (6, .int v)] := hl
  have in4 : ∀ w ∈ u_ws RX4 TX4 5, w ∈ wsX8_setPolicy := by decide +kernel
  have in6 : ∀ w ∈ u_ws RX6 TX6 9, w ∈ wsX8_setPolicy := by decide +kernel
  have in8 : ∀ w ∈ u_ws RX8 TX8 3, w ∈ wsX8_setPolicy := by decide +kernel
  refine lv_aload_n hx hb dX8_setPolicy_0 rfl (lv_at hl 0 rfl) ?_
  refine lv_iload_n hx hb dX8_setPolicy_1 rfl (lv_at hl 1 rfl) ?_
  have hPc := hP.sub (ws' := [(g, .inr (8, [.ref (a 0), .ref (b 0), .ref (pa 0)])), (a 0, .inr (6, [.int (P 0 0), .ref (a 1), .ref (a 2), .ref (a 3), .ref (a 4), .ref (a 5), .ref (a 6), .ref (a 70), .ref (a 71)])), (a 1, .inr (0, [.int (P 0 1), .ref (a 10), .ref (a 11), .ref (a 12), .ref (a 13)]))]) [0, 1, 2] rfl
  have hDc := hD.sub (ws' := [(g, .inr (8, [.ref (a 0), .ref (b 0), .ref (pa 0)])), (a 0, .inr (6, [.int (P 0 0), .ref (a 1), .ref (a 2), .ref (a 3), .ref (a 4), .ref (a 5), .ref (a 6), .ref (a 70), .ref (a 71)])), (a 1, .inr (0, [.int (P 0 1), .ref (a 10), .ref (a 11), .ref (a 12), .ref (a 13)]))]) [0, 1, 2] (by decide) rfl
  refine va_csv (W.runV (As := [.int (nI xi)]) (rest := []) ⟨hx, hb, hml, hown, hts⟩ (c_needItem l D cI cZ cJ lo s.heap.size g pa b a P xi hw (by omega)) (cwV 1 hts gX8_setPolicy_X8_needItem rfl rfl rfl (by decide +kernel) ⟨(Nat.le_of_ble_eq_true rfl), (Nat.le_of_ble_eq_true rfl)⟩) ⟨Pre.blind, va_recv hK hP (ci := 8) (q0 := 0) rfl rfl, Pre.mk hPc (hDc.weaken (fun _ _ _ h => hAlo _ h)) hC hS hAlo⟩ rfl rfl hl.1 rfl (lv_room (Nat.le_of_ble_eq_true rfl)) dX8_setPolicy_2 ⟨(Nat.le_of_ble_eq_true rfl), (Nat.le_of_ble_eq_true rfl)⟩) (fun e_1 => ?_)
  clear hPc hDc
  refine lv_aload_n hx hb dX8_setPolicy_5 rfl (lv_at hl 0 rfl) ?_
  refine lv_iload_n hx hb dX8_setPolicy_6 rfl (lv_at hl 2 rfl) ?_
  have hPc := hP.sub (ws' := [(g, .inr (8, [.ref (a 0), .ref (b 0), .ref (pa 0)])), (a 0, .inr (6, [.int (P 0 0), .ref (a 1), .ref (a 2), .ref (a 3), .ref (a 4), .ref (a 5), .ref (a 6), .ref (a 70), .ref (a 71)])), (a 2, .inr (5, [.int (P 0 2), .ref (a 20), .ref (a 21)]))]) [0, 1, 3] rfl
  have hDc := hD.sub (ws' := [(g, .inr (8, [.ref (a 0), .ref (b 0), .ref (pa 0)])), (a 0, .inr (6, [.int (P 0 0), .ref (a 1), .ref (a 2), .ref (a 3), .ref (a 4), .ref (a 5), .ref (a 6), .ref (a 70), .ref (a 71)])), (a 2, .inr (5, [.int (P 0 2), .ref (a 20), .ref (a 21)]))]) [0, 1, 3] (by decide) rfl
  refine va_csv (W.runV (As := [.int (nI xs)]) (rest := []) ⟨hx, hb, hml, hown, hts⟩ (c_needSite l D cI cZ cJ lo s.heap.size g pa b a P xs hw (by omega)) (cwV 1 hts gX8_setPolicy_X8_needSite rfl rfl rfl (by decide +kernel) ⟨(Nat.le_of_ble_eq_true rfl), (Nat.le_of_ble_eq_true rfl)⟩) ⟨Pre.blind, va_recv hK hP (ci := 8) (q0 := 0) rfl rfl, Pre.mk hPc (hDc.weaken (fun _ _ _ h => hAlo _ h)) hC hS hAlo⟩ rfl rfl hl.1 rfl (lv_room (Nat.le_of_ble_eq_true rfl)) dX8_setPolicy_7 ⟨(Nat.le_of_ble_eq_true rfl), (Nat.le_of_ble_eq_true rfl)⟩) (fun e_2 => ?_)
  clear hPc hDc
  refine lv_iload_n hx hb dX8_setPolicy_10 rfl (lv_at hl 3 rfl) ?_
  refine lv_iconst (v := 0) hx hb dX8_setPolicy_11 (by decide) ?_
  refine lv_sipush (v := 999) hx hb dX8_setPolicy_12 (by decide) ?_
  have hPc := hP.sub (ws' := []) [] rfl
  have hDc := hD.sub (ws' := []) [] (by decide) rfl
  refine va_csv (W.runS (As := [.int x, .int 0, .int 999]) (rest := []) ⟨hx, hb, hml, hown, hts⟩ (c_needWithin l D cI cZ cJ lo s.heap.size x 0 999 h1 h2) (va_cwS 3 hts gX8_setPolicy_X8_needWithin rfl rfl rfl (by decide +kernel) ⟨(Nat.le_of_ble_eq_true rfl), (Nat.le_of_ble_eq_true rfl)⟩) ⟨Pre.blind, Pre.mk hPc (hDc.weaken (fun _ _ _ h => hAlo _ h)) hC hS hAlo⟩ rfl rfl hl.1 rfl (lv_room (Nat.le_of_ble_eq_true rfl)) dX8_setPolicy_15 ⟨(Nat.le_of_ble_eq_true rfl), (Nat.le_of_ble_eq_true rfl)⟩) (fun e_3 => ?_)
  clear hPc hDc
  refine lv_iload hx hb dX8_setPolicy_18 (lv_at hl 4 rfl) ?_
  refine lv_iload_n hx hb dX8_setPolicy_20 rfl (lv_at hl 3 rfl) ?_
  refine lv_sipush (v := 999) hx hb dX8_setPolicy_21 (by decide) ?_
  have hPc := hP.sub (ws' := []) [] rfl
  have hDc := hD.sub (ws' := []) [] (by decide) rfl
  refine va_csv (W.runS (As := [.int y, .int x, .int 999]) (rest := []) ⟨hx, hb, hml, hown, hts⟩ (c_needWithin l D cI cZ cJ lo s.heap.size y x 999 h3 h4) (va_cwS 3 hts gX8_setPolicy_X8_needWithin rfl rfl rfl (by decide +kernel) ⟨(Nat.le_of_ble_eq_true rfl), (Nat.le_of_ble_eq_true rfl)⟩) ⟨Pre.blind, Pre.mk hPc (hDc.weaken (fun _ _ _ h => hAlo _ h)) hC hS hAlo⟩ rfl rfl hl.1 rfl (lv_room (Nat.le_of_ble_eq_true rfl)) dX8_setPolicy_24 ⟨(Nat.le_of_ble_eq_true rfl), (Nat.le_of_ble_eq_true rfl)⟩) (fun e_4 => ?_)
  clear hPc hDc
  refine lv_iload hx hb dX8_setPolicy_27 (lv_at hl 5 rfl) ?_
  refine lv_iconst (v := (-1)) hx hb dX8_setPolicy_29 (by decide) ?_
  refine lv_icmp_ne (tgt := 44) hx hb dX8_setPolicy_30 (by decide) (fun c_5 => ?_) (fun c_5 => ?_)
  · refine lv_aload_n hx hb dX8_setPolicy_44 rfl (lv_at hl 0 rfl) ?_
    refine va_get (D := D) (ci := 8) (v := .ref (a 0)) (C := RX8) (T := TX8) (N := 3) hx hb hts in8 hown hK hP 0 rfl rfl 0 (by decide) (hts (.fieldLink RX8 10 "Granary" "now" "LGranary$Stock;") (by decide +kernel)) (fun _ h9 => h9) rfl dX8_setPolicy_45 ?_
    refine va_get (D := D) (ci := 6) (v := .ref (a 2)) (C := RX6) (T := TX6) (N := 9) hx hb hts in6 hown hK hP 1 rfl rfl 2 (by decide) (hts (.fieldLink RX8 48 "Granary$Stock" "sites" "LGranary$Sites;") (by decide +kernel)) (fun _ h9 => h9) rfl dX8_setPolicy_48 ?_
    refine lv_iload hx hb dX8_setPolicy_51 (lv_at hl 5 rfl) ?_
    refine lv_iload_n hx hb dX8_setPolicy_53 rfl (lv_at hl 2 rfl) ?_
    have hPc := hP.sub (ws' := [(a 2, .inr (5, [.int (P 0 2), .ref (a 20), .ref (a 21)])), (a 21, .inl (cI, 25, .inl (P 21)))]) [3, 13] rfl
    have hDc := hD.sub (ws' := [(a 2, .inr (5, [.int (P 0 2), .ref (a 20), .ref (a 21)])), (a 21, .inl (cI, 25, .inl (P 21)))]) [3, 13] (by decide) rfl
    refine vp_callSi (W.runV (As := [.int z, .int (nI xs)]) (rest := []) ⟨hx, hb, hml, hown, hts⟩ (c_daysBetween l D cI cZ cJ lo s.heap.size a P z (nI xs) hw) (cwV 2 hts gX8_setPolicy_X5_daysBetween rfl rfl rfl (by decide +kernel) ⟨(Nat.le_of_ble_eq_true rfl), (Nat.le_of_ble_eq_true rfl)⟩) ⟨Pre.blind, va_recv hK hP (ci := 5) (q0 := 3) rfl rfl, Pre.mk hPc (hDc.weaken (fun _ _ _ h => hAlo _ h)) hC hS hAlo⟩ rfl rfl hl.1 rfl (lv_room (Nat.le_of_ble_eq_true rfl)) dX8_setPolicy_54 ⟨(Nat.le_of_ble_eq_true rfl), (Nat.le_of_ble_eq_true rfl)⟩) (fun r_6 e_7 => ?_)
    clear hPc hDc
    have e_7 : sg_daysBetween P z (nI xs) = r_6 := Eq.symm e_7
    subst e_7
    refine lv_if_le (tgt := 64) hx hb dX8_setPolicy_57 (by decide) (fun c9 => absurd c9 (show ¬ ((sg_daysBetween P z (nI xs)) ≤ (0 : Int32)) from (hd c_5))) (fun _ => ?_)
    refine lv_iconst (v := 1) hx hb dX8_setPolicy_60 (by decide) ?_
    refine lv_goto (tgt := 65) hx hb dX8_setPolicy_61 (by decide) ?_
    have hPc := hP.sub (ws' := []) [] rfl
    have hDc := hD.sub (ws' := []) [] (by decide) rfl
    refine va_csv (W.runS (As := [.int 1]) (rest := []) ⟨hx, hb, hml, hown, hts⟩ (c_needArgument l D cI cZ cJ lo s.heap.size 1 (by decide)) (va_cwS 1 hts gX8_setPolicy_X8_needArgument rfl rfl rfl (by decide +kernel) ⟨(Nat.le_of_ble_eq_true rfl), (Nat.le_of_ble_eq_true rfl)⟩) ⟨Pre.blind, Pre.mk hPc (hDc.weaken (fun _ _ _ h => hAlo _ h)) hC hS hAlo⟩ rfl rfl hl.1 rfl (lv_room (Nat.le_of_ble_eq_true rfl)) dX8_setPolicy_65 ⟨(Nat.le_of_ble_eq_true rfl), (Nat.le_of_ble_eq_true rfl)⟩) (fun e_8 => ?_)
    clear hPc hDc
    refine lv_aload_n hx hb dX8_setPolicy_68 rfl (lv_at hl 0 rfl) ?_
    refine va_get (D := D) (ci := 8) (v := .ref (a 0)) (C := RX8) (T := TX8) (N := 3) hx hb hts in8 hown hK hP 0 rfl rfl 0 (by decide) (hts (.fieldLink RX8 10 "Granary" "now" "LGranary$Stock;") (by decide +kernel)) (fun _ h9 => h9) rfl dX8_setPolicy_69 ?_
    refine va_get (D := D) (ci := 6) (v := .ref (a 3)) (C := RX6) (T := TX6) (N := 9) hx hb hts in6 hown hK hP 1 rfl rfl 3 (by decide) (hts (.fieldLink RX8 76 "Granary$Stock" "policies" "LGranary$Policies;") (by decide +kernel)) (fun _ h9 => h9) rfl dX8_setPolicy_72 ?_
    refine lv_iload_n hx hb dX8_setPolicy_75 rfl (lv_at hl 1 rfl) ?_
    refine lv_iload_n hx hb dX8_setPolicy_76 rfl (lv_at hl 2 rfl) ?_
    have hPc := hP.sub (ws' := [(a 3, .inr (4, [.ref (a 30), .ref (a 31), .ref (a 32), .ref (a 33), .ref (a 34)])), (a 30, .inl (cZ, 30, .inl (P 30)))]) [4, 14] rfl
    have hDc := hD.sub (ws' := [(a 3, .inr (4, [.ref (a 30), .ref (a 31), .ref (a 32), .ref (a 33), .ref (a 34)])), (a 30, .inl (cZ, 30, .inl (P 30)))]) [4, 14] (by decide) rfl
    refine vp_callSi (W.runV (As := [.int (nI xi), .int (nI xs)]) (rest := []) ⟨hx, hb, hml, hown, hts⟩ (c_stands l D cI cZ cJ lo s.heap.size a P xi xs hw (by omega) (by omega)) (cwV 2 hts gX8_setPolicy_X4_stands rfl rfl rfl (by decide +kernel) ⟨(Nat.le_of_ble_eq_true rfl), (Nat.le_of_ble_eq_true rfl)⟩) ⟨Pre.blind, va_recv hK hP (ci := 4) (q0 := 4) rfl rfl, Pre.mk hPc (hDc.weaken (fun _ _ _ h => hAlo _ h)) hC hS hAlo⟩ rfl rfl hl.1 rfl (lv_room (Nat.le_of_ble_eq_true rfl)) dX8_setPolicy_77 ⟨(Nat.le_of_ble_eq_true rfl), (Nat.le_of_ble_eq_true rfl)⟩) (fun r_9 e_10 => ?_)
    clear hPc hDc
    have e_10 : sg_stands P xi xs = r_9 := Eq.symm e_10
    subst e_10
    refine lv_istore (lv' := [(7, .int (sg_stands P xi xs)), (0, .ref g), (1, .int (nI xi)), (2, .int (nI xs)), (3, .int x), (4, .int y), (5, .int z), (6, .int v)]) hx hb dX8_setPolicy_80 hl (by decide) rfl (fun ls hl => ?_)
    refine lv_iload_n hx hb dX8_setPolicy_82 rfl (lv_at hl 2 rfl) ?_
    refine lv_iload_n hx hb dX8_setPolicy_83 rfl (lv_at hl 3 rfl) ?_
    have hPc := hP.sub (ws' := []) [] rfl
    have hDc := hD.sub (ws' := []) [] (by decide) rfl
    refine vp_callSi (W.runS (As := [.int (nI xi), .int (nI xs)]) (rest := []) ⟨hx, hb, hml, hown, hts⟩ (c_pair l D cI cZ cJ lo s.heap.size xi xs) (va_cwS 2 hts gX8_setPolicy_X8_pair rfl rfl rfl (by decide +kernel) ⟨(Nat.le_of_ble_eq_true rfl), (Nat.le_of_ble_eq_true rfl)⟩) ⟨Pre.blind, Pre.mk hPc (hDc.weaken (fun _ _ _ h => hAlo _ h)) hC hS hAlo⟩ rfl rfl hl.1 rfl (lv_room (Nat.le_of_ble_eq_true rfl)) dX8_setPolicy_84 ⟨(Nat.le_of_ble_eq_true rfl), (Nat.le_of_ble_eq_true rfl)⟩) (fun r_11 e_12 => ?_)
    clear hPc hDc
    have e_12 : nI ((xi * 5) + xs) = r_11 := Eq.symm e_12
    subst e_12
    refine lv_istore (lv' := [(8, .int (nI ((xi * 5) + xs))), (7, .int (sg_stands P xi xs)), (0, .ref g), (1, .int (nI xi)), (2, .int (nI xs)), (3, .int x), (4, .int y), (5, .int z), (6, .int v)]) hx hb dX8_setPolicy_87 hl (by decide) rfl (fun ls hl => ?_)
    refine lv_aload_n hx hb dX8_setPolicy_89 rfl (lv_at hl 2 rfl) ?_
    refine va_get (D := D) (ci := 8) (v := .ref (a 0)) (C := RX8) (T := TX8) (N := 3) hx hb hts in8 hown hK hP 0 rfl rfl 0 (by decide) (hts (.fieldLink RX8 10 "Granary" "now" "LGranary$Stock;") (by decide +kernel)) (fun _ h9 => h9) rfl dX8_setPolicy_90 ?_
    refine va_get (D := D) (ci := 6) (v := .ref (a 3)) (C := RX6) (T := TX6) (N := 9) hx hb hts in6 hown hK hP 1 rfl rfl 3 (by decide) (hts (.fieldLink RX8 76 "Granary$Stock" "policies" "LGranary$Policies;") (by decide +kernel)) (fun _ h9 => h9) rfl dX8_setPolicy_93 ?_
    refine va_get (D := D) (ci := 4) (v := .ref (a 30)) (C := RX4) (T := TX4) (N := 5) hx hb hts in4 hown hK hP 4 rfl rfl 0 (by decide) (hts (.fieldLink RX8 93 "Granary$Policies" "set" "[Z") (by decide +kernel)) (fun _ h9 => h9) rfl dX8_setPolicy_96 ?_
    refine lv_iload hx hb dX8_setPolicy_99 (lv_at hl 0 rfl) ?_
    refine lv_iconst (v := 1) hx hb dX8_setPolicy_101 (by decide) ?_
    refine sg_zast hx hb hK hP hD hS 14 1 rfl rfl (j := (xi * 5) + xs) rfl (by omega) (Nat.le_of_ble_eq_true rfl) (by decide) dX8_setPolicy_102 (fun H locs hP hD hS => ?_)
    replace hP : va_P D vwCl ([(g, .inr (8, [.ref (a 0), .ref (b 0), .ref (pa 0)]))] ++ sg_St cI cZ a (sg_up P 30 ((xi * 5) + xs) 1) q) H := hP
    replace hD : va_D A ([(g, .inr (8, [.ref (a 0), .ref (b 0), .ref (pa 0)]))] ++ sg_St cI cZ a (sg_up P 30 ((xi * 5) + xs) 1) q) := hD
    refine lv_aload_n hx hb dX8_setPolicy_103 rfl (lv_at hl 2 rfl) ?_
    refine va_get (D := D) (ci := 8) (v := .ref (a 0)) (C := RX8) (T := TX8) (N := 3) hx hb hts in8 hown hK hP 0 rfl rfl 0 (by decide) (hts (.fieldLink RX8 10 "Granary" "now" "LGranary$Stock;") (by decide +kernel)) (fun _ h9 => h9) rfl dX8_setPolicy_104 ?_
    refine va_get (D := D) (ci := 6) (v := .ref (a 3)) (C := RX6) (T := TX6) (N := 9) hx hb hts in6 hown hK hP 1 rfl rfl 3 (by decide) (hts (.fieldLink RX8 76 "Granary$Stock" "policies" "LGranary$Policies;") (by decide +kernel)) (fun _ h9 => h9) rfl dX8_setPolicy_107 ?_
    refine va_get (D := D) (ci := 4) (v := .ref (a 31)) (C := RX4) (T := TX4) (N := 5) hx hb hts in4 hown hK hP 4 rfl rfl 1 (by decide) (hts (.fieldLink RX8 97 "Granary$Policies" "point" "[I") (by decide +kernel)) (fun _ h9 => h9) rfl dX8_setPolicy_110 ?_
    refine lv_iload hx hb dX8_setPolicy_113 (lv_at hl 0 rfl) ?_
    refine lv_iload_n hx hb dX8_setPolicy_115 rfl (lv_at hl 5 rfl) ?_
    refine sg_iast hx hb hK hP hD hS 15 0 rfl rfl (j := (xi * 5) + xs) rfl (by omega) (Nat.le_of_ble_eq_true rfl) dX8_setPolicy_116 (fun H locs hP hD hS => ?_)
    replace hP : va_P D vwCl ([(g, .inr (8, [.ref (a 0), .ref (b 0), .ref (pa 0)]))] ++ sg_St cI cZ a (sg_up (sg_up P 30 ((xi * 5) + xs) 1) 31 ((xi * 5) + xs) x) q) H := hP
    replace hD : va_D A ([(g, .inr (8, [.ref (a 0), .ref (b 0), .ref (pa 0)]))] ++ sg_St cI cZ a (sg_up (sg_up P 30 ((xi * 5) + xs) 1) 31 ((xi * 5) + xs) x) q) := hD
    refine lv_aload_n hx hb dX8_setPolicy_117 rfl (lv_at hl 2 rfl) ?_
    refine va_get (D := D) (ci := 8) (v := .ref (a 0)) (C := RX8) (T := TX8) (N := 3) hx hb hts in8 hown hK hP 0 rfl rfl 0 (by decide) (hts (.fieldLink RX8 10 "Granary" "now" "LGranary$Stock;") (by decide +kernel)) (fun _ h9 => h9) rfl dX8_setPolicy_118 ?_
    refine va_get (D := D) (ci := 6) (v := .ref (a 3)) (C := RX6) (T := TX6) (N := 9) hx hb hts in6 hown hK hP 1 rfl rfl 3 (by decide) (hts (.fieldLink RX8 76 "Granary$Stock" "policies" "LGranary$Policies;") (by decide +kernel)) (fun _ h9 => h9) rfl dX8_setPolicy_121 ?_
    refine va_get (D := D) (ci := 4) (v := .ref (a 32)) (C := RX4) (T := TX4) (N := 5) hx hb hts in4 hown hK hP 4 rfl rfl 2 (by decide) (hts (.fieldLink RX8 100 "Granary$Policies" "top" "[I") (by decide +kernel)) (fun _ h9 => h9) rfl dX8_setPolicy_124 ?_
    refine lv_iload hx hb dX8_setPolicy_127 (lv_at hl 0 rfl) ?_
    refine lv_iload hx hb dX8_setPolicy_129 (lv_at hl 6 rfl) ?_
    refine sg_iast hx hb hK hP hD hS 16 0 rfl rfl (j := (xi * 5) + xs) rfl (by omega) (Nat.le_of_ble_eq_true rfl) dX8_setPolicy_131 (fun H locs hP hD hS => ?_)
    replace hP : va_P D vwCl ([(g, .inr (8, [.ref (a 0), .ref (b 0), .ref (pa 0)]))] ++ sg_St cI cZ a (sg_up (sg_up (sg_up P 30 ((xi * 5) + xs) 1) 31 ((xi * 5) + xs) x) 32 ((xi * 5) + xs) y) q) H := hP
    replace hD : va_D A ([(g, .inr (8, [.ref (a 0), .ref (b 0), .ref (pa 0)]))] ++ sg_St cI cZ a (sg_up (sg_up (sg_up P 30 ((xi * 5) + xs) 1) 31 ((xi * 5) + xs) x) 32 ((xi * 5) + xs) y) q) := hD
    refine lv_aload_n hx hb dX8_setPolicy_132 rfl (lv_at hl 2 rfl) ?_
    refine va_get (D := D) (ci := 8) (v := .ref (a 0)) (C := RX8) (T := TX8) (N := 3) hx hb hts in8 hown hK hP 0 rfl rfl 0 (by decide) (hts (.fieldLink RX8 10 "Granary" "now" "LGranary$Stock;") (by decide +kernel)) (fun _ h9 => h9) rfl dX8_setPolicy_133 ?_
    refine va_get (D := D) (ci := 6) (v := .ref (a 3)) (C := RX6) (T := TX6) (N := 9) hx hb hts in6 hown hK hP 1 rfl rfl 3 (by decide) (hts (.fieldLink RX8 76 "Granary$Stock" "policies" "LGranary$Policies;") (by decide +kernel)) (fun _ h9 => h9) rfl dX8_setPolicy_136 ?_
    refine va_get (D := D) (ci := 4) (v := .ref (a 33)) (C := RX4) (T := TX4) (N := 5) hx hb hts in4 hown hK hP 4 rfl rfl 3 (by decide) (hts (.fieldLink RX8 103 "Granary$Policies" "source" "[I") (by decide +kernel)) (fun _ h9 => h9) rfl dX8_setPolicy_139 ?_
    refine lv_iload hx hb dX8_setPolicy_142 (lv_at hl 0 rfl) ?_
    refine lv_iload hx hb dX8_setPolicy_144 (lv_at hl 7 rfl) ?_
    refine sg_iast hx hb hK hP hD hS 17 0 rfl rfl (j := (xi * 5) + xs) rfl (by omega) (Nat.le_of_ble_eq_true rfl) dX8_setPolicy_146 (fun H locs hP hD hS => ?_)
    replace hP : va_P D vwCl ([(g, .inr (8, [.ref (a 0), .ref (b 0), .ref (pa 0)]))] ++ sg_St cI cZ a (sg_up (sg_up (sg_up (sg_up P 30 ((xi * 5) + xs) 1) 31 ((xi * 5) + xs) x) 32 ((xi * 5) + xs) y) 33 ((xi * 5) + xs) z) q) H := hP
    replace hD : va_D A ([(g, .inr (8, [.ref (a 0), .ref (b 0), .ref (pa 0)]))] ++ sg_St cI cZ a (sg_up (sg_up (sg_up (sg_up P 30 ((xi * 5) + xs) 1) 31 ((xi * 5) + xs) x) 32 ((xi * 5) + xs) y) 33 ((xi * 5) + xs) z) q) := hD
    refine lv_aload_n hx hb dX8_setPolicy_147 rfl (lv_at hl 2 rfl) ?_
    refine va_get (D := D) (ci := 8) (v := .ref (a 0)) (C := RX8) (T := TX8) (N := 3) hx hb hts in8 hown hK hP 0 rfl rfl 0 (by decide) (hts (.fieldLink RX8 10 "Granary" "now" "LGranary$Stock;") (by decide +kernel)) (fun _ h9 => h9) rfl dX8_setPolicy_148 ?_
    refine va_get (D := D) (ci := 6) (v := .ref (a 3)) (C := RX6) (T := TX6) (N := 9) hx hb hts in6 hown hK hP 1 rfl rfl 3 (by decide) (hts (.fieldLink RX8 76 "Granary$Stock" "policies" "LGranary$Policies;") (by decide +kernel)) (fun _ h9 => h9) rfl dX8_setPolicy_151 ?_
    refine va_get (D := D) (ci := 4) (v := .ref (a 34)) (C := RX4) (T := TX4) (N := 5) hx hb hts in4 hown hK hP 4 rfl rfl 4 (by decide) (hts (.fieldLink RX8 106 "Granary$Policies" "lead" "[I") (by decide +kernel)) (fun _ h9 => h9) rfl dX8_setPolicy_154 ?_
    refine lv_iload hx hb dX8_setPolicy_157 (lv_at hl 0 rfl) ?_
    refine lv_iload hx hb dX8_setPolicy_159 (lv_at hl 8 rfl) ?_
    refine sg_iast hx hb hK hP hD hS 18 0 rfl rfl (j := (xi * 5) + xs) rfl (by omega) (Nat.le_of_ble_eq_true rfl) dX8_setPolicy_161 (fun H locs hP hD hS => ?_)
    replace hP : va_P D vwCl ([(g, .inr (8, [.ref (a 0), .ref (b 0), .ref (pa 0)]))] ++ sg_St cI cZ a (sg_up (sg_up (sg_up (sg_up (sg_up P 30 ((xi * 5) + xs) 1) 31 ((xi * 5) + xs) x) 32 ((xi * 5) + xs) y) 33 ((xi * 5) + xs) z) 34 ((xi * 5) + xs) v) q) H := hP
    replace hD : va_D A ([(g, .inr (8, [.ref (a 0), .ref (b 0), .ref (pa 0)]))] ++ sg_St cI cZ a (sg_up (sg_up (sg_up (sg_up (sg_up P 30 ((xi * 5) + xs) 1) 31 ((xi * 5) + xs) x) 32 ((xi * 5) + xs) y) 33 ((xi * 5) + xs) z) 34 ((xi * 5) + xs) v) q) := hD
    refine lv_iload hx hb dX8_setPolicy_162 (lv_at hl 1 rfl) ?_
    refine W.widen (k := 0) (n := 0) (by omega) (by omega) ?_
    have e9 : sg_g_setPolicy P xi xs x y z v = sg_up (sg_up (sg_up (sg_up (sg_up P 30 ((xi * 5) + xs) 1) 31 ((xi * 5) + xs) x) 32 ((xi * 5) + xs) y) 33 ((xi * 5) + xs) z) 34 ((xi * 5) + xs) v := by rw [sg_g_setPolicy, if_neg c_5]
    have hP9 : va_P D vwCl ([(g, .inr (8, [.ref (a 0), .ref (b 0), .ref (pa 0)]))] ++ sg_St cI cZ a (sg_g_setPolicy P xi xs x y z v) q) H := by rw [e9]; exact hP
    have hD9 : va_D A ([(g, .inr (8, [.ref (a 0), .ref (b 0), .ref (pa 0)]))] ++ sg_St cI cZ a (sg_g_setPolicy P xi xs x y z v) q) := by rw [e9]; exact hD
    exact W.zret (ty := .boolean) (v := (sg_stands P xi xs)) hx hb hr (sg_nar hw _) (fun t ht hW => ⟨⟨(sg_stands P xi xs), (), rfl, (show (sg_stands P xi xs : Int32) = sg_g_setPolicy_r P xi xs x y z v from by rw [sg_g_setPolicy_r, if_neg c_5]), by rw [ht]; exact hP9, hD9⟩, hS.F ht⟩) hS.2.2 dX8_setPolicy_164
  · refine lv_iload hx hb dX8_setPolicy_33 (lv_at hl 6 rfl) ?_
    refine lv_iconst (v := 1) hx hb dX8_setPolicy_35 (by decide) ?_
    refine lv_bipush (v := 20) hx hb dX8_setPolicy_36 (by decide) ?_
    have hPc := hP.sub (ws' := []) [] rfl
    have hDc := hD.sub (ws' := []) [] (by decide) rfl
    refine va_csv (W.runS (As := [.int v, .int 1, .int 20]) (rest := []) ⟨hx, hb, hml, hown, hts⟩ (c_needWithin l D cI cZ cJ lo s.heap.size v 1 20 (hv1 c_5) (hv2 c_5)) (va_cwS 3 hts gX8_setPolicy_X8_needWithin rfl rfl rfl (by decide +kernel) ⟨(Nat.le_of_ble_eq_true rfl), (Nat.le_of_ble_eq_true rfl)⟩) ⟨Pre.blind, Pre.mk hPc (hDc.weaken (fun _ _ _ h => hAlo _ h)) hC hS hAlo⟩ rfl rfl hl.1 rfl (lv_room (Nat.le_of_ble_eq_true rfl)) dX8_setPolicy_38 ⟨(Nat.le_of_ble_eq_true rfl), (Nat.le_of_ble_eq_true rfl)⟩) (fun e_13 => ?_)
    clear hPc hDc
    refine lv_goto (tgt := 68) hx hb dX8_setPolicy_41 (by decide) ?_
    refine lv_aload_n hx hb dX8_setPolicy_68 rfl (lv_at hl 0 rfl) ?_
    refine va_get (D := D) (ci := 8) (v := .ref (a 0)) (C := RX8) (T := TX8) (N := 3) hx hb hts in8 hown hK hP 0 rfl rfl 0 (by decide) (hts (.fieldLink RX8 10 "Granary" "now" "LGranary$Stock;") (by decide +kernel)) (fun _ h9 => h9) rfl dX8_setPolicy_69 ?_
    refine va_get (D := D) (ci := 6) (v := .ref (a 3)) (C := RX6) (T := TX6) (N := 9) hx hb hts in6 hown hK hP 1 rfl rfl 3 (by decide) (hts (.fieldLink RX8 76 "Granary$Stock" "policies" "LGranary$Policies;") (by decide +kernel)) (fun _ h9 => h9) rfl dX8_setPolicy_72 ?_
    refine lv_iload_n hx hb dX8_setPolicy_75 rfl (lv_at hl 1 rfl) ?_
    refine lv_iload_n hx hb dX8_setPolicy_76 rfl (lv_at hl 2 rfl) ?_
    have hPc := hP.sub (ws' := [(a 3, .inr (4, [.ref (a 30), .ref (a 31), .ref (a 32), .ref (a 33), .ref (a 34)])), (a 30, .inl (cZ, 30, .inl (P 30)))]) [4, 14] rfl
    have hDc := hD.sub (ws' := [(a 3, .inr (4, [.ref (a 30), .ref (a 31), .ref (a 32), .ref (a 33), .ref (a 34)])), (a 30, .inl (cZ, 30, .inl (P 30)))]) [4, 14] (by decide) rfl
    refine vp_callSi (W.runV (As := [.int (nI xi), .int (nI xs)]) (rest := []) ⟨hx, hb, hml, hown, hts⟩ (c_stands l D cI cZ cJ lo s.heap.size a P xi xs hw (by omega) (by omega)) (cwV 2 hts gX8_setPolicy_X4_stands rfl rfl rfl (by decide +kernel) ⟨(Nat.le_of_ble_eq_true rfl), (Nat.le_of_ble_eq_true rfl)⟩) ⟨Pre.blind, va_recv hK hP (ci := 4) (q0 := 4) rfl rfl, Pre.mk hPc (hDc.weaken (fun _ _ _ h => hAlo _ h)) hC hS hAlo⟩ rfl rfl hl.1 rfl (lv_room (Nat.le_of_ble_eq_true rfl)) dX8_setPolicy_77 ⟨(Nat.le_of_ble_eq_true rfl), (Nat.le_of_ble_eq_true rfl)⟩) (fun r_14 e_15 => ?_)
    clear hPc hDc
    have e_15 : sg_stands P xi xs = r_14 := Eq.symm e_15
    subst e_15
    refine lv_istore (lv' := [(7, .int (sg_stands P xi xs)), (0, .ref g), (1, .int (nI xi)), (2, .int (nI xs)), (3, .int x), (4, .int y), (5, .int z), (6, .int v)]) hx hb dX8_setPolicy_80 hl (by decide) rfl (fun ls hl => ?_)
    refine lv_iload_n hx hb dX8_setPolicy_82 rfl (lv_at hl 2 rfl) ?_
    refine lv_iload_n hx hb dX8_setPolicy_83 rfl (lv_at hl 3 rfl) ?_
    have hPc := hP.sub (ws' := []) [] rfl
    have hDc := hD.sub (ws' := []) [] (by decide) rfl
    refine vp_callSi (W.runS (As := [.int (nI xi), .int (nI xs)]) (rest := []) ⟨hx, hb, hml, hown, hts⟩ (c_pair l D cI cZ cJ lo s.heap.size xi xs) (va_cwS 2 hts gX8_setPolicy_X8_pair rfl rfl rfl (by decide +kernel) ⟨(Nat.le_of_ble_eq_true rfl), (Nat.le_of_ble_eq_true rfl)⟩) ⟨Pre.blind, Pre.mk hPc (hDc.weaken (fun _ _ _ h => hAlo _ h)) hC hS hAlo⟩ rfl rfl hl.1 rfl (lv_room (Nat.le_of_ble_eq_true rfl)) dX8_setPolicy_84 ⟨(Nat.le_of_ble_eq_true rfl), (Nat.le_of_ble_eq_true rfl)⟩) (fun r_16 e_17 => ?_)
    clear hPc hDc
    have e_17 : nI ((xi * 5) + xs) = r_16 := Eq.symm e_17
    subst e_17
    refine lv_istore (lv' := [(8, .int (nI ((xi * 5) + xs))), (7, .int (sg_stands P xi xs)), (0, .ref g), (1, .int (nI xi)), (2, .int (nI xs)), (3, .int x), (4, .int y), (5, .int z), (6, .int v)]) hx hb dX8_setPolicy_87 hl (by decide) rfl (fun ls hl => ?_)
    refine lv_aload_n hx hb dX8_setPolicy_89 rfl (lv_at hl 2 rfl) ?_
    refine va_get (D := D) (ci := 8) (v := .ref (a 0)) (C := RX8) (T := TX8) (N := 3) hx hb hts in8 hown hK hP 0 rfl rfl 0 (by decide) (hts (.fieldLink RX8 10 "Granary" "now" "LGranary$Stock;") (by decide +kernel)) (fun _ h9 => h9) rfl dX8_setPolicy_90 ?_
    refine va_get (D := D) (ci := 6) (v := .ref (a 3)) (C := RX6) (T := TX6) (N := 9) hx hb hts in6 hown hK hP 1 rfl rfl 3 (by decide) (hts (.fieldLink RX8 76 "Granary$Stock" "policies" "LGranary$Policies;") (by decide +kernel)) (fun _ h9 => h9) rfl dX8_setPolicy_93 ?_
    refine va_get (D := D) (ci := 4) (v := .ref (a 30)) (C := RX4) (T := TX4) (N := 5) hx hb hts in4 hown hK hP 4 rfl rfl 0 (by decide) (hts (.fieldLink RX8 93 "Granary$Policies" "set" "[Z") (by decide +kernel)) (fun _ h9 => h9) rfl dX8_setPolicy_96 ?_
    refine lv_iload hx hb dX8_setPolicy_99 (lv_at hl 0 rfl) ?_
    refine lv_iconst (v := 1) hx hb dX8_setPolicy_101 (by decide) ?_
    refine sg_zast hx hb hK hP hD hS 14 1 rfl rfl (j := (xi * 5) + xs) rfl (by omega) (Nat.le_of_ble_eq_true rfl) (by decide) dX8_setPolicy_102 (fun H locs hP hD hS => ?_)
    replace hP : va_P D vwCl ([(g, .inr (8, [.ref (a 0), .ref (b 0), .ref (pa 0)]))] ++ sg_St cI cZ a (sg_up P 30 ((xi * 5) + xs) 1) q) H := hP
    replace hD : va_D A ([(g, .inr (8, [.ref (a 0), .ref (b 0), .ref (pa 0)]))] ++ sg_St cI cZ a (sg_up P 30 ((xi * 5) + xs) 1) q) := hD
    refine lv_aload_n hx hb dX8_setPolicy_103 rfl (lv_at hl 2 rfl) ?_
    refine va_get (D := D) (ci := 8) (v := .ref (a 0)) (C := RX8) (T := TX8) (N := 3) hx hb hts in8 hown hK hP 0 rfl rfl 0 (by decide) (hts (.fieldLink RX8 10 "Granary" "now" "LGranary$Stock;") (by decide +kernel)) (fun _ h9 => h9) rfl dX8_setPolicy_104 ?_
    refine va_get (D := D) (ci := 6) (v := .ref (a 3)) (C := RX6) (T := TX6) (N := 9) hx hb hts in6 hown hK hP 1 rfl rfl 3 (by decide) (hts (.fieldLink RX8 76 "Granary$Stock" "policies" "LGranary$Policies;") (by decide +kernel)) (fun _ h9 => h9) rfl dX8_setPolicy_107 ?_
    refine va_get (D := D) (ci := 4) (v := .ref (a 31)) (C := RX4) (T := TX4) (N := 5) hx hb hts in4 hown hK hP 4 rfl rfl 1 (by decide) (hts (.fieldLink RX8 97 "Granary$Policies" "point" "[I") (by decide +kernel)) (fun _ h9 => h9) rfl dX8_setPolicy_110 ?_
    refine lv_iload hx hb dX8_setPolicy_113 (lv_at hl 0 rfl) ?_
    refine lv_iload_n hx hb dX8_setPolicy_115 rfl (lv_at hl 5 rfl) ?_
    refine sg_iast hx hb hK hP hD hS 15 0 rfl rfl (j := (xi * 5) + xs) rfl (by omega) (Nat.le_of_ble_eq_true rfl) dX8_setPolicy_116 (fun H locs hP hD hS => ?_)
    replace hP : va_P D vwCl ([(g, .inr (8, [.ref (a 0), .ref (b 0), .ref (pa 0)]))] ++ sg_St cI cZ a (sg_up (sg_up P 30 ((xi * 5) + xs) 1) 31 ((xi * 5) + xs) x) q) H := hP
    replace hD : va_D A ([(g, .inr (8, [.ref (a 0), .ref (b 0), .ref (pa 0)]))] ++ sg_St cI cZ a (sg_up (sg_up P 30 ((xi * 5) + xs) 1) 31 ((xi * 5) + xs) x) q) := hD
    refine lv_aload_n hx hb dX8_setPolicy_117 rfl (lv_at hl 2 rfl) ?_
    refine va_get (D := D) (ci := 8) (v := .ref (a 0)) (C := RX8) (T := TX8) (N := 3) hx hb hts in8 hown hK hP 0 rfl rfl 0 (by decide) (hts (.fieldLink RX8 10 "Granary" "now" "LGranary$Stock;") (by decide +kernel)) (fun _ h9 => h9) rfl dX8_setPolicy_118 ?_
    refine va_get (D := D) (ci := 6) (v := .ref (a 3)) (C := RX6) (T := TX6) (N := 9) hx hb hts in6 hown hK hP 1 rfl rfl 3 (by decide) (hts (.fieldLink RX8 76 "Granary$Stock" "policies" "LGranary$Policies;") (by decide +kernel)) (fun _ h9 => h9) rfl dX8_setPolicy_121 ?_
    refine va_get (D := D) (ci := 4) (v := .ref (a 32)) (C := RX4) (T := TX4) (N := 5) hx hb hts in4 hown hK hP 4 rfl rfl 2 (by decide) (hts (.fieldLink RX8 100 "Granary$Policies" "top" "[I") (by decide +kernel)) (fun _ h9 => h9) rfl dX8_setPolicy_124 ?_
    refine lv_iload hx hb dX8_setPolicy_127 (lv_at hl 0 rfl) ?_
    refine lv_iload hx hb dX8_setPolicy_129 (lv_at hl 6 rfl) ?_
    refine sg_iast hx hb hK hP hD hS 16 0 rfl rfl (j := (xi * 5) + xs) rfl (by omega) (Nat.le_of_ble_eq_true rfl) dX8_setPolicy_131 (fun H locs hP hD hS => ?_)
    replace hP : va_P D vwCl ([(g, .inr (8, [.ref (a 0), .ref (b 0), .ref (pa 0)]))] ++ sg_St cI cZ a (sg_up (sg_up (sg_up P 30 ((xi * 5) + xs) 1) 31 ((xi * 5) + xs) x) 32 ((xi * 5) + xs) y) q) H := hP
    replace hD : va_D A ([(g, .inr (8, [.ref (a 0), .ref (b 0), .ref (pa 0)]))] ++ sg_St cI cZ a (sg_up (sg_up (sg_up P 30 ((xi * 5) + xs) 1) 31 ((xi * 5) + xs) x) 32 ((xi * 5) + xs) y) q) := hD
    refine lv_aload_n hx hb dX8_setPolicy_132 rfl (lv_at hl 2 rfl) ?_
    refine va_get (D := D) (ci := 8) (v := .ref (a 0)) (C := RX8) (T := TX8) (N := 3) hx hb hts in8 hown hK hP 0 rfl rfl 0 (by decide) (hts (.fieldLink RX8 10 "Granary" "now" "LGranary$Stock;") (by decide +kernel)) (fun _ h9 => h9) rfl dX8_setPolicy_133 ?_
    refine va_get (D := D) (ci := 6) (v := .ref (a 3)) (C := RX6) (T := TX6) (N := 9) hx hb hts in6 hown hK hP 1 rfl rfl 3 (by decide) (hts (.fieldLink RX8 76 "Granary$Stock" "policies" "LGranary$Policies;") (by decide +kernel)) (fun _ h9 => h9) rfl dX8_setPolicy_136 ?_
    refine va_get (D := D) (ci := 4) (v := .ref (a 33)) (C := RX4) (T := TX4) (N := 5) hx hb hts in4 hown hK hP 4 rfl rfl 3 (by decide) (hts (.fieldLink RX8 103 "Granary$Policies" "source" "[I") (by decide +kernel)) (fun _ h9 => h9) rfl dX8_setPolicy_139 ?_
    refine lv_iload hx hb dX8_setPolicy_142 (lv_at hl 0 rfl) ?_
    refine lv_iload hx hb dX8_setPolicy_144 (lv_at hl 7 rfl) ?_
    refine sg_iast hx hb hK hP hD hS 17 0 rfl rfl (j := (xi * 5) + xs) rfl (by omega) (Nat.le_of_ble_eq_true rfl) dX8_setPolicy_146 (fun H locs hP hD hS => ?_)
    replace hP : va_P D vwCl ([(g, .inr (8, [.ref (a 0), .ref (b 0), .ref (pa 0)]))] ++ sg_St cI cZ a (sg_up (sg_up (sg_up (sg_up P 30 ((xi * 5) + xs) 1) 31 ((xi * 5) + xs) x) 32 ((xi * 5) + xs) y) 33 ((xi * 5) + xs) z) q) H := hP
    replace hD : va_D A ([(g, .inr (8, [.ref (a 0), .ref (b 0), .ref (pa 0)]))] ++ sg_St cI cZ a (sg_up (sg_up (sg_up (sg_up P 30 ((xi * 5) + xs) 1) 31 ((xi * 5) + xs) x) 32 ((xi * 5) + xs) y) 33 ((xi * 5) + xs) z) q) := hD
    refine lv_aload_n hx hb dX8_setPolicy_147 rfl (lv_at hl 2 rfl) ?_
    refine va_get (D := D) (ci := 8) (v := .ref (a 0)) (C := RX8) (T := TX8) (N := 3) hx hb hts in8 hown hK hP 0 rfl rfl 0 (by decide) (hts (.fieldLink RX8 10 "Granary" "now" "LGranary$Stock;") (by decide +kernel)) (fun _ h9 => h9) rfl dX8_setPolicy_148 ?_
    refine va_get (D := D) (ci := 6) (v := .ref (a 3)) (C := RX6) (T := TX6) (N := 9) hx hb hts in6 hown hK hP 1 rfl rfl 3 (by decide) (hts (.fieldLink RX8 76 "Granary$Stock" "policies" "LGranary$Policies;") (by decide +kernel)) (fun _ h9 => h9) rfl dX8_setPolicy_151 ?_
    refine va_get (D := D) (ci := 4) (v := .ref (a 34)) (C := RX4) (T := TX4) (N := 5) hx hb hts in4 hown hK hP 4 rfl rfl 4 (by decide) (hts (.fieldLink RX8 106 "Granary$Policies" "lead" "[I") (by decide +kernel)) (fun _ h9 => h9) rfl dX8_setPolicy_154 ?_
    refine lv_iload hx hb dX8_setPolicy_157 (lv_at hl 0 rfl) ?_
    refine lv_iload hx hb dX8_setPolicy_159 (lv_at hl 8 rfl) ?_
    refine sg_iast hx hb hK hP hD hS 18 0 rfl rfl (j := (xi * 5) + xs) rfl (by omega) (Nat.le_of_ble_eq_true rfl) dX8_setPolicy_161 (fun H locs hP hD hS => ?_)
    replace hP : va_P D vwCl ([(g, .inr (8, [.ref (a 0), .ref (b 0), .ref (pa 0)]))] ++ sg_St cI cZ a (sg_up (sg_up (sg_up (sg_up (sg_up P 30 ((xi * 5) + xs) 1) 31 ((xi * 5) + xs) x) 32 ((xi * 5) + xs) y) 33 ((xi * 5) + xs) z) 34 ((xi * 5) + xs) v) q) H := hP
    replace hD : va_D A ([(g, .inr (8, [.ref (a 0), .ref (b 0), .ref (pa 0)]))] ++ sg_St cI cZ a (sg_up (sg_up (sg_up (sg_up (sg_up P 30 ((xi * 5) + xs) 1) 31 ((xi * 5) + xs) x) 32 ((xi * 5) + xs) y) 33 ((xi * 5) + xs) z) 34 ((xi * 5) + xs) v) q) := hD
    refine lv_iload hx hb dX8_setPolicy_162 (lv_at hl 1 rfl) ?_
    refine W.widen (k := 0) (n := 0) (by omega) (by omega) ?_
    have e9 : sg_g_setPolicy P xi xs x y z v = sg_up (sg_up (sg_up (sg_up (sg_up P 30 ((xi * 5) + xs) 1) 31 ((xi * 5) + xs) x) 32 ((xi * 5) + xs) y) 33 ((xi * 5) + xs) z) 34 ((xi * 5) + xs) v := by rw [sg_g_setPolicy, if_pos c_5]
    have hP9 : va_P D vwCl ([(g, .inr (8, [.ref (a 0), .ref (b 0), .ref (pa 0)]))] ++ sg_St cI cZ a (sg_g_setPolicy P xi xs x y z v) q) H := by rw [e9]; exact hP
    have hD9 : va_D A ([(g, .inr (8, [.ref (a 0), .ref (b 0), .ref (pa 0)]))] ++ sg_St cI cZ a (sg_g_setPolicy P xi xs x y z v) q) := by rw [e9]; exact hD
    exact W.zret (ty := .boolean) (v := (sg_stands P xi xs)) hx hb hr (sg_nar hw _) (fun t ht hW => ⟨⟨(sg_stands P xi xs), (), rfl, (show (sg_stands P xi xs : Int32) = sg_g_setPolicy_r P xi xs x y z v from by rw [sg_g_setPolicy_r, if_pos c_5]), by rw [ht]; exact hP9, hD9⟩, hS.F ht⟩) hS.2.2 dX8_setPolicy_164

def sg_g_receive_r (P : sg_Pic) (xi : Nat) (xs : Nat) (x : Int32) (y : Int32) : Int32 := (sg_ladd_r (sg_up P 70 3 ((P 70 3) + (x * (sg_priceOf P (nI xi))))) (nI xi) (nI xs) x ((P 0 0) + y))

def sg_g_receive (P : sg_Pic) (xi : Nat) (xs : Nat) (x : Int32) (y : Int32) : sg_Pic := (sg_ladd (sg_up P 70 3 ((P 70 3) + (x * (sg_priceOf P (nI xi))))) (nI xi) (nI xs) x ((P 0 0) + y))

set_option maxHeartbeats 4000000 in
set_option maxRecDepth 100000 in
/-- X8_receive -/
theorem c_g_receive (l : Launch) (D : va_G) (cI cZ cJ : ClassId) (lo sz : Nat) (g : Nat) (pa : Nat → Nat) (b : Nat → Nat) (a : Nat → Nat) (P : sg_Pic) (q : Nat → Int32) (xi : Nat) (xs : Nat) (x : Int32) (y : Int32) (hw : sg_W P) (hi : xi < sg_cn P 1) (hs : xs < sg_cn P 2) (h1 : (1 : Int32) ≤ x) (h2 : x ≤ 999) (h3 : (0 : Int32) ≤ y) (h4 : y ≤ 99) (h7 : sg_cn P 3 < 200) (h8 : x ≤ sg_roomAt P (nI xs)) : Met l yX8_receive wsX8_receive ({ frames := 2, cells := 0, slots := 0, locals := 44 }) (Pre lo D cI cZ cJ [.ref g, .int (nI xi), .int (nI xs), .int x, .int y] sz ([(g, .inr (8, [.ref (a 0), .ref (b 0), .ref (pa 0)]))] ++ sg_St cI cZ a P q)) (va_Qi (fun (r : Int32) (_ : Unit) => r = sg_g_receive_r P xi xs x y) (fun _ t => va_P D vwCl ([(g, .inr (8, [.ref (a 0), .ref (b 0), .ref (pa 0)]))] ++ sg_St cI cZ a (sg_g_receive P xi xs x y) q) t.heap ∧ va_D (va_A ([(g, .inr (8, [.ref (a 0), .ref (b 0), .ref (pa 0)]))] ++ sg_St cI cZ a P q) sz) ([(g, .inr (8, [.ref (a 0), .ref (b 0), .ref (pa 0)]))] ++ sg_St cI cZ a (sg_g_receive P xi xs x y) q)) (va_A ([(g, .inr (8, [.ref (a 0), .ref (b 0), .ref (pa 0)]))] ++ sg_St cI cZ a P q) sz)) 0 0 (va_A ([(g, .inr (8, [.ref (a 0), .ref (b 0), .ref (pa 0)]))] ++ sg_St cI cZ a P q) sz) := by
  refine Met.ofW (cc := cX8_receive) (maxL := 5) (ret := (some .int)) (by decide) rfl ?_
  intro p e s m args below meth c s₁ B hml hv
  obtain ⟨rfl, hsz, hP, hD0, hC⟩ := hv
  have hx := B.exec
  have hb := B.bytes
  have hr := B.returns
  have hts := atoms_spec (ws := wsX8_receive) B.pre
  have hown : s.vm.findClass RX8 = some m.cls := findClass_of_methodNamed B.named
  have hlocks := B.notSynchronized
  subst hsz
  have hn1 : sg_cn P 1 ≤ 6 := hw.n1
  have hn2 : sg_cn P 2 ≤ 5 := hw.n2
  have hn3 : sg_cn P 3 ≤ 200 := hw.n3
  have hn4 : sg_cn P 4 ≤ 60 := hw.n4
  have hn5 : sg_cn P 5 ≤ 90 := hw.n5
  have hK := hC.K
  have hD := hD0.self (sz := s.heap.size)
  have hAlo0 := va_A_lo hD0 hC.1
  generalize hAe : va_A ([(g, .inr (8, [.ref (a 0), .ref (b 0), .ref (pa 0)]))] ++ sg_St cI cZ a P q) s.heap.size = A at hD hAlo0 ⊢
  have hA : ∀ q : Nat, s.heap.size ≤ q → A q := fun q h => by rw [← hAe]; exact Or.inr h
  have hAlo : ∀ q, A q → lo ≤ q := hAlo0
  have hS : va_S A s.heap s.heap [] := va_S.rf
  have hP : va_P D vwCl ([(g, .inr (8, [.ref (a 0), .ref (b 0), .ref (pa 0)]))] ++ sg_St cI cZ a P q) s.heap := hP
  have hl := lv_entry ([.ref g, .int (nI xi), .int (nI xs), .int x, .int y]) (n := 5) (Nat.le_of_ble_eq_true rfl)
  rw [lg_entry_eq]
  generalize (lg_sl ([.ref g, .int (nI xi), .int (nI xs), .int x, .int y]) ++ List.replicate (5 - (lg_sl ([.ref g, .int (nI xi), .int (nI xs), .int x, .int y])).length) Slot.unset).toArray = ls at hl ⊢
  have hl : lv_has ls 5 [(0, .ref g), (1, .int (nI xi)), (2, .int (nI xs)), (3, .int x), (4, .int y)] := hl
  have in1 : ∀ w ∈ u_ws RX1 TX1 6, w ∈ wsX8_receive := by decide +kernel
  have in6 : ∀ w ∈ u_ws RX6 TX6 9, w ∈ wsX8_receive := by decide +kernel
  have in8 : ∀ w ∈ u_ws RX8 TX8 3, w ∈ wsX8_receive := by decide +kernel
  refine lv_aload_n hx hb dX8_receive_0 rfl (lv_at hl 0 rfl) ?_
  refine lv_iload_n hx hb dX8_receive_1 rfl (lv_at hl 1 rfl) ?_
  have hPc := hP.sub (ws' := [(g, .inr (8, [.ref (a 0), .ref (b 0), .ref (pa 0)])), (a 0, .inr (6, [.int (P 0 0), .ref (a 1), .ref (a 2), .ref (a 3), .ref (a 4), .ref (a 5), .ref (a 6), .ref (a 70), .ref (a 71)])), (a 1, .inr (0, [.int (P 0 1), .ref (a 10), .ref (a 11), .ref (a 12), .ref (a 13)]))]) [0, 1, 2] rfl
  have hDc := hD.sub (ws' := [(g, .inr (8, [.ref (a 0), .ref (b 0), .ref (pa 0)])), (a 0, .inr (6, [.int (P 0 0), .ref (a 1), .ref (a 2), .ref (a 3), .ref (a 4), .ref (a 5), .ref (a 6), .ref (a 70), .ref (a 71)])), (a 1, .inr (0, [.int (P 0 1), .ref (a 10), .ref (a 11), .ref (a 12), .ref (a 13)]))]) [0, 1, 2] (by decide) rfl
  refine va_csv (W.runV (As := [.int (nI xi)]) (rest := []) ⟨hx, hb, hml, hown, hts⟩ (c_needItem l D cI cZ cJ lo s.heap.size g pa b a P xi hw (by omega)) (cwV 1 hts gX8_receive_X8_needItem rfl rfl rfl (by decide +kernel) ⟨(Nat.le_of_ble_eq_true rfl), (Nat.le_of_ble_eq_true rfl)⟩) ⟨Pre.blind, va_recv hK hP (ci := 8) (q0 := 0) rfl rfl, Pre.mk hPc (hDc.weaken (fun _ _ _ h => hAlo _ h)) hC hS hAlo⟩ rfl rfl hl.1 rfl (lv_room (Nat.le_of_ble_eq_true rfl)) dX8_receive_2 ⟨(Nat.le_of_ble_eq_true rfl), (Nat.le_of_ble_eq_true rfl)⟩) (fun e_1 => ?_)
  clear hPc hDc
  refine lv_aload_n hx hb dX8_receive_5 rfl (lv_at hl 0 rfl) ?_
  refine lv_iload_n hx hb dX8_receive_6 rfl (lv_at hl 2 rfl) ?_
  have hPc := hP.sub (ws' := [(g, .inr (8, [.ref (a 0), .ref (b 0), .ref (pa 0)])), (a 0, .inr (6, [.int (P 0 0), .ref (a 1), .ref (a 2), .ref (a 3), .ref (a 4), .ref (a 5), .ref (a 6), .ref (a 70), .ref (a 71)])), (a 2, .inr (5, [.int (P 0 2), .ref (a 20), .ref (a 21)]))]) [0, 1, 3] rfl
  have hDc := hD.sub (ws' := [(g, .inr (8, [.ref (a 0), .ref (b 0), .ref (pa 0)])), (a 0, .inr (6, [.int (P 0 0), .ref (a 1), .ref (a 2), .ref (a 3), .ref (a 4), .ref (a 5), .ref (a 6), .ref (a 70), .ref (a 71)])), (a 2, .inr (5, [.int (P 0 2), .ref (a 20), .ref (a 21)]))]) [0, 1, 3] (by decide) rfl
  refine va_csv (W.runV (As := [.int (nI xs)]) (rest := []) ⟨hx, hb, hml, hown, hts⟩ (c_needSite l D cI cZ cJ lo s.heap.size g pa b a P xs hw (by omega)) (cwV 1 hts gX8_receive_X8_needSite rfl rfl rfl (by decide +kernel) ⟨(Nat.le_of_ble_eq_true rfl), (Nat.le_of_ble_eq_true rfl)⟩) ⟨Pre.blind, va_recv hK hP (ci := 8) (q0 := 0) rfl rfl, Pre.mk hPc (hDc.weaken (fun _ _ _ h => hAlo _ h)) hC hS hAlo⟩ rfl rfl hl.1 rfl (lv_room (Nat.le_of_ble_eq_true rfl)) dX8_receive_7 ⟨(Nat.le_of_ble_eq_true rfl), (Nat.le_of_ble_eq_true rfl)⟩) (fun e_2 => ?_)
  clear hPc hDc
  refine lv_iload_n hx hb dX8_receive_10 rfl (lv_at hl 3 rfl) ?_
  refine lv_iconst (v := 1) hx hb dX8_receive_11 (by decide) ?_
  refine lv_sipush (v := 999) hx hb dX8_receive_12 (by decide) ?_
  have hPc := hP.sub (ws' := []) [] rfl
  have hDc := hD.sub (ws' := []) [] (by decide) rfl
  refine va_csv (W.runS (As := [.int x, .int 1, .int 999]) (rest := []) ⟨hx, hb, hml, hown, hts⟩ (c_needWithin l D cI cZ cJ lo s.heap.size x 1 999 h1 h2) (va_cwS 3 hts gX8_receive_X8_needWithin rfl rfl rfl (by decide +kernel) ⟨(Nat.le_of_ble_eq_true rfl), (Nat.le_of_ble_eq_true rfl)⟩) ⟨Pre.blind, Pre.mk hPc (hDc.weaken (fun _ _ _ h => hAlo _ h)) hC hS hAlo⟩ rfl rfl hl.1 rfl (lv_room (Nat.le_of_ble_eq_true rfl)) dX8_receive_15 ⟨(Nat.le_of_ble_eq_true rfl), (Nat.le_of_ble_eq_true rfl)⟩) (fun e_3 => ?_)
  clear hPc hDc
  refine lv_iload hx hb dX8_receive_18 (lv_at hl 4 rfl) ?_
  refine lv_iconst (v := 0) hx hb dX8_receive_20 (by decide) ?_
  refine lv_bipush (v := 99) hx hb dX8_receive_21 (by decide) ?_
  have hPc := hP.sub (ws' := []) [] rfl
  have hDc := hD.sub (ws' := []) [] (by decide) rfl
  refine va_csv (W.runS (As := [.int y, .int 0, .int 99]) (rest := []) ⟨hx, hb, hml, hown, hts⟩ (c_needWithin l D cI cZ cJ lo s.heap.size y 0 99 h3 h4) (va_cwS 3 hts gX8_receive_X8_needWithin rfl rfl rfl (by decide +kernel) ⟨(Nat.le_of_ble_eq_true rfl), (Nat.le_of_ble_eq_true rfl)⟩) ⟨Pre.blind, Pre.mk hPc (hDc.weaken (fun _ _ _ h => hAlo _ h)) hC hS hAlo⟩ rfl rfl hl.1 rfl (lv_room (Nat.le_of_ble_eq_true rfl)) dX8_receive_23 ⟨(Nat.le_of_ble_eq_true rfl), (Nat.le_of_ble_eq_true rfl)⟩) (fun e_4 => ?_)
  clear hPc hDc
  refine lv_aload_n hx hb dX8_receive_26 rfl (lv_at hl 0 rfl) ?_
  refine va_get (D := D) (ci := 8) (v := .ref (a 0)) (C := RX8) (T := TX8) (N := 3) hx hb hts in8 hown hK hP 0 rfl rfl 0 (by decide) (hts (.fieldLink RX8 10 "Granary" "now" "LGranary$Stock;") (by decide +kernel)) (fun _ h9 => h9) rfl dX8_receive_27 ?_
  refine va_get (D := D) (ci := 6) (v := .ref (a 4)) (C := RX6) (T := TX6) (N := 9) hx hb hts in6 hown hK hP 1 rfl rfl 4 (by decide) (hts (.fieldLink RX8 109 "Granary$Stock" "lots" "LGranary$Lots;") (by decide +kernel)) (fun _ h9 => h9) rfl dX8_receive_30 ?_
  refine va_get (D := D) (ci := 1) (v := .int (P 0 3)) (C := RX1) (T := TX1) (N := 6) hx hb hts in1 hown hK hP 5 rfl rfl 0 (by decide) (hts (.fieldLink RX8 113 "Granary$Lots" "count" "I") (by decide +kernel)) (fun _ h9 => h9) rfl dX8_receive_33 ?_
  refine lv_sipush (v := 200) hx hb dX8_receive_36 (by decide) ?_
  refine lv_icmp_ge (tgt := 46) hx hb dX8_receive_39 (by decide) (fun c9 => absurd c9 (show ¬ ((200 : Int32) ≤ (P 0 3)) from (sg_ge3 hw h7))) (fun _ => ?_)
  refine lv_iconst (v := 1) hx hb dX8_receive_42 (by decide) ?_
  refine lv_goto (tgt := 47) hx hb dX8_receive_43 (by decide) ?_
  have hPc := hP.sub (ws' := []) [] rfl
  have hDc := hD.sub (ws' := []) [] (by decide) rfl
  refine va_csv (W.runS (As := [.int 1]) (rest := []) ⟨hx, hb, hml, hown, hts⟩ (c_needState l D cI cZ cJ lo s.heap.size 1 (by decide)) (va_cwS 1 hts gX8_receive_X8_needState rfl rfl rfl (by decide +kernel) ⟨(Nat.le_of_ble_eq_true rfl), (Nat.le_of_ble_eq_true rfl)⟩) ⟨Pre.blind, Pre.mk hPc (hDc.weaken (fun _ _ _ h => hAlo _ h)) hC hS hAlo⟩ rfl rfl hl.1 rfl (lv_room (Nat.le_of_ble_eq_true rfl)) dX8_receive_47 ⟨(Nat.le_of_ble_eq_true rfl), (Nat.le_of_ble_eq_true rfl)⟩) (fun e_5 => ?_)
  clear hPc hDc
  refine lv_iload_n hx hb dX8_receive_50 rfl (lv_at hl 3 rfl) ?_
  refine lv_aload_n hx hb dX8_receive_51 rfl (lv_at hl 0 rfl) ?_
  refine va_get (D := D) (ci := 8) (v := .ref (a 0)) (C := RX8) (T := TX8) (N := 3) hx hb hts in8 hown hK hP 0 rfl rfl 0 (by decide) (hts (.fieldLink RX8 10 "Granary" "now" "LGranary$Stock;") (by decide +kernel)) (fun _ h9 => h9) rfl dX8_receive_52 ?_
  refine lv_iload_n hx hb dX8_receive_55 rfl (lv_at hl 2 rfl) ?_
  have hPc := hP.sub (ws' := [(a 0, .inr (6, [.int (P 0 0), .ref (a 1), .ref (a 2), .ref (a 3), .ref (a 4), .ref (a 5), .ref (a 6), .ref (a 70), .ref (a 71)])), (a 2, .inr (5, [.int (P 0 2), .ref (a 20), .ref (a 21)])), (a 4, .inr (1, [.int (P 0 3), .ref (a 40), .ref (a 41), .ref (a 42), .ref (a 43), .ref (a 44)])), (a 20, .inl (cI, 5, .inl (P 20))), (a 21, .inl (cI, 25, .inl (P 21))), (a 40, .inl (cI, 200, .inl (P 40))), (a 41, .inl (cI, 200, .inl (P 41))), (a 42, .inl (cI, 200, .inl (P 42))), (a 43, .inl (cI, 200, .inl (P 43))), (a 44, .inl (cI, 200, .inl (P 44)))]) [1, 3, 5, 12, 13, 19, 20, 21, 22, 23] rfl
  have hDc := hD.sub (ws' := [(a 0, .inr (6, [.int (P 0 0), .ref (a 1), .ref (a 2), .ref (a 3), .ref (a 4), .ref (a 5), .ref (a 6), .ref (a 70), .ref (a 71)])), (a 2, .inr (5, [.int (P 0 2), .ref (a 20), .ref (a 21)])), (a 4, .inr (1, [.int (P 0 3), .ref (a 40), .ref (a 41), .ref (a 42), .ref (a 43), .ref (a 44)])), (a 20, .inl (cI, 5, .inl (P 20))), (a 21, .inl (cI, 25, .inl (P 21))), (a 40, .inl (cI, 200, .inl (P 40))), (a 41, .inl (cI, 200, .inl (P 41))), (a 42, .inl (cI, 200, .inl (P 42))), (a 43, .inl (cI, 200, .inl (P 43))), (a 44, .inl (cI, 200, .inl (P 44)))]) [1, 3, 5, 12, 13, 19, 20, 21, 22, 23] (by decide) rfl
  refine vp_callSi (W.runV (As := [.int (nI xs)]) (rest := [.int x]) ⟨hx, hb, hml, hown, hts⟩ (c_roomAt l D cI cZ cJ lo s.heap.size a P (nI xs) hw) (cwV 1 hts gX8_receive_X6_roomAt rfl rfl rfl (by decide +kernel) ⟨(Nat.le_of_ble_eq_true rfl), (Nat.le_of_ble_eq_true rfl)⟩) ⟨Pre.blind, va_recv hK hP (ci := 6) (q0 := 1) rfl rfl, Pre.mk hPc (hDc.weaken (fun _ _ _ h => hAlo _ h)) hC hS hAlo⟩ rfl rfl hl.1 rfl (lv_room (Nat.le_of_ble_eq_true rfl)) dX8_receive_56 ⟨(Nat.le_of_ble_eq_true rfl), (Nat.le_of_ble_eq_true rfl)⟩) (fun r_6 e_7 => ?_)
  clear hPc hDc
  have e_7 : sg_roomAt P (nI xs) = r_6 := Eq.symm e_7
  subst e_7
  refine lv_icmp_gt (tgt := 66) hx hb dX8_receive_59 (by decide) (fun c9 => absurd c9 (show ¬ ((sg_roomAt P (nI xs)) < x) from (Int32.not_lt.mpr h8))) (fun _ => ?_)
  refine lv_iconst (v := 1) hx hb dX8_receive_62 (by decide) ?_
  refine lv_goto (tgt := 67) hx hb dX8_receive_63 (by decide) ?_
  have hPc := hP.sub (ws' := []) [] rfl
  have hDc := hD.sub (ws' := []) [] (by decide) rfl
  refine va_csv (W.runS (As := [.int 1]) (rest := []) ⟨hx, hb, hml, hown, hts⟩ (c_needState l D cI cZ cJ lo s.heap.size 1 (by decide)) (va_cwS 1 hts gX8_receive_X8_needState rfl rfl rfl (by decide +kernel) ⟨(Nat.le_of_ble_eq_true rfl), (Nat.le_of_ble_eq_true rfl)⟩) ⟨Pre.blind, Pre.mk hPc (hDc.weaken (fun _ _ _ h => hAlo _ h)) hC hS hAlo⟩ rfl rfl hl.1 rfl (lv_room (Nat.le_of_ble_eq_true rfl)) dX8_receive_67 ⟨(Nat.le_of_ble_eq_true rfl), (Nat.le_of_ble_eq_true rfl)⟩) (fun e_8 => ?_)
  clear hPc hDc
  refine lv_aload_n hx hb dX8_receive_70 rfl (lv_at hl 0 rfl) ?_
  refine va_get (D := D) (ci := 8) (v := .ref (a 0)) (C := RX8) (T := TX8) (N := 3) hx hb hts in8 hown hK hP 0 rfl rfl 0 (by decide) (hts (.fieldLink RX8 10 "Granary" "now" "LGranary$Stock;") (by decide +kernel)) (fun _ h9 => h9) rfl dX8_receive_71 ?_
  refine va_get (D := D) (ci := 6) (v := .ref (a 70)) (C := RX6) (T := TX6) (N := 9) hx hb hts in6 hown hK hP 1 rfl rfl 7 (by decide) (hts (.fieldLink RX8 119 "Granary$Stock" "account" "[I") (by decide +kernel)) (fun _ h9 => h9) rfl dX8_receive_74 ?_
  refine lv_iconst (v := 3) hx hb dX8_receive_77 (by decide) ?_
  refine lv_dup2_11 hx hb dX8_receive_78 rfl rfl ?_
  refine sg_iald hx hb hK hP 40 0 rfl rfl (j := 3) (by decide) (Nat.le_of_ble_eq_true rfl) (Nat.le_of_ble_eq_true rfl) dX8_receive_79 ?_
  refine lv_toi (y := P 70 3) rfl ?_
  refine lv_iload_n hx hb dX8_receive_80 rfl (lv_at hl 3 rfl) ?_
  refine lv_aload_n hx hb dX8_receive_81 rfl (lv_at hl 0 rfl) ?_
  refine va_get (D := D) (ci := 8) (v := .ref (a 0)) (C := RX8) (T := TX8) (N := 3) hx hb hts in8 hown hK hP 0 rfl rfl 0 (by decide) (hts (.fieldLink RX8 10 "Granary" "now" "LGranary$Stock;") (by decide +kernel)) (fun _ h9 => h9) rfl dX8_receive_82 ?_
  refine va_get (D := D) (ci := 6) (v := .ref (a 1)) (C := RX6) (T := TX6) (N := 9) hx hb hts in6 hown hK hP 1 rfl rfl 1 (by decide) (hts (.fieldLink RX8 30 "Granary$Stock" "items" "LGranary$Items;") (by decide +kernel)) (fun _ h9 => h9) rfl dX8_receive_85 ?_
  refine lv_iload_n hx hb dX8_receive_88 rfl (lv_at hl 1 rfl) ?_
  have hPc := hP.sub (ws' := [(a 1, .inr (0, [.int (P 0 1), .ref (a 10), .ref (a 11), .ref (a 12), .ref (a 13)])), (a 11, .inl (cI, 6, .inl (P 11)))]) [2, 9] rfl
  have hDc := hD.sub (ws' := [(a 1, .inr (0, [.int (P 0 1), .ref (a 10), .ref (a 11), .ref (a 12), .ref (a 13)])), (a 11, .inl (cI, 6, .inl (P 11)))]) [2, 9] (by decide) rfl
  refine vp_callSi (W.runV (As := [.int (nI xi)]) (rest := [.int x, .int (P 70 3), .int 3, .ref (a 70)]) ⟨hx, hb, hml, hown, hts⟩ (c_priceOf l D cI cZ cJ lo s.heap.size a P (nI xi) hw) (cwV 1 hts gX8_receive_X0_priceOf rfl rfl rfl (by decide +kernel) ⟨(Nat.le_of_ble_eq_true rfl), (Nat.le_of_ble_eq_true rfl)⟩) ⟨Pre.blind, va_recv hK hP (ci := 0) (q0 := 2) rfl rfl, Pre.mk hPc (hDc.weaken (fun _ _ _ h => hAlo _ h)) hC hS hAlo⟩ rfl rfl hl.1 rfl (lv_room (Nat.le_of_ble_eq_true rfl)) dX8_receive_89 ⟨(Nat.le_of_ble_eq_true rfl), (Nat.le_of_ble_eq_true rfl)⟩) (fun r_9 e_10 => ?_)
  clear hPc hDc
  have e_10 : sg_priceOf P (nI xi) = r_9 := Eq.symm e_10
  subst e_10
  refine lv_imul hx hb dX8_receive_92 ?_
  refine lv_iadd hx hb dX8_receive_93 ?_
  refine sg_iast hx hb hK hP hD hS 40 0 rfl rfl (j := 3) (by decide) (Nat.le_of_ble_eq_true rfl) (Nat.le_of_ble_eq_true rfl) dX8_receive_94 (fun H locs hP hD hS => ?_)
  replace hP : va_P D vwCl ([(g, .inr (8, [.ref (a 0), .ref (b 0), .ref (pa 0)]))] ++ sg_St cI cZ a (sg_up P 70 3 ((P 70 3) + (x * (sg_priceOf P (nI xi))))) q) H := hP
  replace hD : va_D A ([(g, .inr (8, [.ref (a 0), .ref (b 0), .ref (pa 0)]))] ++ sg_St cI cZ a (sg_up P 70 3 ((P 70 3) + (x * (sg_priceOf P (nI xi))))) q) := hD
  refine lv_aload_n hx hb dX8_receive_95 rfl (lv_at hl 0 rfl) ?_
  refine va_get (D := D) (ci := 8) (v := .ref (a 0)) (C := RX8) (T := TX8) (N := 3) hx hb hts in8 hown hK hP 0 rfl rfl 0 (by decide) (hts (.fieldLink RX8 10 "Granary" "now" "LGranary$Stock;") (by decide +kernel)) (fun _ h9 => h9) rfl dX8_receive_96 ?_
  refine va_get (D := D) (ci := 6) (v := .ref (a 4)) (C := RX6) (T := TX6) (N := 9) hx hb hts in6 hown hK hP 1 rfl rfl 4 (by decide) (hts (.fieldLink RX8 109 "Granary$Stock" "lots" "LGranary$Lots;") (by decide +kernel)) (fun _ h9 => h9) rfl dX8_receive_99 ?_
  refine lv_iload_n hx hb dX8_receive_102 rfl (lv_at hl 1 rfl) ?_
  refine lv_iload_n hx hb dX8_receive_103 rfl (lv_at hl 2 rfl) ?_
  refine lv_iload_n hx hb dX8_receive_104 rfl (lv_at hl 3 rfl) ?_
  refine lv_aload_n hx hb dX8_receive_105 rfl (lv_at hl 0 rfl) ?_
  refine va_get (D := D) (ci := 8) (v := .ref (a 0)) (C := RX8) (T := TX8) (N := 3) hx hb hts in8 hown hK hP 0 rfl rfl 0 (by decide) (hts (.fieldLink RX8 10 "Granary" "now" "LGranary$Stock;") (by decide +kernel)) (fun _ h9 => h9) rfl dX8_receive_106 ?_
  refine va_get (D := D) (ci := 6) (v := .int ((sg_up P 70 3 ((P 70 3) + (x * (sg_priceOf P (nI xi))))) 0 0)) (C := RX6) (T := TX6) (N := 9) hx hb hts in6 hown hK hP 1 rfl rfl 0 (by decide) (hts (.fieldLink RX8 125 "Granary$Stock" "day" "I") (by decide +kernel)) (fun _ h9 => h9) rfl dX8_receive_109 ?_
  refine lv_toi (y := P 0 0) rfl ?_
  refine lv_iload hx hb dX8_receive_112 (lv_at hl 4 rfl) ?_
  refine lv_iadd hx hb dX8_receive_114 ?_
  have hPc := hP.sub (ws' := (sg_St cI cZ a (sg_up P 70 3 ((P 70 3) + (x * (sg_priceOf P (nI xi))))) q)) [1, 2, 3, 4, 5, 6, 7, 8, 9, 10, 11, 12, 13, 14, 15, 16, 17, 18, 19, 20, 21, 22, 23, 24, 25, 26, 27, 28, 29, 30, 31, 32, 33, 34, 35, 36, 37, 38, 39, 40, 41] rfl
  have hDc := hD.sub (ws' := (sg_St cI cZ a (sg_up P 70 3 ((P 70 3) + (x * (sg_priceOf P (nI xi))))) q)) [1, 2, 3, 4, 5, 6, 7, 8, 9, 10, 11, 12, 13, 14, 15, 16, 17, 18, 19, 20, 21, 22, 23, 24, 25, 26, 27, 28, 29, 30, 31, 32, 33, 34, 35, 36, 37, 38, 39, 40, 41] (by decide) rfl
  have hFc := va_free (wc := (sg_St cI cZ a (sg_up P 70 3 ((P 70 3) + (x * (sg_priceOf P (nI xi))))) q)) hD hS hA [1, 2, 3, 4, 5, 6, 7, 8, 9, 10, 11, 12, 13, 14, 15, 16, 17, 18, 19, 20, 21, 22, 23, 24, 25, 26, 27, 28, 29, 30, 31, 32, 33, 34, 35, 36, 37, 38, 39, 40, 41] rfl
  refine va_calli (va_runV (As := [.int (nI xi), .int (nI xs), .int x, .int ((P 0 0) + y)]) (rest := []) ⟨hx, hb, hml, hown, hts⟩ (c_ladd l D cI cZ cJ lo H.size a (sg_up P 70 3 ((P 70 3) + (x * (sg_priceOf P (nI xi))))) q (nI xi) (nI xs) x ((P 0 0) + y) hw) (cwV 4 hts gX8_receive_X1_add rfl rfl rfl (by decide +kernel) ⟨(Nat.le_of_ble_eq_true rfl), (Nat.le_of_ble_eq_true rfl)⟩) ⟨Pre.blind, va_recv hK hP (ci := 1) (q0 := 5) rfl rfl, Pre.mk hPc (hDc.weaken (fun _ _ _ h => hAlo _ h)) hC hS hAlo⟩ rfl rfl hl.1 rfl (lv_room (Nat.le_of_ble_eq_true rfl)) dX8_receive_115 ⟨(Nat.le_of_ble_eq_true rfl), (Nat.le_of_ble_eq_true rfl)⟩) hS (fun q _ h => hFc q h) hFc (fun r_11 u t H1 locs1 ht hvm e_12 hB hz1 hk1 hS1 => ?_)
  have hS := hS1
  obtain ⟨hP1, hD1⟩ := hB
  rw [ht] at hP1
  obtain ⟨hP, hD⟩ := va_join (wr := [(g, .inr (8, [.ref (a 0), .ref (b 0), .ref (pa 0)]))]) (w1 := (sg_St cI cZ a (sg_ladd (sg_up P 70 3 ((P 70 3) + (x * (sg_priceOf P (nI xi))))) (nI xi) (nI xs) x ((P 0 0) + y)) q)) hP hD [1, 2, 3, 4, 5, 6, 7, 8, 9, 10, 11, 12, 13, 14, 15, 16, 17, 18, 19, 20, 21, 22, 23, 24, 25, 26, 27, 28, 29, 30, 31, 32, 33, 34, 35, 36, 37, 38, 39, 40, 41] [0] rfl rfl (by decide) (by decide) hk1 hFc hP1 hD1
  have e_12 : sg_ladd_r (sg_up P 70 3 ((P 70 3) + (x * (sg_priceOf P (nI xi))))) (nI xi) (nI xs) x ((P 0 0) + y) = r_11 := Eq.symm e_12
  subst e_12
  clear hFc hPc hDc ht hvm hz1 hk1 hS1 hP1 hD1
  generalize H1 = H at hP hS ⊢
  replace hP : va_P D vwCl ([(g, .inr (8, [.ref (a 0), .ref (b 0), .ref (pa 0)]))] ++ sg_St cI cZ a (sg_ladd (sg_up P 70 3 ((P 70 3) + (x * (sg_priceOf P (nI xi))))) (nI xi) (nI xs) x ((P 0 0) + y)) q) H := hP
  replace hD : va_D A ([(g, .inr (8, [.ref (a 0), .ref (b 0), .ref (pa 0)]))] ++ sg_St cI cZ a (sg_ladd (sg_up P 70 3 ((P 70 3) + (x * (sg_priceOf P (nI xi))))) (nI xi) (nI xs) x ((P 0 0) + y)) q) := hD
  refine W.widen (k := 0) (n := 0) (by omega) (by omega) ?_
  have hP9 : va_P D vwCl ([(g, .inr (8, [.ref (a 0), .ref (b 0), .ref (pa 0)]))] ++ sg_St cI cZ a (sg_g_receive P xi xs x y) q) H := by exact hP
  have hD9 : va_D A ([(g, .inr (8, [.ref (a 0), .ref (b 0), .ref (pa 0)]))] ++ sg_St cI cZ a (sg_g_receive P xi xs x y) q) := by exact hD
  exact W.iret (v := (sg_ladd_r (sg_up P 70 3 ((P 70 3) + (x * (sg_priceOf P (nI xi))))) (nI xi) (nI xs) x ((P 0 0) + y))) hx hb hr (fun t ht hW => ⟨⟨(sg_ladd_r (sg_up P 70 3 ((P 70 3) + (x * (sg_priceOf P (nI xi))))) (nI xi) (nI xs) x ((P 0 0) + y)), (), rfl, rfl, by rw [ht]; exact hP9, hD9⟩, hS.F ht⟩) hS.2.2 dX8_receive_118

def sg_g_order_r (P : sg_Pic) (xi : Nat) (xs : Nat) (x : Int32) (y : Int32) (z : Int32) (v : Int32) : Int32 := (nI (sg_cn P 4))

def sg_g_order (P : sg_Pic) (xi : Nat) (xs : Nat) (x : Int32) (y : Int32) (z : Int32) (v : Int32) : sg_Pic := (sg_reserveFor (sg_oadd P (nI xi) (nI xs) x ((P 0 0) + y) z v) (sg_cn P 4))

set_option maxHeartbeats 4000000 in
set_option maxRecDepth 100000 in
/-- X8_order -/
theorem c_g_order (l : Launch) (D : va_G) (cI cZ cJ : ClassId) (lo sz : Nat) (g : Nat) (pa : Nat → Nat) (b : Nat → Nat) (a : Nat → Nat) (P : sg_Pic) (q : Nat → Int32) (xi : Nat) (xs : Nat) (x : Int32) (y : Int32) (z : Int32) (v : Int32) (hw : sg_W P) (hi : xi < sg_cn P 1) (hs : xs < sg_cn P 2) (h1 : (1 : Int32) ≤ x) (h2 : x ≤ 99) (h3 : (0 : Int32) ≤ y) (h4 : y ≤ 60) (h5 : (0 : Int32) ≤ z) (h6 : z ≤ 9) (h9 : (0 : Int32) ≤ v) (h10 : v ≤ 20) (h7 : sg_cn P 4 < 60) : Met l yX8_order wsX8_order ({ frames := 3, cells := 0, slots := 0, locals := 70 }) (Pre lo D cI cZ cJ [.ref g, .int (nI xi), .int (nI xs), .int x, .int y, .int z, .int v] sz ([(g, .inr (8, [.ref (a 0), .ref (b 0), .ref (pa 0)]))] ++ sg_St cI cZ a P q)) (va_Qi (fun (r : Int32) (_ : Unit) => r = sg_g_order_r P xi xs x y z v) (fun _ t => va_P D vwCl ([(g, .inr (8, [.ref (a 0), .ref (b 0), .ref (pa 0)]))] ++ sg_St cI cZ a (sg_g_order P xi xs x y z v) q) t.heap ∧ va_D (va_A ([(g, .inr (8, [.ref (a 0), .ref (b 0), .ref (pa 0)]))] ++ sg_St cI cZ a P q) sz) ([(g, .inr (8, [.ref (a 0), .ref (b 0), .ref (pa 0)]))] ++ sg_St cI cZ a (sg_g_order P xi xs x y z v) q)) (va_A ([(g, .inr (8, [.ref (a 0), .ref (b 0), .ref (pa 0)]))] ++ sg_St cI cZ a P q) sz)) 0 0 (va_A ([(g, .inr (8, [.ref (a 0), .ref (b 0), .ref (pa 0)]))] ++ sg_St cI cZ a P q) sz) := by
  refine Met.ofW (cc := cX8_order) (maxL := 8) (ret := (some .int)) (by decide) rfl ?_
  intro p e s m args below meth c s₁ B hml hv
  obtain ⟨rfl, hsz, hP, hD0, hC⟩ := hv
  have hx := B.exec
  have hb := B.bytes
  have hr := B.returns
  have hts := atoms_spec (ws := wsX8_order) B.pre
  have hown : s.vm.findClass RX8 = some m.cls := findClass_of_methodNamed B.named
  have hlocks := B.notSynchronized
  subst hsz
  have hn1 : sg_cn P 1 ≤ 6 := hw.n1
  have hn2 : sg_cn P 2 ≤ 5 := hw.n2
  have hn3 : sg_cn P 3 ≤ 200 := hw.n3
  have hn4 : sg_cn P 4 ≤ 60 := hw.n4
  have hn5 : sg_cn P 5 ≤ 90 := hw.n5
  have hK := hC.K
  have hD := hD0.self (sz := s.heap.size)
  have hAlo0 := va_A_lo hD0 hC.1
  generalize hAe : va_A ([(g, .inr (8, [.ref (a 0), .ref (b 0), .ref (pa 0)]))] ++ sg_St cI cZ a P q) s.heap.size = A at hD hAlo0 ⊢
  have hA : ∀ q : Nat, s.heap.size ≤ q → A q := fun q h => by rw [← hAe]; exact Or.inr h
  have hAlo : ∀ q, A q → lo ≤ q := hAlo0
  have hS : va_S A s.heap s.heap [] := va_S.rf
  have hP : va_P D vwCl ([(g, .inr (8, [.ref (a 0), .ref (b 0), .ref (pa 0)]))] ++ sg_St cI cZ a P q) s.heap := hP
  have hl := lv_entry ([.ref g, .int (nI xi), .int (nI xs), .int x, .int y, .int z, .int v]) (n := 8) (Nat.le_of_ble_eq_true rfl)
  rw [lg_entry_eq]
  generalize (lg_sl ([.ref g, .int (nI xi), .int (nI xs), .int x, .int y, .int z, .int v]) ++ List.replicate (8 - (lg_sl ([.ref g, .int (nI xi), .int (nI xs), .int x, .int y, .int z, .int v])).length) Slot.unset).toArray = ls at hl ⊢
  have hl : lv_has ls 8 [(0, .ref g), (1, .int (nI xi)), (2, .int (nI xs)), (3, .int x), (4, .int y), (5, .int z), (6, .int v)] := hl
  have in2 : ∀ w ∈ u_ws RX2 TX2 11, w ∈ wsX8_order := by decide +kernel
  have in6 : ∀ w ∈ u_ws RX6 TX6 9, w ∈ wsX8_order := by decide +kernel
  have in8 : ∀ w ∈ u_ws RX8 TX8 3, w ∈ wsX8_order := by decide +kernel
  refine lv_aload_n hx hb dX8_order_0 rfl (lv_at hl 0 rfl) ?_
  refine lv_iload_n hx hb dX8_order_1 rfl (lv_at hl 1 rfl) ?_
  have hPc := hP.sub (ws' := [(g, .inr (8, [.ref (a 0), .ref (b 0), .ref (pa 0)])), (a 0, .inr (6, [.int (P 0 0), .ref (a 1), .ref (a 2), .ref (a 3), .ref (a 4), .ref (a 5), .ref (a 6), .ref (a 70), .ref (a 71)])), (a 1, .inr (0, [.int (P 0 1), .ref (a 10), .ref (a 11), .ref (a 12), .ref (a 13)]))]) [0, 1, 2] rfl
  have hDc := hD.sub (ws' := [(g, .inr (8, [.ref (a 0), .ref (b 0), .ref (pa 0)])), (a 0, .inr (6, [.int (P 0 0), .ref (a 1), .ref (a 2), .ref (a 3), .ref (a 4), .ref (a 5), .ref (a 6), .ref (a 70), .ref (a 71)])), (a 1, .inr (0, [.int (P 0 1), .ref (a 10), .ref (a 11), .ref (a 12), .ref (a 13)]))]) [0, 1, 2] (by decide) rfl
  refine va_csv (W.runV (As := [.int (nI xi)]) (rest := []) ⟨hx, hb, hml, hown, hts⟩ (c_needItem l D cI cZ cJ lo s.heap.size g pa b a P xi hw (by omega)) (cwV 1 hts gX8_order_X8_needItem rfl rfl rfl (by decide +kernel) ⟨(Nat.le_of_ble_eq_true rfl), (Nat.le_of_ble_eq_true rfl)⟩) ⟨Pre.blind, va_recv hK hP (ci := 8) (q0 := 0) rfl rfl, Pre.mk hPc (hDc.weaken (fun _ _ _ h => hAlo _ h)) hC hS hAlo⟩ rfl rfl hl.1 rfl (lv_room (Nat.le_of_ble_eq_true rfl)) dX8_order_2 ⟨(Nat.le_of_ble_eq_true rfl), (Nat.le_of_ble_eq_true rfl)⟩) (fun e_1 => ?_)
  clear hPc hDc
  refine lv_aload_n hx hb dX8_order_5 rfl (lv_at hl 0 rfl) ?_
  refine lv_iload_n hx hb dX8_order_6 rfl (lv_at hl 2 rfl) ?_
  have hPc := hP.sub (ws' := [(g, .inr (8, [.ref (a 0), .ref (b 0), .ref (pa 0)])), (a 0, .inr (6, [.int (P 0 0), .ref (a 1), .ref (a 2), .ref (a 3), .ref (a 4), .ref (a 5), .ref (a 6), .ref (a 70), .ref (a 71)])), (a 2, .inr (5, [.int (P 0 2), .ref (a 20), .ref (a 21)]))]) [0, 1, 3] rfl
  have hDc := hD.sub (ws' := [(g, .inr (8, [.ref (a 0), .ref (b 0), .ref (pa 0)])), (a 0, .inr (6, [.int (P 0 0), .ref (a 1), .ref (a 2), .ref (a 3), .ref (a 4), .ref (a 5), .ref (a 6), .ref (a 70), .ref (a 71)])), (a 2, .inr (5, [.int (P 0 2), .ref (a 20), .ref (a 21)]))]) [0, 1, 3] (by decide) rfl
  refine va_csv (W.runV (As := [.int (nI xs)]) (rest := []) ⟨hx, hb, hml, hown, hts⟩ (c_needSite l D cI cZ cJ lo s.heap.size g pa b a P xs hw (by omega)) (cwV 1 hts gX8_order_X8_needSite rfl rfl rfl (by decide +kernel) ⟨(Nat.le_of_ble_eq_true rfl), (Nat.le_of_ble_eq_true rfl)⟩) ⟨Pre.blind, va_recv hK hP (ci := 8) (q0 := 0) rfl rfl, Pre.mk hPc (hDc.weaken (fun _ _ _ h => hAlo _ h)) hC hS hAlo⟩ rfl rfl hl.1 rfl (lv_room (Nat.le_of_ble_eq_true rfl)) dX8_order_7 ⟨(Nat.le_of_ble_eq_true rfl), (Nat.le_of_ble_eq_true rfl)⟩) (fun e_2 => ?_)
  clear hPc hDc
  refine lv_iload_n hx hb dX8_order_10 rfl (lv_at hl 3 rfl) ?_
  refine lv_iconst (v := 1) hx hb dX8_order_11 (by decide) ?_
  refine lv_bipush (v := 99) hx hb dX8_order_12 (by decide) ?_
  have hPc := hP.sub (ws' := []) [] rfl
  have hDc := hD.sub (ws' := []) [] (by decide) rfl
  refine va_csv (W.runS (As := [.int x, .int 1, .int 99]) (rest := []) ⟨hx, hb, hml, hown, hts⟩ (c_needWithin l D cI cZ cJ lo s.heap.size x 1 99 h1 h2) (va_cwS 3 hts gX8_order_X8_needWithin rfl rfl rfl (by decide +kernel) ⟨(Nat.le_of_ble_eq_true rfl), (Nat.le_of_ble_eq_true rfl)⟩) ⟨Pre.blind, Pre.mk hPc (hDc.weaken (fun _ _ _ h => hAlo _ h)) hC hS hAlo⟩ rfl rfl hl.1 rfl (lv_room (Nat.le_of_ble_eq_true rfl)) dX8_order_14 ⟨(Nat.le_of_ble_eq_true rfl), (Nat.le_of_ble_eq_true rfl)⟩) (fun e_3 => ?_)
  clear hPc hDc
  refine lv_iload hx hb dX8_order_17 (lv_at hl 4 rfl) ?_
  refine lv_iconst (v := 0) hx hb dX8_order_19 (by decide) ?_
  refine lv_bipush (v := 60) hx hb dX8_order_20 (by decide) ?_
  have hPc := hP.sub (ws' := []) [] rfl
  have hDc := hD.sub (ws' := []) [] (by decide) rfl
  refine va_csv (W.runS (As := [.int y, .int 0, .int 60]) (rest := []) ⟨hx, hb, hml, hown, hts⟩ (c_needWithin l D cI cZ cJ lo s.heap.size y 0 60 h3 h4) (va_cwS 3 hts gX8_order_X8_needWithin rfl rfl rfl (by decide +kernel) ⟨(Nat.le_of_ble_eq_true rfl), (Nat.le_of_ble_eq_true rfl)⟩) ⟨Pre.blind, Pre.mk hPc (hDc.weaken (fun _ _ _ h => hAlo _ h)) hC hS hAlo⟩ rfl rfl hl.1 rfl (lv_room (Nat.le_of_ble_eq_true rfl)) dX8_order_22 ⟨(Nat.le_of_ble_eq_true rfl), (Nat.le_of_ble_eq_true rfl)⟩) (fun e_4 => ?_)
  clear hPc hDc
  refine lv_iload hx hb dX8_order_25 (lv_at hl 5 rfl) ?_
  refine lv_iconst (v := 0) hx hb dX8_order_27 (by decide) ?_
  refine lv_bipush (v := 9) hx hb dX8_order_28 (by decide) ?_
  have hPc := hP.sub (ws' := []) [] rfl
  have hDc := hD.sub (ws' := []) [] (by decide) rfl
  refine va_csv (W.runS (As := [.int z, .int 0, .int 9]) (rest := []) ⟨hx, hb, hml, hown, hts⟩ (c_needWithin l D cI cZ cJ lo s.heap.size z 0 9 h5 h6) (va_cwS 3 hts gX8_order_X8_needWithin rfl rfl rfl (by decide +kernel) ⟨(Nat.le_of_ble_eq_true rfl), (Nat.le_of_ble_eq_true rfl)⟩) ⟨Pre.blind, Pre.mk hPc (hDc.weaken (fun _ _ _ h => hAlo _ h)) hC hS hAlo⟩ rfl rfl hl.1 rfl (lv_room (Nat.le_of_ble_eq_true rfl)) dX8_order_30 ⟨(Nat.le_of_ble_eq_true rfl), (Nat.le_of_ble_eq_true rfl)⟩) (fun e_5 => ?_)
  clear hPc hDc
  refine lv_iload hx hb dX8_order_33 (lv_at hl 6 rfl) ?_
  refine lv_iconst (v := 0) hx hb dX8_order_35 (by decide) ?_
  refine lv_bipush (v := 20) hx hb dX8_order_36 (by decide) ?_
  have hPc := hP.sub (ws' := []) [] rfl
  have hDc := hD.sub (ws' := []) [] (by decide) rfl
  refine va_csv (W.runS (As := [.int v, .int 0, .int 20]) (rest := []) ⟨hx, hb, hml, hown, hts⟩ (c_needWithin l D cI cZ cJ lo s.heap.size v 0 20 h9 h10) (va_cwS 3 hts gX8_order_X8_needWithin rfl rfl rfl (by decide +kernel) ⟨(Nat.le_of_ble_eq_true rfl), (Nat.le_of_ble_eq_true rfl)⟩) ⟨Pre.blind, Pre.mk hPc (hDc.weaken (fun _ _ _ h => hAlo _ h)) hC hS hAlo⟩ rfl rfl hl.1 rfl (lv_room (Nat.le_of_ble_eq_true rfl)) dX8_order_38 ⟨(Nat.le_of_ble_eq_true rfl), (Nat.le_of_ble_eq_true rfl)⟩) (fun e_6 => ?_)
  clear hPc hDc
  refine lv_aload_n hx hb dX8_order_41 rfl (lv_at hl 0 rfl) ?_
  refine va_get (D := D) (ci := 8) (v := .ref (a 0)) (C := RX8) (T := TX8) (N := 3) hx hb hts in8 hown hK hP 0 rfl rfl 0 (by decide) (hts (.fieldLink RX8 10 "Granary" "now" "LGranary$Stock;") (by decide +kernel)) (fun _ h9 => h9) rfl dX8_order_42 ?_
  refine va_get (D := D) (ci := 6) (v := .ref (a 5)) (C := RX6) (T := TX6) (N := 9) hx hb hts in6 hown hK hP 1 rfl rfl 5 (by decide) (hts (.fieldLink RX8 131 "Granary$Stock" "orders" "LGranary$Orders;") (by decide +kernel)) (fun _ h9 => h9) rfl dX8_order_45 ?_
  refine va_get (D := D) (ci := 2) (v := .int (P 0 4)) (C := RX2) (T := TX2) (N := 11) hx hb hts in2 hown hK hP 6 rfl rfl 0 (by decide) (hts (.fieldLink RX8 135 "Granary$Orders" "count" "I") (by decide +kernel)) (fun _ h9 => h9) rfl dX8_order_48 ?_
  refine lv_bipush (v := 60) hx hb dX8_order_51 (by decide) ?_
  refine lv_icmp_ge (tgt := 60) hx hb dX8_order_53 (by decide) (fun c9 => absurd c9 (show ¬ ((60 : Int32) ≤ (P 0 4)) from (sg_ge4 hw h7))) (fun _ => ?_)
  refine lv_iconst (v := 1) hx hb dX8_order_56 (by decide) ?_
  refine lv_goto (tgt := 61) hx hb dX8_order_57 (by decide) ?_
  have hPc := hP.sub (ws' := []) [] rfl
  have hDc := hD.sub (ws' := []) [] (by decide) rfl
  refine va_csv (W.runS (As := [.int 1]) (rest := []) ⟨hx, hb, hml, hown, hts⟩ (c_needState l D cI cZ cJ lo s.heap.size 1 (by decide)) (va_cwS 1 hts gX8_order_X8_needState rfl rfl rfl (by decide +kernel) ⟨(Nat.le_of_ble_eq_true rfl), (Nat.le_of_ble_eq_true rfl)⟩) ⟨Pre.blind, Pre.mk hPc (hDc.weaken (fun _ _ _ h => hAlo _ h)) hC hS hAlo⟩ rfl rfl hl.1 rfl (lv_room (Nat.le_of_ble_eq_true rfl)) dX8_order_61 ⟨(Nat.le_of_ble_eq_true rfl), (Nat.le_of_ble_eq_true rfl)⟩) (fun e_7 => ?_)
  clear hPc hDc
  refine lv_aload_n hx hb dX8_order_64 rfl (lv_at hl 0 rfl) ?_
  refine va_get (D := D) (ci := 8) (v := .ref (a 0)) (C := RX8) (T := TX8) (N := 3) hx hb hts in8 hown hK hP 0 rfl rfl 0 (by decide) (hts (.fieldLink RX8 10 "Granary" "now" "LGranary$Stock;") (by decide +kernel)) (fun _ h9 => h9) rfl dX8_order_65 ?_
  refine va_get (D := D) (ci := 6) (v := .ref (a 5)) (C := RX6) (T := TX6) (N := 9) hx hb hts in6 hown hK hP 1 rfl rfl 5 (by decide) (hts (.fieldLink RX8 131 "Granary$Stock" "orders" "LGranary$Orders;") (by decide +kernel)) (fun _ h9 => h9) rfl dX8_order_68 ?_
  refine lv_iload_n hx hb dX8_order_71 rfl (lv_at hl 1 rfl) ?_
  refine lv_iload_n hx hb dX8_order_72 rfl (lv_at hl 2 rfl) ?_
  refine lv_iload_n hx hb dX8_order_73 rfl (lv_at hl 3 rfl) ?_
  refine lv_aload_n hx hb dX8_order_74 rfl (lv_at hl 0 rfl) ?_
  refine va_get (D := D) (ci := 8) (v := .ref (a 0)) (C := RX8) (T := TX8) (N := 3) hx hb hts in8 hown hK hP 0 rfl rfl 0 (by decide) (hts (.fieldLink RX8 10 "Granary" "now" "LGranary$Stock;") (by decide +kernel)) (fun _ h9 => h9) rfl dX8_order_75 ?_
  refine va_get (D := D) (ci := 6) (v := .int (P 0 0)) (C := RX6) (T := TX6) (N := 9) hx hb hts in6 hown hK hP 1 rfl rfl 0 (by decide) (hts (.fieldLink RX8 125 "Granary$Stock" "day" "I") (by decide +kernel)) (fun _ h9 => h9) rfl dX8_order_78 ?_
  refine lv_iload hx hb dX8_order_81 (lv_at hl 4 rfl) ?_
  refine lv_iadd hx hb dX8_order_83 ?_
  refine lv_iload hx hb dX8_order_84 (lv_at hl 5 rfl) ?_
  refine lv_iload hx hb dX8_order_86 (lv_at hl 6 rfl) ?_
  have hPc := hP.sub (ws' := (sg_St cI cZ a P q)) [1, 2, 3, 4, 5, 6, 7, 8, 9, 10, 11, 12, 13, 14, 15, 16, 17, 18, 19, 20, 21, 22, 23, 24, 25, 26, 27, 28, 29, 30, 31, 32, 33, 34, 35, 36, 37, 38, 39, 40, 41] rfl
  have hDc := hD.sub (ws' := (sg_St cI cZ a P q)) [1, 2, 3, 4, 5, 6, 7, 8, 9, 10, 11, 12, 13, 14, 15, 16, 17, 18, 19, 20, 21, 22, 23, 24, 25, 26, 27, 28, 29, 30, 31, 32, 33, 34, 35, 36, 37, 38, 39, 40, 41] (by decide) rfl
  have hFc := va_free (wc := (sg_St cI cZ a P q)) hD hS hA [1, 2, 3, 4, 5, 6, 7, 8, 9, 10, 11, 12, 13, 14, 15, 16, 17, 18, 19, 20, 21, 22, 23, 24, 25, 26, 27, 28, 29, 30, 31, 32, 33, 34, 35, 36, 37, 38, 39, 40, 41] rfl
  refine va_calli (va_runV (As := [.int (nI xi), .int (nI xs), .int x, .int ((P 0 0) + y), .int z, .int v]) (rest := []) ⟨hx, hb, hml, hown, hts⟩ (c_oadd l D cI cZ cJ lo s.heap.size a P q (nI xi) (nI xs) x ((P 0 0) + y) z v hw) (cwV 6 hts gX8_order_X2_add rfl rfl rfl (by decide +kernel) ⟨(Nat.le_of_ble_eq_true rfl), (Nat.le_of_ble_eq_true rfl)⟩) ⟨Pre.blind, va_recv hK hP (ci := 2) (q0 := 6) rfl rfl, Pre.mk hPc (hDc.weaken (fun _ _ _ h => hAlo _ h)) hC hS hAlo⟩ rfl rfl hl.1 rfl (lv_room (Nat.le_of_ble_eq_true rfl)) dX8_order_88 ⟨(Nat.le_of_ble_eq_true rfl), (Nat.le_of_ble_eq_true rfl)⟩) hS (fun q _ h => hFc q h) hFc (fun r_8 u t H1 locs1 ht hvm e_9 hB hz1 hk1 hS1 => ?_)
  have hS := hS1
  obtain ⟨hP1, hD1⟩ := hB
  rw [ht] at hP1
  obtain ⟨hP, hD⟩ := va_join (wr := [(g, .inr (8, [.ref (a 0), .ref (b 0), .ref (pa 0)]))]) (w1 := (sg_St cI cZ a (sg_oadd P (nI xi) (nI xs) x ((P 0 0) + y) z v) q)) hP hD [1, 2, 3, 4, 5, 6, 7, 8, 9, 10, 11, 12, 13, 14, 15, 16, 17, 18, 19, 20, 21, 22, 23, 24, 25, 26, 27, 28, 29, 30, 31, 32, 33, 34, 35, 36, 37, 38, 39, 40, 41] [0] rfl rfl (by decide) (by decide) hk1 hFc hP1 hD1
  have e_9 : sg_oadd_r P (nI xi) (nI xs) x ((P 0 0) + y) z v = r_8 := Eq.symm e_9
  subst e_9
  clear hFc hPc hDc ht hvm hz1 hk1 hS1 hP1 hD1
  generalize H1 = H at hP hS ⊢
  replace hP : va_P D vwCl ([(g, .inr (8, [.ref (a 0), .ref (b 0), .ref (pa 0)]))] ++ sg_St cI cZ a (sg_oadd P (nI xi) (nI xs) x ((P 0 0) + y) z v) q) H := hP
  replace hD : va_D A ([(g, .inr (8, [.ref (a 0), .ref (b 0), .ref (pa 0)]))] ++ sg_St cI cZ a (sg_oadd P (nI xi) (nI xs) x ((P 0 0) + y) z v) q) := hD
  refine lv_toi (y := nI (sg_cn P 4)) (sg_oadd_n hw h7) ?_
  refine lv_istore (lv' := [(7, .int (nI (sg_cn P 4))), (0, .ref g), (1, .int (nI xi)), (2, .int (nI xs)), (3, .int x), (4, .int y), (5, .int z), (6, .int v)]) hx hb dX8_order_91 hl (by decide) rfl (fun ls hl => ?_)
  refine lv_aload_n hx hb dX8_order_93 rfl (lv_at hl 1 rfl) ?_
  refine va_get (D := D) (ci := 8) (v := .ref (a 0)) (C := RX8) (T := TX8) (N := 3) hx hb hts in8 hown hK hP 0 rfl rfl 0 (by decide) (hts (.fieldLink RX8 10 "Granary" "now" "LGranary$Stock;") (by decide +kernel)) (fun _ h9 => h9) rfl dX8_order_94 ?_
  refine lv_iload hx hb dX8_order_97 (lv_at hl 0 rfl) ?_
  have hPc := hP.sub (ws' := (sg_St cI cZ a (sg_oadd P (nI xi) (nI xs) x ((P 0 0) + y) z v) q)) [1, 2, 3, 4, 5, 6, 7, 8, 9, 10, 11, 12, 13, 14, 15, 16, 17, 18, 19, 20, 21, 22, 23, 24, 25, 26, 27, 28, 29, 30, 31, 32, 33, 34, 35, 36, 37, 38, 39, 40, 41] rfl
  have hDc := hD.sub (ws' := (sg_St cI cZ a (sg_oadd P (nI xi) (nI xs) x ((P 0 0) + y) z v) q)) [1, 2, 3, 4, 5, 6, 7, 8, 9, 10, 11, 12, 13, 14, 15, 16, 17, 18, 19, 20, 21, 22, 23, 24, 25, 26, 27, 28, 29, 30, 31, 32, 33, 34, 35, 36, 37, 38, 39, 40, 41] (by decide) rfl
  have hFc := va_free (wc := (sg_St cI cZ a (sg_oadd P (nI xi) (nI xs) x ((P 0 0) + y) z v) q)) hD hS hA [1, 2, 3, 4, 5, 6, 7, 8, 9, 10, 11, 12, 13, 14, 15, 16, 17, 18, 19, 20, 21, 22, 23, 24, 25, 26, 27, 28, 29, 30, 31, 32, 33, 34, 35, 36, 37, 38, 39, 40, 41] rfl
  refine va_callv (va_runV (As := [.int (nI (sg_cn P 4))]) (rest := []) ⟨hx, hb, hml, hown, hts⟩ (c_reserveFor l D cI cZ cJ lo H.size a (sg_oadd P (nI xi) (nI xs) x ((P 0 0) + y) z v) q (sg_cn P 4) (sg_oadd_W hw) (by omega)) (cwV 1 hts gX8_order_X6_reserveFor rfl rfl rfl (by decide +kernel) ⟨(Nat.le_of_ble_eq_true rfl), (Nat.le_of_ble_eq_true rfl)⟩) ⟨Pre.blind, va_recv hK hP (ci := 6) (q0 := 1) rfl rfl, Pre.mk hPc (hDc.weaken (fun _ _ _ h => hAlo _ h)) hC hS hAlo⟩ rfl rfl hl.1 rfl (lv_room (Nat.le_of_ble_eq_true rfl)) dX8_order_99 ⟨(Nat.le_of_ble_eq_true rfl), (Nat.le_of_ble_eq_true rfl)⟩) hS (fun q _ h => hFc q h) hFc (fun u t H1 locs1 ht hvm e_10 hB hz1 hk1 hS1 => ?_)
  have hS := hS1
  obtain ⟨hP1, hD1⟩ := hB
  rw [ht] at hP1
  obtain ⟨hP, hD⟩ := va_join (wr := [(g, .inr (8, [.ref (a 0), .ref (b 0), .ref (pa 0)]))]) (w1 := (sg_St cI cZ a (sg_reserveFor (sg_oadd P (nI xi) (nI xs) x ((P 0 0) + y) z v) (sg_cn P 4)) q)) hP hD [1, 2, 3, 4, 5, 6, 7, 8, 9, 10, 11, 12, 13, 14, 15, 16, 17, 18, 19, 20, 21, 22, 23, 24, 25, 26, 27, 28, 29, 30, 31, 32, 33, 34, 35, 36, 37, 38, 39, 40, 41] [0] rfl rfl (by decide) (by decide) hk1 hFc hP1 hD1
  have e_10 : True := e_10
  clear hFc hPc hDc ht hvm hz1 hk1 hS1 hP1 hD1
  generalize H1 = H at hP hS ⊢
  replace hP : va_P D vwCl ([(g, .inr (8, [.ref (a 0), .ref (b 0), .ref (pa 0)]))] ++ sg_St cI cZ a (sg_reserveFor (sg_oadd P (nI xi) (nI xs) x ((P 0 0) + y) z v) (sg_cn P 4)) q) H := hP
  replace hD : va_D A ([(g, .inr (8, [.ref (a 0), .ref (b 0), .ref (pa 0)]))] ++ sg_St cI cZ a (sg_reserveFor (sg_oadd P (nI xi) (nI xs) x ((P 0 0) + y) z v) (sg_cn P 4)) q) := hD
  refine lv_iload hx hb dX8_order_102 (lv_at hl 0 rfl) ?_
  refine W.widen (k := 0) (n := 0) (by omega) (by omega) ?_
  have hP9 : va_P D vwCl ([(g, .inr (8, [.ref (a 0), .ref (b 0), .ref (pa 0)]))] ++ sg_St cI cZ a (sg_g_order P xi xs x y z v) q) H := by exact hP
  have hD9 : va_D A ([(g, .inr (8, [.ref (a 0), .ref (b 0), .ref (pa 0)]))] ++ sg_St cI cZ a (sg_g_order P xi xs x y z v) q) := by exact hD
  exact W.iret (v := (nI (sg_cn P 4))) hx hb hr (fun t ht hW => ⟨⟨(nI (sg_cn P 4)), (), rfl, rfl, by rw [ht]; exact hP9, hD9⟩, hS.F ht⟩) hS.2.2 dX8_order_104

def sg_g_reserveAnew_2 (P : sg_Pic) : Nat → sg_Pic
  | 0 => P
  | j2 + 1 => (sg_release (sg_g_reserveAnew_2 P j2) j2)
theorem sg_g_reserveAnew_2_K (P : sg_Pic) : ∀ j : Nat, sg_K (sg_g_reserveAnew_2 P j) P
  | 0 => by exact ⟨rfl, rfl⟩
  | j + 1 => by
    have h := sg_g_reserveAnew_2_K P j
    rw [sg_g_reserveAnew_2]
    repeat' split
    all_goals first | exact h | (refine sg_K.trans ?_ h; exact ⟨rfl, rfl⟩) | (refine sg_K.trans ?_ h; exact sg_release_K _ _)

def sg_g_reserveAnew_r (P : sg_Pic) : Int32 := (sg_allReserved (sg_reserveForAll (sg_g_reserveAnew_2 P (sg_cn P 4))))

def sg_g_reserveAnew (P : sg_Pic) : sg_Pic := (sg_reserveForAll (sg_g_reserveAnew_2 P (sg_cn P 4)))

set_option maxHeartbeats 4000000 in
set_option maxRecDepth 100000 in
/-- X8_reserveAnew -/
theorem c_g_reserveAnew (l : Launch) (D : va_G) (cI cZ cJ : ClassId) (lo sz : Nat) (g : Nat) (pa : Nat → Nat) (b : Nat → Nat) (a : Nat → Nat) (P : sg_Pic) (q : Nat → Int32) (hw : sg_W P) : Met l yX8_reserveAnew wsX8_reserveAnew ({ frames := 4, cells := 0, slots := 0, locals := 92 }) (Pre lo D cI cZ cJ [.ref g] sz ([(g, .inr (8, [.ref (a 0), .ref (b 0), .ref (pa 0)]))] ++ sg_St cI cZ a P q)) (va_Qi (fun (r : Int32) (_ : Unit) => r = sg_g_reserveAnew_r P) (fun _ t => ∃ (q1 : Nat → Int32), va_P D vwCl ([(g, .inr (8, [.ref (a 0), .ref (b 0), .ref (pa 0)]))] ++ sg_St cI cZ a (sg_g_reserveAnew P) q1) t.heap ∧ va_D (va_A ([(g, .inr (8, [.ref (a 0), .ref (b 0), .ref (pa 0)]))] ++ sg_St cI cZ a P q) sz) ([(g, .inr (8, [.ref (a 0), .ref (b 0), .ref (pa 0)]))] ++ sg_St cI cZ a (sg_g_reserveAnew P) q1)) (va_A ([(g, .inr (8, [.ref (a 0), .ref (b 0), .ref (pa 0)]))] ++ sg_St cI cZ a P q) sz)) 0 0 (va_A ([(g, .inr (8, [.ref (a 0), .ref (b 0), .ref (pa 0)]))] ++ sg_St cI cZ a P q) sz) := by
  refine Met.ofW (cc := cX8_reserveAnew) (maxL := 2) (ret := (some .int)) (by decide) rfl ?_
  intro p e s m args below meth c s₁ B hml hv
  obtain ⟨rfl, hsz, hP, hD0, hC⟩ := hv
  have hx := B.exec
  have hb := B.bytes
  have hr := B.returns
  have hts := atoms_spec (ws := wsX8_reserveAnew) B.pre
  have hown : s.vm.findClass RX8 = some m.cls := findClass_of_methodNamed B.named
  have hlocks := B.notSynchronized
  subst hsz
  have hn1 : sg_cn P 1 ≤ 6 := hw.n1
  have hn2 : sg_cn P 2 ≤ 5 := hw.n2
  have hn3 : sg_cn P 3 ≤ 200 := hw.n3
  have hn4 : sg_cn P 4 ≤ 60 := hw.n4
  have hn5 : sg_cn P 5 ≤ 90 := hw.n5
  have hK := hC.K
  have hD := hD0.self (sz := s.heap.size)
  have hAlo0 := va_A_lo hD0 hC.1
  generalize hAe : va_A ([(g, .inr (8, [.ref (a 0), .ref (b 0), .ref (pa 0)]))] ++ sg_St cI cZ a P q) s.heap.size = A at hD hAlo0 ⊢
  have hA : ∀ q : Nat, s.heap.size ≤ q → A q := fun q h => by rw [← hAe]; exact Or.inr h
  have hAlo : ∀ q, A q → lo ≤ q := hAlo0
  have hS : va_S A s.heap s.heap [] := va_S.rf
  have hP : va_P D vwCl ([(g, .inr (8, [.ref (a 0), .ref (b 0), .ref (pa 0)]))] ++ sg_St cI cZ a P q) s.heap := hP
  have hl := lv_entry ([.ref g]) (n := 2) (Nat.le_of_ble_eq_true rfl)
  rw [lg_entry_eq]
  generalize (lg_sl ([.ref g]) ++ List.replicate (2 - (lg_sl ([.ref g])).length) Slot.unset).toArray = ls at hl ⊢
  have hl : lv_has ls 2 [(0, .ref g)] := hl
  have in2 : ∀ w ∈ u_ws RX2 TX2 11, w ∈ wsX8_reserveAnew := by decide +kernel
  have in6 : ∀ w ∈ u_ws RX6 TX6 9, w ∈ wsX8_reserveAnew := by decide +kernel
  have in8 : ∀ w ∈ u_ws RX8 TX8 3, w ∈ wsX8_reserveAnew := by decide +kernel
  refine lv_iconst (v := 0) hx hb dX8_reserveAnew_0 (by decide) ?_
  refine lv_istore_n (lv' := [(1, .int 0), (0, .ref g)]) hx hb dX8_reserveAnew_1 rfl hl (by decide) rfl (fun ls hl => ?_)
  obtain ⟨H, hH9⟩ : ∃ z : Heap, z = s.heap := ⟨_, rfl⟩
  replace hS : va_S A s.heap H [] := by rw [hH9]; exact va_S.rf
  replace hP : va_P D vwCl ([(g, .inr (8, [.ref (a 0), .ref (b 0), .ref (pa 0)]))] ++ sg_St cI cZ a P q) H := by rw [hH9]; exact hP
  rw [← hH9]
  clear hH9
  generalize ([] : List Loc) = locs at hS ⊢
  obtain ⟨j2, h0j2⟩ : ∃ j : Nat, j = 0 := ⟨_, rfl⟩
  obtain ⟨P2, hP2⟩ : ∃ z9 : sg_Pic, z9 = sg_g_reserveAnew_2 P j2 := ⟨_, rfl⟩
  replace hl : lv_has ls 2 [(1, .int (nI j2)), (0, .ref g)] := by rw [h0j2]; exact hl
  replace hP : va_P D vwCl ([(g, .inr (8, [.ref (a 0), .ref (b 0), .ref (pa 0)]))] ++ sg_St cI cZ a P2 q) H := by rw [hP2, h0j2]; exact hP
  replace hD : va_D A ([(g, .inr (8, [.ref (a 0), .ref (b 0), .ref (pa 0)]))] ++ sg_St cI cZ a P2 q) := by rw [hP2, h0j2]; exact hD
  have hjj2 : j2 ≤ sg_cn P 4 := by omega
  clear h0j2
  obtain ⟨n2, hn2⟩ : ∃ n : Nat, sg_cn P 4 < j2 + n := ⟨sg_cn P 4 + 1, by omega⟩
  revert hP
  revert hD
  revert hS
  revert hl
  revert hn2
  revert hjj2
  revert hP2
  revert ls
  revert locs
  revert H
  revert P2
  revert j2
  induction n2 with
  | zero =>
    intro j2 P2 H locs ls hP2 hjj2 hn2 hl hS hD hP
    exact absurd hn2 (by omega)
  | succ n2 ih2 =>
    intro j2 P2 H locs ls hP2 hjj2 hn2 hl hS hD hP
    refine lv_iload_n hx hb dX8_reserveAnew_2 rfl (lv_at hl 0 rfl) ?_
    refine lv_aload_n hx hb dX8_reserveAnew_3 rfl (lv_at hl 1 rfl) ?_
    refine va_get (D := D) (ci := 8) (v := .ref (a 0)) (C := RX8) (T := TX8) (N := 3) hx hb hts in8 hown hK hP 0 rfl rfl 0 (by decide) (hts (.fieldLink RX8 10 "Granary" "now" "LGranary$Stock;") (by decide +kernel)) (fun _ h9 => h9) rfl dX8_reserveAnew_4 ?_
    refine va_get (D := D) (ci := 6) (v := .ref (a 5)) (C := RX6) (T := TX6) (N := 9) hx hb hts in6 hown hK hP 1 rfl rfl 5 (by decide) (hts (.fieldLink RX8 131 "Granary$Stock" "orders" "LGranary$Orders;") (by decide +kernel)) (fun _ h9 => h9) rfl dX8_reserveAnew_7 ?_
    refine va_get (D := D) (ci := 2) (v := .int (P2 0 4)) (C := RX2) (T := TX2) (N := 11) hx hb hts in2 hown hK hP 6 rfl rfl 0 (by decide) (hts (.fieldLink RX8 135 "Granary$Orders" "count" "I") (by decide +kernel)) (fun _ h9 => h9) rfl dX8_reserveAnew_10 ?_
    have hkP2 : sg_K P2 P := by rw [hP2]; exact sg_g_reserveAnew_2_K P j2
    have hB2 : ((P2 0 4) : Int32) = nI (sg_cn P 4) := ((hkP2.e 4).trans hw.e4)
    refine lv_icmp_ge (tgt := 30) hx hb dX8_reserveAnew_13 (by decide) (fun c_1 => ?_) (fun c_1 => ?_)
    · have hE2 : sg_cn P 4 = j2 := (sg_eq hB2 c_1 hjj2 (by omega)).symm
      clear ih2 hn2
      subst hE2
      subst hP2
      refine lv_aload_n hx hb dX8_reserveAnew_30 rfl (lv_at hl 1 rfl) ?_
      refine va_get (D := D) (ci := 8) (v := .ref (a 0)) (C := RX8) (T := TX8) (N := 3) hx hb hts in8 hown hK hP 0 rfl rfl 0 (by decide) (hts (.fieldLink RX8 10 "Granary" "now" "LGranary$Stock;") (by decide +kernel)) (fun _ h9 => h9) rfl dX8_reserveAnew_31 ?_
      have hPc := hP.sub (ws' := (sg_St cI cZ a (sg_g_reserveAnew_2 P (sg_cn P 4)) q)) [1, 2, 3, 4, 5, 6, 7, 8, 9, 10, 11, 12, 13, 14, 15, 16, 17, 18, 19, 20, 21, 22, 23, 24, 25, 26, 27, 28, 29, 30, 31, 32, 33, 34, 35, 36, 37, 38, 39, 40, 41] rfl
      have hDc := hD.sub (ws' := (sg_St cI cZ a (sg_g_reserveAnew_2 P (sg_cn P 4)) q)) [1, 2, 3, 4, 5, 6, 7, 8, 9, 10, 11, 12, 13, 14, 15, 16, 17, 18, 19, 20, 21, 22, 23, 24, 25, 26, 27, 28, 29, 30, 31, 32, 33, 34, 35, 36, 37, 38, 39, 40, 41] (by decide) rfl
      have hFc := va_free (wc := (sg_St cI cZ a (sg_g_reserveAnew_2 P (sg_cn P 4)) q)) hD hS hA [1, 2, 3, 4, 5, 6, 7, 8, 9, 10, 11, 12, 13, 14, 15, 16, 17, 18, 19, 20, 21, 22, 23, 24, 25, 26, 27, 28, 29, 30, 31, 32, 33, 34, 35, 36, 37, 38, 39, 40, 41] rfl
      refine va_callv (va_runV (As := []) (rest := []) ⟨hx, hb, hml, hown, hts⟩ (c_reserveForAll l D cI cZ cJ lo H.size a (sg_g_reserveAnew_2 P (sg_cn P 4)) q (hkP2.W hw)) (cwV 0 hts gX8_reserveAnew_X6_reserveForAll rfl rfl rfl (by decide +kernel) ⟨(Nat.le_of_ble_eq_true rfl), (Nat.le_of_ble_eq_true rfl)⟩) ⟨Pre.blind, va_recv hK hP (ci := 6) (q0 := 1) rfl rfl, Pre.mk hPc (hDc.weaken (fun _ _ _ h => hAlo _ h)) hC hS hAlo⟩ rfl rfl hl.1 rfl (lv_room (Nat.le_of_ble_eq_true rfl)) dX8_reserveAnew_34 ⟨(Nat.le_of_ble_eq_true rfl), (Nat.le_of_ble_eq_true rfl)⟩) hS (fun q _ h => hFc q h) hFc (fun u t H1 locs1 ht hvm e_2 hB hz1 hk1 hS1 => ?_)
      have hS := hS1
      obtain ⟨q1_3, hP1, hD1⟩ := hB
      rw [ht] at hP1
      obtain ⟨hP, hD⟩ := va_join (wr := [(g, .inr (8, [.ref (a 0), .ref (b 0), .ref (pa 0)]))]) (w1 := (sg_St cI cZ a (sg_reserveForAll (sg_g_reserveAnew_2 P (sg_cn P 4))) q1_3)) hP hD [1, 2, 3, 4, 5, 6, 7, 8, 9, 10, 11, 12, 13, 14, 15, 16, 17, 18, 19, 20, 21, 22, 23, 24, 25, 26, 27, 28, 29, 30, 31, 32, 33, 34, 35, 36, 37, 38, 39, 40, 41] [0] rfl rfl (by decide) (by decide) hk1 hFc hP1 hD1
      have e_2 : True := e_2
      clear hFc hPc hDc ht hvm hz1 hk1 hS1 hP1 hD1
      generalize H1 = H at hP hS ⊢
      replace hP : va_P D vwCl ([(g, .inr (8, [.ref (a 0), .ref (b 0), .ref (pa 0)]))] ++ sg_St cI cZ a (sg_reserveForAll (sg_g_reserveAnew_2 P (sg_cn P 4))) q1_3) H := hP
      replace hD : va_D A ([(g, .inr (8, [.ref (a 0), .ref (b 0), .ref (pa 0)]))] ++ sg_St cI cZ a (sg_reserveForAll (sg_g_reserveAnew_2 P (sg_cn P 4))) q1_3) := hD
      refine lv_aload_n hx hb dX8_reserveAnew_37 rfl (lv_at hl 1 rfl) ?_
      refine va_get (D := D) (ci := 8) (v := .ref (a 0)) (C := RX8) (T := TX8) (N := 3) hx hb hts in8 hown hK hP 0 rfl rfl 0 (by decide) (hts (.fieldLink RX8 10 "Granary" "now" "LGranary$Stock;") (by decide +kernel)) (fun _ h9 => h9) rfl dX8_reserveAnew_38 ?_
      refine va_get (D := D) (ci := 6) (v := .ref (a 5)) (C := RX6) (T := TX6) (N := 9) hx hb hts in6 hown hK hP 1 rfl rfl 5 (by decide) (hts (.fieldLink RX8 131 "Granary$Stock" "orders" "LGranary$Orders;") (by decide +kernel)) (fun _ h9 => h9) rfl dX8_reserveAnew_41 ?_
      have hPc := hP.sub (ws' := [(a 5, .inr (2, [.int ((sg_reserveForAll (sg_g_reserveAnew_2 P (sg_cn P 4))) 0 4), .ref (a 50), .ref (a 51), .ref (a 52), .ref (a 53), .ref (a 54), .ref (a 55), .ref (a 56), .ref (a 57), .ref (a 58), .ref (a 59)])), (a 50, .inl (cI, 60, .inl ((sg_reserveForAll (sg_g_reserveAnew_2 P (sg_cn P 4))) 50))), (a 51, .inl (cI, 60, .inl ((sg_reserveForAll (sg_g_reserveAnew_2 P (sg_cn P 4))) 51))), (a 52, .inl (cI, 60, .inl ((sg_reserveForAll (sg_g_reserveAnew_2 P (sg_cn P 4))) 52))), (a 53, .inl (cI, 60, .inl ((sg_reserveForAll (sg_g_reserveAnew_2 P (sg_cn P 4))) 53))), (a 54, .inl (cI, 60, .inl ((sg_reserveForAll (sg_g_reserveAnew_2 P (sg_cn P 4))) 54))), (a 55, .inl (cI, 60, .inl ((sg_reserveForAll (sg_g_reserveAnew_2 P (sg_cn P 4))) 55))), (a 56, .inl (cI, 60, .inl ((sg_reserveForAll (sg_g_reserveAnew_2 P (sg_cn P 4))) 56))), (a 57, .inl (cI, 60, .inl ((sg_reserveForAll (sg_g_reserveAnew_2 P (sg_cn P 4))) 57))), (a 58, .inl (cI, 60, .inl ((sg_reserveForAll (sg_g_reserveAnew_2 P (sg_cn P 4))) 58))), (a 59, .inl (cI, 12000, .inl ((sg_reserveForAll (sg_g_reserveAnew_2 P (sg_cn P 4))) 59)))]) [6, 24, 25, 26, 27, 28, 29, 30, 31, 32, 33] rfl
      have hDc := hD.sub (ws' := [(a 5, .inr (2, [.int ((sg_reserveForAll (sg_g_reserveAnew_2 P (sg_cn P 4))) 0 4), .ref (a 50), .ref (a 51), .ref (a 52), .ref (a 53), .ref (a 54), .ref (a 55), .ref (a 56), .ref (a 57), .ref (a 58), .ref (a 59)])), (a 50, .inl (cI, 60, .inl ((sg_reserveForAll (sg_g_reserveAnew_2 P (sg_cn P 4))) 50))), (a 51, .inl (cI, 60, .inl ((sg_reserveForAll (sg_g_reserveAnew_2 P (sg_cn P 4))) 51))), (a 52, .inl (cI, 60, .inl ((sg_reserveForAll (sg_g_reserveAnew_2 P (sg_cn P 4))) 52))), (a 53, .inl (cI, 60, .inl ((sg_reserveForAll (sg_g_reserveAnew_2 P (sg_cn P 4))) 53))), (a 54, .inl (cI, 60, .inl ((sg_reserveForAll (sg_g_reserveAnew_2 P (sg_cn P 4))) 54))), (a 55, .inl (cI, 60, .inl ((sg_reserveForAll (sg_g_reserveAnew_2 P (sg_cn P 4))) 55))), (a 56, .inl (cI, 60, .inl ((sg_reserveForAll (sg_g_reserveAnew_2 P (sg_cn P 4))) 56))), (a 57, .inl (cI, 60, .inl ((sg_reserveForAll (sg_g_reserveAnew_2 P (sg_cn P 4))) 57))), (a 58, .inl (cI, 60, .inl ((sg_reserveForAll (sg_g_reserveAnew_2 P (sg_cn P 4))) 58))), (a 59, .inl (cI, 12000, .inl ((sg_reserveForAll (sg_g_reserveAnew_2 P (sg_cn P 4))) 59)))]) [6, 24, 25, 26, 27, 28, 29, 30, 31, 32, 33] (by decide) rfl
      refine vp_callSi (W.runV (As := []) (rest := []) ⟨hx, hb, hml, hown, hts⟩ (c_allReserved l D cI cZ cJ lo H.size a (sg_reserveForAll (sg_g_reserveAnew_2 P (sg_cn P 4))) (sg_reserveForAll_W (hkP2.W hw))) (cwV 0 hts gX8_reserveAnew_X2_allReserved rfl rfl rfl (by decide +kernel) ⟨(Nat.le_of_ble_eq_true rfl), (Nat.le_of_ble_eq_true rfl)⟩) ⟨Pre.blind, va_recv hK hP (ci := 2) (q0 := 6) rfl rfl, Pre.mk hPc (hDc.weaken (fun _ _ _ h => hAlo _ h)) hC hS hAlo⟩ rfl rfl hl.1 rfl (lv_room (Nat.le_of_ble_eq_true rfl)) dX8_reserveAnew_44 ⟨(Nat.le_of_ble_eq_true rfl), (Nat.le_of_ble_eq_true rfl)⟩) (fun r_4 e_5 => ?_)
      clear hPc hDc
      have e_5 : sg_allReserved (sg_reserveForAll (sg_g_reserveAnew_2 P (sg_cn P 4))) = r_4 := Eq.symm e_5
      subst e_5
      refine W.widen (k := 0) (n := 0) (by omega) (by omega) ?_
      have hP9 : va_P D vwCl ([(g, .inr (8, [.ref (a 0), .ref (b 0), .ref (pa 0)]))] ++ sg_St cI cZ a (sg_g_reserveAnew P) q1_3) H := by exact hP
      have hD9 : va_D A ([(g, .inr (8, [.ref (a 0), .ref (b 0), .ref (pa 0)]))] ++ sg_St cI cZ a (sg_g_reserveAnew P) q1_3) := by exact hD
      exact W.iret (v := (sg_allReserved (sg_reserveForAll (sg_g_reserveAnew_2 P (sg_cn P 4))))) hx hb hr (fun t ht hW => ⟨⟨(sg_allReserved (sg_reserveForAll (sg_g_reserveAnew_2 P (sg_cn P 4)))), (), rfl, rfl, q1_3, by rw [ht]; exact hP9, hD9⟩, hS.F ht⟩) hS.2.2 dX8_reserveAnew_47
    · have hL2 : j2 < sg_cn P 4 := sg_lt hB2 c_1 (by omega)
      refine lv_aload_n hx hb dX8_reserveAnew_16 rfl (lv_at hl 1 rfl) ?_
      refine va_get (D := D) (ci := 8) (v := .ref (a 0)) (C := RX8) (T := TX8) (N := 3) hx hb hts in8 hown hK hP 0 rfl rfl 0 (by decide) (hts (.fieldLink RX8 10 "Granary" "now" "LGranary$Stock;") (by decide +kernel)) (fun _ h9 => h9) rfl dX8_reserveAnew_17 ?_
      refine lv_iload_n hx hb dX8_reserveAnew_20 rfl (lv_at hl 0 rfl) ?_
      have hPc := hP.sub (ws' := (sg_St cI cZ a P2 q)) [1, 2, 3, 4, 5, 6, 7, 8, 9, 10, 11, 12, 13, 14, 15, 16, 17, 18, 19, 20, 21, 22, 23, 24, 25, 26, 27, 28, 29, 30, 31, 32, 33, 34, 35, 36, 37, 38, 39, 40, 41] rfl
      have hDc := hD.sub (ws' := (sg_St cI cZ a P2 q)) [1, 2, 3, 4, 5, 6, 7, 8, 9, 10, 11, 12, 13, 14, 15, 16, 17, 18, 19, 20, 21, 22, 23, 24, 25, 26, 27, 28, 29, 30, 31, 32, 33, 34, 35, 36, 37, 38, 39, 40, 41] (by decide) rfl
      have hFc := va_free (wc := (sg_St cI cZ a P2 q)) hD hS hA [1, 2, 3, 4, 5, 6, 7, 8, 9, 10, 11, 12, 13, 14, 15, 16, 17, 18, 19, 20, 21, 22, 23, 24, 25, 26, 27, 28, 29, 30, 31, 32, 33, 34, 35, 36, 37, 38, 39, 40, 41] rfl
      refine va_callv (va_runV (As := [.int (nI j2)]) (rest := []) ⟨hx, hb, hml, hown, hts⟩ (c_release l D cI cZ cJ lo H.size a P2 q j2 (hkP2.W hw) (by omega)) (cwV 1 hts gX8_reserveAnew_X6_release rfl rfl rfl (by decide +kernel) ⟨(Nat.le_of_ble_eq_true rfl), (Nat.le_of_ble_eq_true rfl)⟩) ⟨Pre.blind, va_recv hK hP (ci := 6) (q0 := 1) rfl rfl, Pre.mk hPc (hDc.weaken (fun _ _ _ h => hAlo _ h)) hC hS hAlo⟩ rfl rfl hl.1 rfl (lv_room (Nat.le_of_ble_eq_true rfl)) dX8_reserveAnew_21 ⟨(Nat.le_of_ble_eq_true rfl), (Nat.le_of_ble_eq_true rfl)⟩) hS (fun q _ h => hFc q h) hFc (fun u t H1 locs1 ht hvm e_6 hB hz1 hk1 hS1 => ?_)
      have hS := hS1
      obtain ⟨hP1, hD1⟩ := hB
      rw [ht] at hP1
      obtain ⟨hP, hD⟩ := va_join (wr := [(g, .inr (8, [.ref (a 0), .ref (b 0), .ref (pa 0)]))]) (w1 := (sg_St cI cZ a (sg_release P2 j2) q)) hP hD [1, 2, 3, 4, 5, 6, 7, 8, 9, 10, 11, 12, 13, 14, 15, 16, 17, 18, 19, 20, 21, 22, 23, 24, 25, 26, 27, 28, 29, 30, 31, 32, 33, 34, 35, 36, 37, 38, 39, 40, 41] [0] rfl rfl (by decide) (by decide) hk1 hFc hP1 hD1
      have e_6 : True := e_6
      clear hFc hPc hDc ht hvm hz1 hk1 hS1 hP1 hD1
      generalize H1 = H at hP hS ⊢
      replace hP : va_P D vwCl ([(g, .inr (8, [.ref (a 0), .ref (b 0), .ref (pa 0)]))] ++ sg_St cI cZ a (sg_release P2 j2) q) H := hP
      replace hD : va_D A ([(g, .inr (8, [.ref (a 0), .ref (b 0), .ref (pa 0)]))] ++ sg_St cI cZ a (sg_release P2 j2) q) := hD
      refine lv_iinc (v := nI (j2 + 1)) (lv' := [(1, .int (nI (j2 + 1))), (0, .ref g)]) hx hb dX8_reserveAnew_24 hl (k := 0) rfl (nI_1 j2) (by decide) rfl (fun ls hl => ?_)
      refine lv_goto (tgt := 2) hx hb dX8_reserveAnew_27 (by decide) ?_
      have hl8 := hl; have hS8 := hS; have hD8 := hD; have hP8 := hP
      subst hP2
      exact ih2 (j2 + 1) (sg_release (sg_g_reserveAnew_2 P j2) j2) _ _ _ rfl (by omega) (by omega) (lv_sub hl8 [0, 1] rfl) hS8 hD8 hP8

def sg_g_pass_r (P : sg_Pic) (dn : Nat) : Int32 := ((sg_liveDays P dn) 0 0)

def sg_g_pass (P : sg_Pic) (dn : Nat) : sg_Pic := (sg_liveDays P dn)

set_option maxHeartbeats 4000000 in
set_option maxRecDepth 100000 in
/-- X8_pass -/
theorem c_g_pass (l : Launch) (D : va_G) (cI cZ cJ : ClassId) (lo sz : Nat) (g : Nat) (pa : Nat → Nat) (b : Nat → Nat) (a : Nat → Nat) (P : sg_Pic) (q : Nat → Int32) (dn : Nat) (hw : sg_W P) (hd1 : 1 ≤ dn) (hdn : dn ≤ 30) : Met l yX8_pass wsX8_pass ({ frames := 6, cells := 0, slots := 0, locals := 145 }) (Pre lo D cI cZ cJ [.ref g, .int (nI dn)] sz ([(g, .inr (8, [.ref (a 0), .ref (b 0), .ref (pa 0)]))] ++ sg_St cI cZ a P q)) (va_Qi (fun (r : Int32) (_ : Unit) => r = sg_g_pass_r P dn) (fun _ t => ∃ (q1 : Nat → Int32), va_P D vwCl ([(g, .inr (8, [.ref (a 0), .ref (b 0), .ref (pa 0)]))] ++ sg_St cI cZ a (sg_g_pass P dn) q1) t.heap ∧ va_D (va_A ([(g, .inr (8, [.ref (a 0), .ref (b 0), .ref (pa 0)]))] ++ sg_St cI cZ a P q) sz) ([(g, .inr (8, [.ref (a 0), .ref (b 0), .ref (pa 0)]))] ++ sg_St cI cZ a (sg_g_pass P dn) q1)) (va_A ([(g, .inr (8, [.ref (a 0), .ref (b 0), .ref (pa 0)]))] ++ sg_St cI cZ a P q) sz)) 0 0 (va_A ([(g, .inr (8, [.ref (a 0), .ref (b 0), .ref (pa 0)]))] ++ sg_St cI cZ a P q) sz) := by
  refine Met.ofW (cc := cX8_pass) (maxL := 2) (ret := (some .int)) (by decide) rfl ?_
  intro p e s m args below meth c s₁ B hml hv
  obtain ⟨rfl, hsz, hP, hD0, hC⟩ := hv
  have hx := B.exec
  have hb := B.bytes
  have hr := B.returns
  have hts := atoms_spec (ws := wsX8_pass) B.pre
  have hown : s.vm.findClass RX8 = some m.cls := findClass_of_methodNamed B.named
  have hlocks := B.notSynchronized
  subst hsz
  have hn1 : sg_cn P 1 ≤ 6 := hw.n1
  have hn2 : sg_cn P 2 ≤ 5 := hw.n2
  have hn3 : sg_cn P 3 ≤ 200 := hw.n3
  have hn4 : sg_cn P 4 ≤ 60 := hw.n4
  have hn5 : sg_cn P 5 ≤ 90 := hw.n5
  have hK := hC.K
  have hD := hD0.self (sz := s.heap.size)
  have hAlo0 := va_A_lo hD0 hC.1
  generalize hAe : va_A ([(g, .inr (8, [.ref (a 0), .ref (b 0), .ref (pa 0)]))] ++ sg_St cI cZ a P q) s.heap.size = A at hD hAlo0 ⊢
  have hA : ∀ q : Nat, s.heap.size ≤ q → A q := fun q h => by rw [← hAe]; exact Or.inr h
  have hAlo : ∀ q, A q → lo ≤ q := hAlo0
  have hS : va_S A s.heap s.heap [] := va_S.rf
  have hP : va_P D vwCl ([(g, .inr (8, [.ref (a 0), .ref (b 0), .ref (pa 0)]))] ++ sg_St cI cZ a P q) s.heap := hP
  have hl := lv_entry ([.ref g, .int (nI dn)]) (n := 2) (Nat.le_of_ble_eq_true rfl)
  rw [lg_entry_eq]
  generalize (lg_sl ([.ref g, .int (nI dn)]) ++ List.replicate (2 - (lg_sl ([.ref g, .int (nI dn)])).length) Slot.unset).toArray = ls at hl ⊢
  have hl : lv_has ls 2 [(0, .ref g), (1, .int (nI dn))] := hl
  have in6 : ∀ w ∈ u_ws RX6 TX6 9, w ∈ wsX8_pass := by decide +kernel
  have in8 : ∀ w ∈ u_ws RX8 TX8 3, w ∈ wsX8_pass := by decide +kernel
  refine lv_iload_n hx hb dX8_pass_0 rfl (lv_at hl 1 rfl) ?_
  refine lv_iconst (v := 1) hx hb dX8_pass_1 (by decide) ?_
  refine lv_bipush (v := 30) hx hb dX8_pass_2 (by decide) ?_
  have hPc := hP.sub (ws' := []) [] rfl
  have hDc := hD.sub (ws' := []) [] (by decide) rfl
  refine va_csv (W.runS (As := [.int (nI dn), .int 1, .int 30]) (rest := []) ⟨hx, hb, hml, hown, hts⟩ (c_needWithin l D cI cZ cJ lo s.heap.size (nI dn) 1 30 (nI_le hd1 (by omega)) (sg_leN (M := 30) (by omega))) (va_cwS 3 hts gX8_pass_X8_needWithin rfl rfl rfl (by decide +kernel) ⟨(Nat.le_of_ble_eq_true rfl), (Nat.le_of_ble_eq_true rfl)⟩) ⟨Pre.blind, Pre.mk hPc (hDc.weaken (fun _ _ _ h => hAlo _ h)) hC hS hAlo⟩ rfl rfl hl.1 rfl (lv_room (Nat.le_of_ble_eq_true rfl)) dX8_pass_4 ⟨(Nat.le_of_ble_eq_true rfl), (Nat.le_of_ble_eq_true rfl)⟩) (fun e_1 => ?_)
  clear hPc hDc
  refine lv_aload_n hx hb dX8_pass_7 rfl (lv_at hl 0 rfl) ?_
  refine va_get (D := D) (ci := 8) (v := .ref (a 0)) (C := RX8) (T := TX8) (N := 3) hx hb hts in8 hown hK hP 0 rfl rfl 0 (by decide) (hts (.fieldLink RX8 10 "Granary" "now" "LGranary$Stock;") (by decide +kernel)) (fun _ h9 => h9) rfl dX8_pass_8 ?_
  refine lv_iload_n hx hb dX8_pass_11 rfl (lv_at hl 1 rfl) ?_
  have hPc := hP.sub (ws' := (sg_St cI cZ a P q)) [1, 2, 3, 4, 5, 6, 7, 8, 9, 10, 11, 12, 13, 14, 15, 16, 17, 18, 19, 20, 21, 22, 23, 24, 25, 26, 27, 28, 29, 30, 31, 32, 33, 34, 35, 36, 37, 38, 39, 40, 41] rfl
  have hDc := hD.sub (ws' := (sg_St cI cZ a P q)) [1, 2, 3, 4, 5, 6, 7, 8, 9, 10, 11, 12, 13, 14, 15, 16, 17, 18, 19, 20, 21, 22, 23, 24, 25, 26, 27, 28, 29, 30, 31, 32, 33, 34, 35, 36, 37, 38, 39, 40, 41] (by decide) rfl
  have hFc := va_free (wc := (sg_St cI cZ a P q)) hD hS hA [1, 2, 3, 4, 5, 6, 7, 8, 9, 10, 11, 12, 13, 14, 15, 16, 17, 18, 19, 20, 21, 22, 23, 24, 25, 26, 27, 28, 29, 30, 31, 32, 33, 34, 35, 36, 37, 38, 39, 40, 41] rfl
  refine va_callv (va_runV (As := [.int (nI dn)]) (rest := []) ⟨hx, hb, hml, hown, hts⟩ (c_liveDays l D cI cZ cJ lo s.heap.size a P q dn hw (by omega)) (cwV 1 hts gX8_pass_X6_liveDays rfl rfl rfl (by decide +kernel) ⟨(Nat.le_of_ble_eq_true rfl), (Nat.le_of_ble_eq_true rfl)⟩) ⟨Pre.blind, va_recv hK hP (ci := 6) (q0 := 1) rfl rfl, Pre.mk hPc (hDc.weaken (fun _ _ _ h => hAlo _ h)) hC hS hAlo⟩ rfl rfl hl.1 rfl (lv_room (Nat.le_of_ble_eq_true rfl)) dX8_pass_12 ⟨(Nat.le_of_ble_eq_true rfl), (Nat.le_of_ble_eq_true rfl)⟩) hS (fun q _ h => hFc q h) hFc (fun u t H1 locs1 ht hvm e_2 hB hz1 hk1 hS1 => ?_)
  have hS := hS1
  obtain ⟨q1_3, hP1, hD1⟩ := hB
  rw [ht] at hP1
  obtain ⟨hP, hD⟩ := va_join (wr := [(g, .inr (8, [.ref (a 0), .ref (b 0), .ref (pa 0)]))]) (w1 := (sg_St cI cZ a (sg_liveDays P dn) q1_3)) hP hD [1, 2, 3, 4, 5, 6, 7, 8, 9, 10, 11, 12, 13, 14, 15, 16, 17, 18, 19, 20, 21, 22, 23, 24, 25, 26, 27, 28, 29, 30, 31, 32, 33, 34, 35, 36, 37, 38, 39, 40, 41] [0] rfl rfl (by decide) (by decide) hk1 hFc hP1 hD1
  have e_2 : True := e_2
  clear hFc hPc hDc ht hvm hz1 hk1 hS1 hP1 hD1
  generalize H1 = H at hP hS ⊢
  replace hP : va_P D vwCl ([(g, .inr (8, [.ref (a 0), .ref (b 0), .ref (pa 0)]))] ++ sg_St cI cZ a (sg_liveDays P dn) q1_3) H := hP
  replace hD : va_D A ([(g, .inr (8, [.ref (a 0), .ref (b 0), .ref (pa 0)]))] ++ sg_St cI cZ a (sg_liveDays P dn) q1_3) := hD
  refine lv_aload_n hx hb dX8_pass_15 rfl (lv_at hl 0 rfl) ?_
  refine va_get (D := D) (ci := 8) (v := .ref (a 0)) (C := RX8) (T := TX8) (N := 3) hx hb hts in8 hown hK hP 0 rfl rfl 0 (by decide) (hts (.fieldLink RX8 10 "Granary" "now" "LGranary$Stock;") (by decide +kernel)) (fun _ h9 => h9) rfl dX8_pass_16 ?_
  refine va_get (D := D) (ci := 6) (v := .int ((sg_liveDays P dn) 0 0)) (C := RX6) (T := TX6) (N := 9) hx hb hts in6 hown hK hP 1 rfl rfl 0 (by decide) (hts (.fieldLink RX8 125 "Granary$Stock" "day" "I") (by decide +kernel)) (fun _ h9 => h9) rfl dX8_pass_19 ?_
  refine W.widen (k := 0) (n := 0) (by omega) (by omega) ?_
  have hP9 : va_P D vwCl ([(g, .inr (8, [.ref (a 0), .ref (b 0), .ref (pa 0)]))] ++ sg_St cI cZ a (sg_g_pass P dn) q1_3) H := by exact hP
  have hD9 : va_D A ([(g, .inr (8, [.ref (a 0), .ref (b 0), .ref (pa 0)]))] ++ sg_St cI cZ a (sg_g_pass P dn) q1_3) := by exact hD
  exact W.iret (v := ((sg_liveDays P dn) 0 0)) hx hb hr (fun t ht hW => ⟨⟨((sg_liveDays P dn) 0 0), (), rfl, rfl, q1_3, by rw [ht]; exact hP9, hD9⟩, hS.F ht⟩) hS.2.2 dX8_pass_22

def sg_g_send_r (P : sg_Pic) (xi : Nat) (xs : Nat) (xt : Nat) (x : Int32) : Int32 := (sg_sendUnits_r P (nI xi) (nI xs) (nI xt) x)

def sg_g_send (P : sg_Pic) (xi : Nat) (xs : Nat) (xt : Nat) (x : Int32) : sg_Pic := (sg_sendUnits P (nI xi) (nI xs) (nI xt) x)

set_option maxHeartbeats 4000000 in
set_option maxRecDepth 100000 in
/-- X8_send -/
theorem c_g_send (l : Launch) (D : va_G) (cI cZ cJ : ClassId) (lo sz : Nat) (g : Nat) (pa : Nat → Nat) (b : Nat → Nat) (a : Nat → Nat) (P : sg_Pic) (q : Nat → Int32) (xi : Nat) (xs : Nat) (xt : Nat) (x : Int32) (hw : sg_W P) (hi : xi < sg_cn P 1) (hs : xs < sg_cn P 2) (ht : xt < sg_cn P 2) (hd : ¬ (sg_daysBetween P (nI xs) (nI xt) ≤ 0)) (h1 : (1 : Int32) ≤ x) (h2 : x ≤ 999) : Met l yX8_send wsX8_send ({ frames := 3, cells := 0, slots := 0, locals := 76 }) (Pre lo D cI cZ cJ [.ref g, .int (nI xi), .int (nI xs), .int (nI xt), .int x] sz ([(g, .inr (8, [.ref (a 0), .ref (b 0), .ref (pa 0)]))] ++ sg_St cI cZ a P q)) (va_Qi (fun (r : Int32) (_ : Unit) => r = sg_g_send_r P xi xs xt x) (fun _ t => va_P D vwCl ([(g, .inr (8, [.ref (a 0), .ref (b 0), .ref (pa 0)]))] ++ sg_St cI cZ a (sg_g_send P xi xs xt x) q) t.heap ∧ va_D (va_A ([(g, .inr (8, [.ref (a 0), .ref (b 0), .ref (pa 0)]))] ++ sg_St cI cZ a P q) sz) ([(g, .inr (8, [.ref (a 0), .ref (b 0), .ref (pa 0)]))] ++ sg_St cI cZ a (sg_g_send P xi xs xt x) q)) (va_A ([(g, .inr (8, [.ref (a 0), .ref (b 0), .ref (pa 0)]))] ++ sg_St cI cZ a P q) sz)) 0 0 (va_A ([(g, .inr (8, [.ref (a 0), .ref (b 0), .ref (pa 0)]))] ++ sg_St cI cZ a P q) sz) := by
  refine Met.ofW (cc := cX8_send) (maxL := 5) (ret := (some .int)) (by decide) rfl ?_
  intro p e s m args below meth c s₁ B hml hv
  obtain ⟨rfl, hsz, hP, hD0, hC⟩ := hv
  have hx := B.exec
  have hb := B.bytes
  have hr := B.returns
  have hts := atoms_spec (ws := wsX8_send) B.pre
  have hown : s.vm.findClass RX8 = some m.cls := findClass_of_methodNamed B.named
  have hlocks := B.notSynchronized
  subst hsz
  have hn1 : sg_cn P 1 ≤ 6 := hw.n1
  have hn2 : sg_cn P 2 ≤ 5 := hw.n2
  have hn3 : sg_cn P 3 ≤ 200 := hw.n3
  have hn4 : sg_cn P 4 ≤ 60 := hw.n4
  have hn5 : sg_cn P 5 ≤ 90 := hw.n5
  have hK := hC.K
  have hD := hD0.self (sz := s.heap.size)
  have hAlo0 := va_A_lo hD0 hC.1
  generalize hAe : va_A ([(g, .inr (8, [.ref (a 0), .ref (b 0), .ref (pa 0)]))] ++ sg_St cI cZ a P q) s.heap.size = A at hD hAlo0 ⊢
  have hA : ∀ q : Nat, s.heap.size ≤ q → A q := fun q h => by rw [← hAe]; exact Or.inr h
  have hAlo : ∀ q, A q → lo ≤ q := hAlo0
  have hS : va_S A s.heap s.heap [] := va_S.rf
  have hP : va_P D vwCl ([(g, .inr (8, [.ref (a 0), .ref (b 0), .ref (pa 0)]))] ++ sg_St cI cZ a P q) s.heap := hP
  have hl := lv_entry ([.ref g, .int (nI xi), .int (nI xs), .int (nI xt), .int x]) (n := 5) (Nat.le_of_ble_eq_true rfl)
  rw [lg_entry_eq]
  generalize (lg_sl ([.ref g, .int (nI xi), .int (nI xs), .int (nI xt), .int x]) ++ List.replicate (5 - (lg_sl ([.ref g, .int (nI xi), .int (nI xs), .int (nI xt), .int x])).length) Slot.unset).toArray = ls at hl ⊢
  have hl : lv_has ls 5 [(0, .ref g), (1, .int (nI xi)), (2, .int (nI xs)), (3, .int (nI xt)), (4, .int x)] := hl
  have in6 : ∀ w ∈ u_ws RX6 TX6 9, w ∈ wsX8_send := by decide +kernel
  have in8 : ∀ w ∈ u_ws RX8 TX8 3, w ∈ wsX8_send := by decide +kernel
  refine lv_aload_n hx hb dX8_send_0 rfl (lv_at hl 0 rfl) ?_
  refine lv_iload_n hx hb dX8_send_1 rfl (lv_at hl 1 rfl) ?_
  have hPc := hP.sub (ws' := [(g, .inr (8, [.ref (a 0), .ref (b 0), .ref (pa 0)])), (a 0, .inr (6, [.int (P 0 0), .ref (a 1), .ref (a 2), .ref (a 3), .ref (a 4), .ref (a 5), .ref (a 6), .ref (a 70), .ref (a 71)])), (a 1, .inr (0, [.int (P 0 1), .ref (a 10), .ref (a 11), .ref (a 12), .ref (a 13)]))]) [0, 1, 2] rfl
  have hDc := hD.sub (ws' := [(g, .inr (8, [.ref (a 0), .ref (b 0), .ref (pa 0)])), (a 0, .inr (6, [.int (P 0 0), .ref (a 1), .ref (a 2), .ref (a 3), .ref (a 4), .ref (a 5), .ref (a 6), .ref (a 70), .ref (a 71)])), (a 1, .inr (0, [.int (P 0 1), .ref (a 10), .ref (a 11), .ref (a 12), .ref (a 13)]))]) [0, 1, 2] (by decide) rfl
  refine va_csv (W.runV (As := [.int (nI xi)]) (rest := []) ⟨hx, hb, hml, hown, hts⟩ (c_needItem l D cI cZ cJ lo s.heap.size g pa b a P xi hw (by omega)) (cwV 1 hts gX8_send_X8_needItem rfl rfl rfl (by decide +kernel) ⟨(Nat.le_of_ble_eq_true rfl), (Nat.le_of_ble_eq_true rfl)⟩) ⟨Pre.blind, va_recv hK hP (ci := 8) (q0 := 0) rfl rfl, Pre.mk hPc (hDc.weaken (fun _ _ _ h => hAlo _ h)) hC hS hAlo⟩ rfl rfl hl.1 rfl (lv_room (Nat.le_of_ble_eq_true rfl)) dX8_send_2 ⟨(Nat.le_of_ble_eq_true rfl), (Nat.le_of_ble_eq_true rfl)⟩) (fun e_1 => ?_)
  clear hPc hDc
  refine lv_aload_n hx hb dX8_send_5 rfl (lv_at hl 0 rfl) ?_
  refine lv_iload_n hx hb dX8_send_6 rfl (lv_at hl 2 rfl) ?_
  have hPc := hP.sub (ws' := [(g, .inr (8, [.ref (a 0), .ref (b 0), .ref (pa 0)])), (a 0, .inr (6, [.int (P 0 0), .ref (a 1), .ref (a 2), .ref (a 3), .ref (a 4), .ref (a 5), .ref (a 6), .ref (a 70), .ref (a 71)])), (a 2, .inr (5, [.int (P 0 2), .ref (a 20), .ref (a 21)]))]) [0, 1, 3] rfl
  have hDc := hD.sub (ws' := [(g, .inr (8, [.ref (a 0), .ref (b 0), .ref (pa 0)])), (a 0, .inr (6, [.int (P 0 0), .ref (a 1), .ref (a 2), .ref (a 3), .ref (a 4), .ref (a 5), .ref (a 6), .ref (a 70), .ref (a 71)])), (a 2, .inr (5, [.int (P 0 2), .ref (a 20), .ref (a 21)]))]) [0, 1, 3] (by decide) rfl
  refine va_csv (W.runV (As := [.int (nI xs)]) (rest := []) ⟨hx, hb, hml, hown, hts⟩ (c_needSite l D cI cZ cJ lo s.heap.size g pa b a P xs hw (by omega)) (cwV 1 hts gX8_send_X8_needSite rfl rfl rfl (by decide +kernel) ⟨(Nat.le_of_ble_eq_true rfl), (Nat.le_of_ble_eq_true rfl)⟩) ⟨Pre.blind, va_recv hK hP (ci := 8) (q0 := 0) rfl rfl, Pre.mk hPc (hDc.weaken (fun _ _ _ h => hAlo _ h)) hC hS hAlo⟩ rfl rfl hl.1 rfl (lv_room (Nat.le_of_ble_eq_true rfl)) dX8_send_7 ⟨(Nat.le_of_ble_eq_true rfl), (Nat.le_of_ble_eq_true rfl)⟩) (fun e_2 => ?_)
  clear hPc hDc
  refine lv_aload_n hx hb dX8_send_10 rfl (lv_at hl 0 rfl) ?_
  refine lv_iload_n hx hb dX8_send_11 rfl (lv_at hl 3 rfl) ?_
  have hPc := hP.sub (ws' := [(g, .inr (8, [.ref (a 0), .ref (b 0), .ref (pa 0)])), (a 0, .inr (6, [.int (P 0 0), .ref (a 1), .ref (a 2), .ref (a 3), .ref (a 4), .ref (a 5), .ref (a 6), .ref (a 70), .ref (a 71)])), (a 2, .inr (5, [.int (P 0 2), .ref (a 20), .ref (a 21)]))]) [0, 1, 3] rfl
  have hDc := hD.sub (ws' := [(g, .inr (8, [.ref (a 0), .ref (b 0), .ref (pa 0)])), (a 0, .inr (6, [.int (P 0 0), .ref (a 1), .ref (a 2), .ref (a 3), .ref (a 4), .ref (a 5), .ref (a 6), .ref (a 70), .ref (a 71)])), (a 2, .inr (5, [.int (P 0 2), .ref (a 20), .ref (a 21)]))]) [0, 1, 3] (by decide) rfl
  refine va_csv (W.runV (As := [.int (nI xt)]) (rest := []) ⟨hx, hb, hml, hown, hts⟩ (c_needSite l D cI cZ cJ lo s.heap.size g pa b a P xt hw (by omega)) (cwV 1 hts gX8_send_X8_needSite rfl rfl rfl (by decide +kernel) ⟨(Nat.le_of_ble_eq_true rfl), (Nat.le_of_ble_eq_true rfl)⟩) ⟨Pre.blind, va_recv hK hP (ci := 8) (q0 := 0) rfl rfl, Pre.mk hPc (hDc.weaken (fun _ _ _ h => hAlo _ h)) hC hS hAlo⟩ rfl rfl hl.1 rfl (lv_room (Nat.le_of_ble_eq_true rfl)) dX8_send_12 ⟨(Nat.le_of_ble_eq_true rfl), (Nat.le_of_ble_eq_true rfl)⟩) (fun e_3 => ?_)
  clear hPc hDc
  refine lv_aload_n hx hb dX8_send_15 rfl (lv_at hl 0 rfl) ?_
  refine va_get (D := D) (ci := 8) (v := .ref (a 0)) (C := RX8) (T := TX8) (N := 3) hx hb hts in8 hown hK hP 0 rfl rfl 0 (by decide) (hts (.fieldLink RX8 10 "Granary" "now" "LGranary$Stock;") (by decide +kernel)) (fun _ h9 => h9) rfl dX8_send_16 ?_
  refine va_get (D := D) (ci := 6) (v := .ref (a 2)) (C := RX6) (T := TX6) (N := 9) hx hb hts in6 hown hK hP 1 rfl rfl 2 (by decide) (hts (.fieldLink RX8 48 "Granary$Stock" "sites" "LGranary$Sites;") (by decide +kernel)) (fun _ h9 => h9) rfl dX8_send_19 ?_
  refine lv_iload_n hx hb dX8_send_22 rfl (lv_at hl 2 rfl) ?_
  refine lv_iload_n hx hb dX8_send_23 rfl (lv_at hl 3 rfl) ?_
  have hPc := hP.sub (ws' := [(a 2, .inr (5, [.int (P 0 2), .ref (a 20), .ref (a 21)])), (a 21, .inl (cI, 25, .inl (P 21)))]) [3, 13] rfl
  have hDc := hD.sub (ws' := [(a 2, .inr (5, [.int (P 0 2), .ref (a 20), .ref (a 21)])), (a 21, .inl (cI, 25, .inl (P 21)))]) [3, 13] (by decide) rfl
  refine vp_callSi (W.runV (As := [.int (nI xs), .int (nI xt)]) (rest := []) ⟨hx, hb, hml, hown, hts⟩ (c_daysBetween l D cI cZ cJ lo s.heap.size a P (nI xs) (nI xt) hw) (cwV 2 hts gX8_send_X5_daysBetween rfl rfl rfl (by decide +kernel) ⟨(Nat.le_of_ble_eq_true rfl), (Nat.le_of_ble_eq_true rfl)⟩) ⟨Pre.blind, va_recv hK hP (ci := 5) (q0 := 3) rfl rfl, Pre.mk hPc (hDc.weaken (fun _ _ _ h => hAlo _ h)) hC hS hAlo⟩ rfl rfl hl.1 rfl (lv_room (Nat.le_of_ble_eq_true rfl)) dX8_send_24 ⟨(Nat.le_of_ble_eq_true rfl), (Nat.le_of_ble_eq_true rfl)⟩) (fun r_4 e_5 => ?_)
  clear hPc hDc
  have e_5 : sg_daysBetween P (nI xs) (nI xt) = r_4 := Eq.symm e_5
  subst e_5
  refine lv_if_le (tgt := 34) hx hb dX8_send_27 (by decide) (fun c9 => absurd c9 (show ¬ ((sg_daysBetween P (nI xs) (nI xt)) ≤ (0 : Int32)) from hd)) (fun _ => ?_)
  refine lv_iconst (v := 1) hx hb dX8_send_30 (by decide) ?_
  refine lv_goto (tgt := 35) hx hb dX8_send_31 (by decide) ?_
  have hPc := hP.sub (ws' := []) [] rfl
  have hDc := hD.sub (ws' := []) [] (by decide) rfl
  refine va_csv (W.runS (As := [.int 1]) (rest := []) ⟨hx, hb, hml, hown, hts⟩ (c_needArgument l D cI cZ cJ lo s.heap.size 1 (by decide)) (va_cwS 1 hts gX8_send_X8_needArgument rfl rfl rfl (by decide +kernel) ⟨(Nat.le_of_ble_eq_true rfl), (Nat.le_of_ble_eq_true rfl)⟩) ⟨Pre.blind, Pre.mk hPc (hDc.weaken (fun _ _ _ h => hAlo _ h)) hC hS hAlo⟩ rfl rfl hl.1 rfl (lv_room (Nat.le_of_ble_eq_true rfl)) dX8_send_35 ⟨(Nat.le_of_ble_eq_true rfl), (Nat.le_of_ble_eq_true rfl)⟩) (fun e_6 => ?_)
  clear hPc hDc
  refine lv_iload hx hb dX8_send_38 (lv_at hl 4 rfl) ?_
  refine lv_iconst (v := 1) hx hb dX8_send_40 (by decide) ?_
  refine lv_sipush (v := 999) hx hb dX8_send_41 (by decide) ?_
  have hPc := hP.sub (ws' := []) [] rfl
  have hDc := hD.sub (ws' := []) [] (by decide) rfl
  refine va_csv (W.runS (As := [.int x, .int 1, .int 999]) (rest := []) ⟨hx, hb, hml, hown, hts⟩ (c_needWithin l D cI cZ cJ lo s.heap.size x 1 999 h1 h2) (va_cwS 3 hts gX8_send_X8_needWithin rfl rfl rfl (by decide +kernel) ⟨(Nat.le_of_ble_eq_true rfl), (Nat.le_of_ble_eq_true rfl)⟩) ⟨Pre.blind, Pre.mk hPc (hDc.weaken (fun _ _ _ h => hAlo _ h)) hC hS hAlo⟩ rfl rfl hl.1 rfl (lv_room (Nat.le_of_ble_eq_true rfl)) dX8_send_44 ⟨(Nat.le_of_ble_eq_true rfl), (Nat.le_of_ble_eq_true rfl)⟩) (fun e_7 => ?_)
  clear hPc hDc
  refine lv_aload_n hx hb dX8_send_47 rfl (lv_at hl 0 rfl) ?_
  refine va_get (D := D) (ci := 8) (v := .ref (a 0)) (C := RX8) (T := TX8) (N := 3) hx hb hts in8 hown hK hP 0 rfl rfl 0 (by decide) (hts (.fieldLink RX8 10 "Granary" "now" "LGranary$Stock;") (by decide +kernel)) (fun _ h9 => h9) rfl dX8_send_48 ?_
  refine lv_iload_n hx hb dX8_send_51 rfl (lv_at hl 1 rfl) ?_
  refine lv_iload_n hx hb dX8_send_52 rfl (lv_at hl 2 rfl) ?_
  refine lv_iload_n hx hb dX8_send_53 rfl (lv_at hl 3 rfl) ?_
  refine lv_iload hx hb dX8_send_54 (lv_at hl 4 rfl) ?_
  have hPc := hP.sub (ws' := (sg_St cI cZ a P q)) [1, 2, 3, 4, 5, 6, 7, 8, 9, 10, 11, 12, 13, 14, 15, 16, 17, 18, 19, 20, 21, 22, 23, 24, 25, 26, 27, 28, 29, 30, 31, 32, 33, 34, 35, 36, 37, 38, 39, 40, 41] rfl
  have hDc := hD.sub (ws' := (sg_St cI cZ a P q)) [1, 2, 3, 4, 5, 6, 7, 8, 9, 10, 11, 12, 13, 14, 15, 16, 17, 18, 19, 20, 21, 22, 23, 24, 25, 26, 27, 28, 29, 30, 31, 32, 33, 34, 35, 36, 37, 38, 39, 40, 41] (by decide) rfl
  have hFc := va_free (wc := (sg_St cI cZ a P q)) hD hS hA [1, 2, 3, 4, 5, 6, 7, 8, 9, 10, 11, 12, 13, 14, 15, 16, 17, 18, 19, 20, 21, 22, 23, 24, 25, 26, 27, 28, 29, 30, 31, 32, 33, 34, 35, 36, 37, 38, 39, 40, 41] rfl
  refine va_calli (va_runV (As := [.int (nI xi), .int (nI xs), .int (nI xt), .int x]) (rest := []) ⟨hx, hb, hml, hown, hts⟩ (c_sendUnits l D cI cZ cJ lo s.heap.size a P q (nI xi) (nI xs) (nI xt) x hw) (cwV 4 hts gX8_send_X6_sendUnits rfl rfl rfl (by decide +kernel) ⟨(Nat.le_of_ble_eq_true rfl), (Nat.le_of_ble_eq_true rfl)⟩) ⟨Pre.blind, va_recv hK hP (ci := 6) (q0 := 1) rfl rfl, Pre.mk hPc (hDc.weaken (fun _ _ _ h => hAlo _ h)) hC hS hAlo⟩ rfl rfl hl.1 rfl (lv_room (Nat.le_of_ble_eq_true rfl)) dX8_send_56 ⟨(Nat.le_of_ble_eq_true rfl), (Nat.le_of_ble_eq_true rfl)⟩) hS (fun q _ h => hFc q h) hFc (fun r_8 u t H1 locs1 ht hvm e_9 hB hz1 hk1 hS1 => ?_)
  have hS := hS1
  obtain ⟨hP1, hD1⟩ := hB
  rw [ht] at hP1
  obtain ⟨hP, hD⟩ := va_join (wr := [(g, .inr (8, [.ref (a 0), .ref (b 0), .ref (pa 0)]))]) (w1 := (sg_St cI cZ a (sg_sendUnits P (nI xi) (nI xs) (nI xt) x) q)) hP hD [1, 2, 3, 4, 5, 6, 7, 8, 9, 10, 11, 12, 13, 14, 15, 16, 17, 18, 19, 20, 21, 22, 23, 24, 25, 26, 27, 28, 29, 30, 31, 32, 33, 34, 35, 36, 37, 38, 39, 40, 41] [0] rfl rfl (by decide) (by decide) hk1 hFc hP1 hD1
  have e_9 : sg_sendUnits_r P (nI xi) (nI xs) (nI xt) x = r_8 := Eq.symm e_9
  subst e_9
  clear hFc hPc hDc ht hvm hz1 hk1 hS1 hP1 hD1
  generalize H1 = H at hP hS ⊢
  replace hP : va_P D vwCl ([(g, .inr (8, [.ref (a 0), .ref (b 0), .ref (pa 0)]))] ++ sg_St cI cZ a (sg_sendUnits P (nI xi) (nI xs) (nI xt) x) q) H := hP
  replace hD : va_D A ([(g, .inr (8, [.ref (a 0), .ref (b 0), .ref (pa 0)]))] ++ sg_St cI cZ a (sg_sendUnits P (nI xi) (nI xs) (nI xt) x) q) := hD
  refine W.widen (k := 0) (n := 0) (by omega) (by omega) ?_
  have hP9 : va_P D vwCl ([(g, .inr (8, [.ref (a 0), .ref (b 0), .ref (pa 0)]))] ++ sg_St cI cZ a (sg_g_send P xi xs xt x) q) H := by exact hP
  have hD9 : va_D A ([(g, .inr (8, [.ref (a 0), .ref (b 0), .ref (pa 0)]))] ++ sg_St cI cZ a (sg_g_send P xi xs xt x) q) := by exact hD
  exact W.iret (v := (sg_sendUnits_r P (nI xi) (nI xs) (nI xt) x)) hx hb hr (fun t ht hW => ⟨⟨(sg_sendUnits_r P (nI xi) (nI xs) (nI xt) x), (), rfl, rfl, by rw [ht]; exact hP9, hD9⟩, hS.F ht⟩) hS.2.2 dX8_send_59

theorem sg_ltl {B : Int32} {N M : Nat} (hB : B = nI N) (hN : N < 2 ^ 31) (hM : M < 2 ^ 31) (c : B < nI M) : N < M := by
  rw [hB] at c
  rcases Nat.lt_or_ge N M with q | q
  · exact q
  · exact absurd c (nI_nlt q hN)
theorem sg_W.up3 {P : sg_Pic} (hw : sg_W P) (h : sg_cn P 3 < 200) : sg_W (sg_up P 0 3 ((P 0 3) + 1)) := by
  have e : (P 0 3) + 1 = nI (sg_cn P 3 + 1) := by rw [hw.e3]; exact nI_1 _
  have c : Int32.toNatClampNeg ((P 0 3) + 1) = sg_cn P 3 + 1 := by rw [e, nI_clamp (by omega)]
  refine ⟨hw.1, hw.2.1, ?_, hw.2.2.2.1, hw.2.2.2.2.1, hw.2.2.2.2.2⟩
  show ((P 0 3) + 1 = nI (Int32.toNatClampNeg ((P 0 3) + 1))) ∧ Int32.toNatClampNeg ((P 0 3) + 1) ≤ 200
  rw [c]
  exact ⟨e, h⟩
theorem sg_W.up5 {P : sg_Pic} (hw : sg_W P) (h : sg_cn P 5 < 90) : sg_W (sg_up P 0 5 ((P 0 5) + 1)) := by
  have e : (P 0 5) + 1 = nI (sg_cn P 5 + 1) := by rw [hw.e5]; exact nI_1 _
  have c : Int32.toNatClampNeg ((P 0 5) + 1) = sg_cn P 5 + 1 := by rw [e, nI_clamp (by omega)]
  refine ⟨hw.1, hw.2.1, hw.2.2.1, hw.2.2.2.1, ?_, hw.2.2.2.2.2⟩
  show ((P 0 5) + 1 = nI (Int32.toNatClampNeg ((P 0 5) + 1))) ∧ Int32.toNatClampNeg ((P 0 5) + 1) ≤ 90
  rw [c]
  exact ⟨e, h⟩
theorem sg_W.up4 {P : sg_Pic} (hw : sg_W P) (h : sg_cn P 4 < 60) : sg_W (sg_up P 0 4 ((P 0 4) + 1)) := by
  have e : (P 0 4) + 1 = nI (sg_cn P 4 + 1) := by rw [hw.e4]; exact nI_1 _
  have c : Int32.toNatClampNeg ((P 0 4) + 1) = sg_cn P 4 + 1 := by rw [e, nI_clamp (by omega)]
  refine ⟨hw.1, hw.2.1, hw.2.2.1, ?_, hw.2.2.2.2.1, hw.2.2.2.2.2⟩
  show ((P 0 4) + 1 = nI (Int32.toNatClampNeg ((P 0 4) + 1))) ∧ Int32.toNatClampNeg ((P 0 4) + 1) ≤ 60
  rw [c]
  exact ⟨e, h⟩
theorem sg_W.up1 {P : sg_Pic} (hw : sg_W P) (h : sg_cn P 1 < 6) : sg_W (sg_up P 0 1 ((P 0 1) + 1)) := by
  have e : (P 0 1) + 1 = nI (sg_cn P 1 + 1) := by rw [hw.e1]; exact nI_1 _
  have c : Int32.toNatClampNeg ((P 0 1) + 1) = sg_cn P 1 + 1 := by rw [e, nI_clamp (by omega)]
  refine ⟨?_, hw.2⟩
  show ((P 0 1) + 1 = nI (Int32.toNatClampNeg ((P 0 1) + 1))) ∧ Int32.toNatClampNeg ((P 0 1) + 1) ≤ 6
  rw [c]
  exact ⟨e, h⟩
theorem sg_W.up2 {P : sg_Pic} (hw : sg_W P) (h : sg_cn P 2 < 5) : sg_W (sg_up P 0 2 ((P 0 2) + 1)) := by
  have e : (P 0 2) + 1 = nI (sg_cn P 2 + 1) := by rw [hw.e2]; exact nI_1 _
  have c : Int32.toNatClampNeg ((P 0 2) + 1) = sg_cn P 2 + 1 := by rw [e, nI_clamp (by omega)]
  refine ⟨hw.1, ?_, hw.2.2⟩
  show ((P 0 2) + 1 = nI (Int32.toNatClampNeg ((P 0 2) + 1))) ∧ Int32.toNatClampNeg ((P 0 2) + 1) ≤ 5
  rw [c]
  exact ⟨e, h⟩
theorem sg_ne_n {P : sg_Pic} {k : Nat} {v : Int32} (r j : Nat) (h : j ≠ k) : sg_up P 0 k v 0 j = P 0 j := by
  rw [sg_up_s]
  exact if_neg h

def sg_hold (P : sg_Pic) (xo : Nat) (xl : Nat) (x : Int32) : sg_Pic := (sg_up (sg_up (sg_up P 59 ((xo * 200) + xl) ((P 59 ((xo * 200) + xl)) + x)) 53 xo ((P 53 xo) + x)) 43 xl ((P 43 xl) + x))

theorem sg_hold_K (P : sg_Pic) (xo : Nat) (xl : Nat) (x : Int32) : sg_K (sg_hold P xo xl x) P := by
  unfold sg_hold
  repeat' split
  all_goals first | exact ⟨rfl, rfl⟩
theorem sg_hold_W {P : sg_Pic} {xo : Nat} {xl : Nat} {x : Int32} (hw : sg_W P) : sg_W (sg_hold P xo xl x) := (sg_hold_K P xo xl x).W hw

set_option maxHeartbeats 4000000 in
set_option maxRecDepth 100000 in
/-- X6_hold -/
theorem c_hold (l : Launch) (D : va_G) (cI cZ cJ : ClassId) (lo sz : Nat) (a : Nat → Nat) (P : sg_Pic) (q : Nat → Int32) (xo : Nat) (xl : Nat) (x : Int32) (ho : xo < 60) (hl0 : xl < 200) : Met l yX6_hold wsX6_hold ({ frames := 0, cells := 0, slots := 0, locals := 0 }) (Pre lo D cI cZ cJ [.ref (a 0), .int (nI xo), .int (nI xl), .int x] sz (sg_St cI cZ a P q)) (va_Qv (fun _ : Unit => True) (fun _ t => va_P D vwCl (sg_St cI cZ a (sg_hold P xo xl x) q) t.heap ∧ va_D (va_A (sg_St cI cZ a P q) sz) (sg_St cI cZ a (sg_hold P xo xl x) q)) (va_A (sg_St cI cZ a P q) sz)) 0 0 (va_A (sg_St cI cZ a P q) sz) := by
  refine Met.ofW (cc := cX6_hold) (maxL := 4) (ret := none) (by decide) rfl ?_
  intro p e s m args below meth c s₁ B hml hv
  obtain ⟨rfl, hsz, hP, hD0, hC⟩ := hv
  have hx := B.exec
  have hb := B.bytes
  have hr := B.returns
  have hts := atoms_spec (ws := wsX6_hold) B.pre
  have hown : s.vm.findClass RX6 = some m.cls := findClass_of_methodNamed B.named
  have hlocks := B.notSynchronized
  subst hsz
  have hK := hC.K
  have hD := hD0.self (sz := s.heap.size)
  have hAlo0 := va_A_lo hD0 hC.1
  generalize hAe : va_A (sg_St cI cZ a P q) s.heap.size = A at hD hAlo0 ⊢
  have hA : ∀ q : Nat, s.heap.size ≤ q → A q := fun q h => by rw [← hAe]; exact Or.inr h
  have hAlo : ∀ q, A q → lo ≤ q := hAlo0
  have hS : va_S A s.heap s.heap [] := va_S.rf
  have hP : va_P D vwCl (sg_St cI cZ a P q) s.heap := hP
  have hl := lv_entry ([.ref (a 0), .int (nI xo), .int (nI xl), .int x]) (n := 4) (Nat.le_of_ble_eq_true rfl)
  rw [lg_entry_eq]
  generalize (lg_sl ([.ref (a 0), .int (nI xo), .int (nI xl), .int x]) ++ List.replicate (4 - (lg_sl ([.ref (a 0), .int (nI xo), .int (nI xl), .int x])).length) Slot.unset).toArray = ls at hl ⊢
  have hl : lv_has ls 4 [(0, .ref (a 0)), (1, .int (nI xo)), (2, .int (nI xl)), (3, .int x)] := hl
  have in1 : ∀ w ∈ u_ws RX1 TX1 6, w ∈ wsX6_hold := by decide +kernel
  have in2 : ∀ w ∈ u_ws RX2 TX2 11, w ∈ wsX6_hold := by decide +kernel
  have in6 : ∀ w ∈ u_ws RX6 TX6 9, w ∈ wsX6_hold := by decide +kernel
  refine lv_aload_n hx hb dX6_hold_0 rfl (lv_at hl 0 rfl) ?_
  refine va_get (D := D) (ci := 6) (v := .ref (a 5)) (C := RX6) (T := TX6) (N := 9) hx hb hts in6 hown hK hP 0 rfl rfl 5 (by decide) (hts (.fieldLink RX6 42 "Granary$Stock" "orders" "LGranary$Orders;") (by decide +kernel)) (fun _ h9 => h9) rfl dX6_hold_1 ?_
  refine va_get (D := D) (ci := 2) (v := .ref (a 59)) (C := RX2) (T := TX2) (N := 11) hx hb hts in2 hown hK hP 5 rfl rfl 10 (by decide) (hts (.fieldLink RX6 141 "Granary$Orders" "held" "[I") (by decide +kernel)) (fun _ h9 => h9) rfl dX6_hold_4 ?_
  refine lv_iload_n hx hb dX6_hold_7 rfl (lv_at hl 1 rfl) ?_
  refine lv_sipush (v := 200) hx hb dX6_hold_8 (by decide) ?_
  refine lv_imul hx hb dX6_hold_11 ?_
  refine lv_toi (y := nI (xo * 200)) (sg_mulN xo 200) ?_
  refine lv_iload_n hx hb dX6_hold_12 rfl (lv_at hl 2 rfl) ?_
  refine lv_iadd hx hb dX6_hold_13 ?_
  refine lv_toi (y := nI ((xo * 200) + xl)) (nI_add (xo * 200) xl) ?_
  refine lv_dup2_11 hx hb dX6_hold_14 rfl rfl ?_
  refine sg_iald hx hb hK hP 32 0 rfl rfl (j := (xo * 200) + xl) rfl (by omega) (Nat.le_of_ble_eq_true rfl) dX6_hold_15 ?_
  refine lv_toi (y := P 59 ((xo * 200) + xl)) rfl ?_
  refine lv_iload_n hx hb dX6_hold_16 rfl (lv_at hl 3 rfl) ?_
  refine lv_iadd hx hb dX6_hold_17 ?_
  refine sg_iast hx hb hK hP hD hS 32 0 rfl rfl (j := (xo * 200) + xl) rfl (by omega) (Nat.le_of_ble_eq_true rfl) dX6_hold_18 (fun H locs hP hD hS => ?_)
  replace hP : va_P D vwCl (sg_St cI cZ a (sg_up P 59 ((xo * 200) + xl) ((P 59 ((xo * 200) + xl)) + x)) q) H := hP
  replace hD : va_D A (sg_St cI cZ a (sg_up P 59 ((xo * 200) + xl) ((P 59 ((xo * 200) + xl)) + x)) q) := hD
  refine lv_aload_n hx hb dX6_hold_19 rfl (lv_at hl 0 rfl) ?_
  refine va_get (D := D) (ci := 6) (v := .ref (a 5)) (C := RX6) (T := TX6) (N := 9) hx hb hts in6 hown hK hP 0 rfl rfl 5 (by decide) (hts (.fieldLink RX6 42 "Granary$Stock" "orders" "LGranary$Orders;") (by decide +kernel)) (fun _ h9 => h9) rfl dX6_hold_20 ?_
  refine va_get (D := D) (ci := 2) (v := .ref (a 53)) (C := RX2) (T := TX2) (N := 11) hx hb hts in2 hown hK hP 5 rfl rfl 4 (by decide) (hts (.fieldLink RX6 144 "Granary$Orders" "reserved" "[I") (by decide +kernel)) (fun _ h9 => h9) rfl dX6_hold_23 ?_
  refine lv_iload_n hx hb dX6_hold_26 rfl (lv_at hl 1 rfl) ?_
  refine lv_dup2_11 hx hb dX6_hold_27 rfl rfl ?_
  refine sg_iald hx hb hK hP 26 0 rfl rfl (j := xo) rfl (by omega) (Nat.le_of_ble_eq_true rfl) dX6_hold_28 ?_
  refine lv_toi (y := P 53 xo) rfl ?_
  refine lv_iload_n hx hb dX6_hold_29 rfl (lv_at hl 3 rfl) ?_
  refine lv_iadd hx hb dX6_hold_30 ?_
  refine sg_iast hx hb hK hP hD hS 26 0 rfl rfl (j := xo) rfl (by omega) (Nat.le_of_ble_eq_true rfl) dX6_hold_31 (fun H locs hP hD hS => ?_)
  replace hP : va_P D vwCl (sg_St cI cZ a (sg_up (sg_up P 59 ((xo * 200) + xl) ((P 59 ((xo * 200) + xl)) + x)) 53 xo ((P 53 xo) + x)) q) H := hP
  replace hD : va_D A (sg_St cI cZ a (sg_up (sg_up P 59 ((xo * 200) + xl) ((P 59 ((xo * 200) + xl)) + x)) 53 xo ((P 53 xo) + x)) q) := hD
  refine lv_aload_n hx hb dX6_hold_32 rfl (lv_at hl 0 rfl) ?_
  refine va_get (D := D) (ci := 6) (v := .ref (a 4)) (C := RX6) (T := TX6) (N := 9) hx hb hts in6 hown hK hP 0 rfl rfl 4 (by decide) (hts (.fieldLink RX6 35 "Granary$Stock" "lots" "LGranary$Lots;") (by decide +kernel)) (fun _ h9 => h9) rfl dX6_hold_33 ?_
  refine va_get (D := D) (ci := 1) (v := .ref (a 43)) (C := RX1) (T := TX1) (N := 6) hx hb hts in1 hown hK hP 4 rfl rfl 4 (by decide) (hts (.fieldLink RX6 147 "Granary$Lots" "reserved" "[I") (by decide +kernel)) (fun _ h9 => h9) rfl dX6_hold_36 ?_
  refine lv_iload_n hx hb dX6_hold_39 rfl (lv_at hl 2 rfl) ?_
  refine lv_dup2_11 hx hb dX6_hold_40 rfl rfl ?_
  refine sg_iald hx hb hK hP 21 0 rfl rfl (j := xl) rfl (by omega) (Nat.le_of_ble_eq_true rfl) dX6_hold_41 ?_
  refine lv_toi (y := P 43 xl) rfl ?_
  refine lv_iload_n hx hb dX6_hold_42 rfl (lv_at hl 3 rfl) ?_
  refine lv_iadd hx hb dX6_hold_43 ?_
  refine sg_iast hx hb hK hP hD hS 21 0 rfl rfl (j := xl) rfl (by omega) (Nat.le_of_ble_eq_true rfl) dX6_hold_44 (fun H locs hP hD hS => ?_)
  replace hP : va_P D vwCl (sg_St cI cZ a (sg_up (sg_up (sg_up P 59 ((xo * 200) + xl) ((P 59 ((xo * 200) + xl)) + x)) 53 xo ((P 53 xo) + x)) 43 xl ((P 43 xl) + x)) q) H := hP
  replace hD : va_D A (sg_St cI cZ a (sg_up (sg_up (sg_up P 59 ((xo * 200) + xl) ((P 59 ((xo * 200) + xl)) + x)) 53 xo ((P 53 xo) + x)) 43 xl ((P 43 xl) + x)) q) := hD
  refine W.widen (k := 0) (n := 0) (by omega) (by omega) ?_
  have hP9 : va_P D vwCl (sg_St cI cZ a (sg_hold P xo xl x) q) H := by exact hP
  have hD9 : va_D A (sg_St cI cZ a (sg_hold P xo xl x) q) := by exact hD
  exact W.vret hx hb hr (fun t ht hW => ⟨⟨(), rfl, trivial, by rw [ht]; exact hP9, hD9⟩, hS.F ht⟩) hS.2.2 dX6_hold_45

def sg_release_2 (P : sg_Pic) (xo : Nat) : Nat → sg_Pic
  | 0 => P
  | j2 + 1 => (sg_hold (sg_release_2 P xo j2) xo j2 (-(sg_heldOf (sg_release_2 P xo j2) xo j2)))
theorem sg_release_2_K (P : sg_Pic) (xo : Nat) : ∀ j : Nat, sg_K (sg_release_2 P xo j) P
  | 0 => by exact ⟨rfl, rfl⟩
  | j + 1 => by
    have h := sg_release_2_K P xo j
    rw [sg_release_2]
    repeat' split
    all_goals first | exact h | (refine sg_K.trans ?_ h; exact ⟨rfl, rfl⟩)

def sg_release (P : sg_Pic) (xo : Nat) : sg_Pic := (sg_release_2 P xo (sg_cn P 3))

theorem sg_release_K (P : sg_Pic) (xo : Nat) : sg_K (sg_release P xo) P := by
  unfold sg_release
  repeat' split
  all_goals first | exact ⟨rfl, rfl⟩ | exact sg_release_2_K _ _ _
theorem sg_release_W {P : sg_Pic} {xo : Nat} (hw : sg_W P) : sg_W (sg_release P xo) := (sg_release_K P xo).W hw

set_option maxHeartbeats 4000000 in
set_option maxRecDepth 100000 in
/-- X6_release -/
theorem c_release (l : Launch) (D : va_G) (cI cZ cJ : ClassId) (lo sz : Nat) (a : Nat → Nat) (P : sg_Pic) (q : Nat → Int32) (xo : Nat) (hw : sg_W P) (ho : xo < 60) : Met l yX6_release wsX6_release ({ frames := 1, cells := 0, slots := 0, locals := 23 }) (Pre lo D cI cZ cJ [.ref (a 0), .int (nI xo)] sz (sg_St cI cZ a P q)) (va_Qv (fun _ : Unit => True) (fun _ t => va_P D vwCl (sg_St cI cZ a (sg_release P xo) q) t.heap ∧ va_D (va_A (sg_St cI cZ a P q) sz) (sg_St cI cZ a (sg_release P xo) q)) (va_A (sg_St cI cZ a P q) sz)) 0 0 (va_A (sg_St cI cZ a P q) sz) := by
  refine Met.ofW (cc := cX6_release) (maxL := 3) (ret := none) (by decide) rfl ?_
  intro p e s m args below meth c s₁ B hml hv
  obtain ⟨rfl, hsz, hP, hD0, hC⟩ := hv
  have hx := B.exec
  have hb := B.bytes
  have hr := B.returns
  have hts := atoms_spec (ws := wsX6_release) B.pre
  have hown : s.vm.findClass RX6 = some m.cls := findClass_of_methodNamed B.named
  have hlocks := B.notSynchronized
  subst hsz
  have hn1 : sg_cn P 1 ≤ 6 := hw.n1
  have hn2 : sg_cn P 2 ≤ 5 := hw.n2
  have hn3 : sg_cn P 3 ≤ 200 := hw.n3
  have hn4 : sg_cn P 4 ≤ 60 := hw.n4
  have hn5 : sg_cn P 5 ≤ 90 := hw.n5
  have hK := hC.K
  have hD := hD0.self (sz := s.heap.size)
  have hAlo0 := va_A_lo hD0 hC.1
  generalize hAe : va_A (sg_St cI cZ a P q) s.heap.size = A at hD hAlo0 ⊢
  have hA : ∀ q : Nat, s.heap.size ≤ q → A q := fun q h => by rw [← hAe]; exact Or.inr h
  have hAlo : ∀ q, A q → lo ≤ q := hAlo0
  have hS : va_S A s.heap s.heap [] := va_S.rf
  have hP : va_P D vwCl (sg_St cI cZ a P q) s.heap := hP
  have hl := lv_entry ([.ref (a 0), .int (nI xo)]) (n := 3) (Nat.le_of_ble_eq_true rfl)
  rw [lg_entry_eq]
  generalize (lg_sl ([.ref (a 0), .int (nI xo)]) ++ List.replicate (3 - (lg_sl ([.ref (a 0), .int (nI xo)])).length) Slot.unset).toArray = ls at hl ⊢
  have hl : lv_has ls 3 [(0, .ref (a 0)), (1, .int (nI xo))] := hl
  have in1 : ∀ w ∈ u_ws RX1 TX1 6, w ∈ wsX6_release := by decide +kernel
  have in6 : ∀ w ∈ u_ws RX6 TX6 9, w ∈ wsX6_release := by decide +kernel
  refine lv_iconst (v := 0) hx hb dX6_release_0 (by decide) ?_
  refine lv_istore_n (lv' := [(2, .int 0), (0, .ref (a 0)), (1, .int (nI xo))]) hx hb dX6_release_1 rfl hl (by decide) rfl (fun ls hl => ?_)
  obtain ⟨H, hH9⟩ : ∃ z : Heap, z = s.heap := ⟨_, rfl⟩
  replace hS : va_S A s.heap H [] := by rw [hH9]; exact va_S.rf
  replace hP : va_P D vwCl (sg_St cI cZ a P q) H := by rw [hH9]; exact hP
  rw [← hH9]
  clear hH9
  generalize ([] : List Loc) = locs at hS ⊢
  obtain ⟨j2, h0j2⟩ : ∃ j : Nat, j = 0 := ⟨_, rfl⟩
  obtain ⟨P2, hP2⟩ : ∃ z9 : sg_Pic, z9 = sg_release_2 P xo j2 := ⟨_, rfl⟩
  replace hl : lv_has ls 3 [(2, .int (nI j2)), (0, .ref (a 0)), (1, .int (nI xo))] := by rw [h0j2]; exact hl
  replace hP : va_P D vwCl (sg_St cI cZ a P2 q) H := by rw [hP2, h0j2]; exact hP
  replace hD : va_D A (sg_St cI cZ a P2 q) := by rw [hP2, h0j2]; exact hD
  have hjj2 : j2 ≤ sg_cn P 3 := by omega
  clear h0j2
  obtain ⟨n2, hn2⟩ : ∃ n : Nat, sg_cn P 3 < j2 + n := ⟨sg_cn P 3 + 1, by omega⟩
  revert hP
  revert hD
  revert hS
  revert hl
  revert hn2
  revert hjj2
  revert hP2
  revert ls
  revert locs
  revert H
  revert P2
  revert j2
  induction n2 with
  | zero =>
    intro j2 P2 H locs ls hP2 hjj2 hn2 hl hS hD hP
    exact absurd hn2 (by omega)
  | succ n2 ih2 =>
    intro j2 P2 H locs ls hP2 hjj2 hn2 hl hS hD hP
    refine lv_iload_n hx hb dX6_release_2 rfl (lv_at hl 0 rfl) ?_
    refine lv_aload_n hx hb dX6_release_3 rfl (lv_at hl 1 rfl) ?_
    refine va_get (D := D) (ci := 6) (v := .ref (a 4)) (C := RX6) (T := TX6) (N := 9) hx hb hts in6 hown hK hP 0 rfl rfl 4 (by decide) (hts (.fieldLink RX6 35 "Granary$Stock" "lots" "LGranary$Lots;") (by decide +kernel)) (fun _ h9 => h9) rfl dX6_release_4 ?_
    refine va_get (D := D) (ci := 1) (v := .int (P2 0 3)) (C := RX1) (T := TX1) (N := 6) hx hb hts in1 hown hK hP 4 rfl rfl 0 (by decide) (hts (.fieldLink RX6 148 "Granary$Lots" "count" "I") (by decide +kernel)) (fun _ h9 => h9) rfl dX6_release_7 ?_
    have hkP2 : sg_K P2 P := by rw [hP2]; exact sg_release_2_K P xo j2
    have hB2 : ((P2 0 3) : Int32) = nI (sg_cn P 3) := ((hkP2.e 3).trans hw.e3)
    refine lv_icmp_ge (tgt := 35) hx hb dX6_release_10 (by decide) (fun c_1 => ?_) (fun c_1 => ?_)
    · have hE2 : sg_cn P 3 = j2 := (sg_eq hB2 c_1 hjj2 (by omega)).symm
      clear ih2 hn2
      subst hE2
      subst hP2
      refine W.widen (k := 0) (n := 0) (by omega) (by omega) ?_
      have hP9 : va_P D vwCl (sg_St cI cZ a (sg_release P xo) q) H := by exact hP
      have hD9 : va_D A (sg_St cI cZ a (sg_release P xo) q) := by exact hD
      exact W.vret hx hb hr (fun t ht hW => ⟨⟨(), rfl, trivial, by rw [ht]; exact hP9, hD9⟩, hS.F ht⟩) hS.2.2 dX6_release_35
    · have hL2 : j2 < sg_cn P 3 := sg_lt hB2 c_1 (by omega)
      refine lv_aload_n hx hb dX6_release_13 rfl (lv_at hl 1 rfl) ?_
      refine lv_iload_n hx hb dX6_release_14 rfl (lv_at hl 2 rfl) ?_
      refine lv_iload_n hx hb dX6_release_15 rfl (lv_at hl 0 rfl) ?_
      refine lv_aload_n hx hb dX6_release_16 rfl (lv_at hl 1 rfl) ?_
      refine va_get (D := D) (ci := 6) (v := .ref (a 5)) (C := RX6) (T := TX6) (N := 9) hx hb hts in6 hown hK hP 0 rfl rfl 5 (by decide) (hts (.fieldLink RX6 42 "Granary$Stock" "orders" "LGranary$Orders;") (by decide +kernel)) (fun _ h9 => h9) rfl dX6_release_17 ?_
      refine lv_iload_n hx hb dX6_release_20 rfl (lv_at hl 2 rfl) ?_
      refine lv_iload_n hx hb dX6_release_21 rfl (lv_at hl 0 rfl) ?_
      have hPc := hP.sub (ws' := [(a 5, .inr (2, [.int (P2 0 4), .ref (a 50), .ref (a 51), .ref (a 52), .ref (a 53), .ref (a 54), .ref (a 55), .ref (a 56), .ref (a 57), .ref (a 58), .ref (a 59)])), (a 59, .inl (cI, 12000, .inl (P2 59)))]) [5, 32] rfl
      have hDc := hD.sub (ws' := [(a 5, .inr (2, [.int (P2 0 4), .ref (a 50), .ref (a 51), .ref (a 52), .ref (a 53), .ref (a 54), .ref (a 55), .ref (a 56), .ref (a 57), .ref (a 58), .ref (a 59)])), (a 59, .inl (cI, 12000, .inl (P2 59)))]) [5, 32] (by decide) rfl
      refine vp_callSi (W.runV (As := [.int (nI xo), .int (nI j2)]) (rest := [.int (nI j2), .int (nI xo), .ref (a 0)]) ⟨hx, hb, hml, hown, hts⟩ (c_heldOf l D cI cZ cJ lo H.size a P2 xo j2 (by omega) (by omega)) (cwV 2 hts gX6_release_X2_heldOf rfl rfl rfl (by decide +kernel) ⟨(Nat.le_of_ble_eq_true rfl), (Nat.le_of_ble_eq_true rfl)⟩) ⟨Pre.blind, va_recv hK hP (ci := 2) (q0 := 5) rfl rfl, Pre.mk hPc (hDc.weaken (fun _ _ _ h => hAlo _ h)) hC hS hAlo⟩ rfl rfl hl.1 rfl (lv_room (Nat.le_of_ble_eq_true rfl)) dX6_release_22 ⟨(Nat.le_of_ble_eq_true rfl), (Nat.le_of_ble_eq_true rfl)⟩) (fun r_2 e_3 => ?_)
      clear hPc hDc
      have e_3 : sg_heldOf P2 xo j2 = r_2 := Eq.symm e_3
      subst e_3
      refine lv_ineg hx hb dX6_release_25 ?_
      have hPc : va_P D vwCl (sg_St cI cZ a P2 q) H := hP
      have hDc : va_D A (sg_St cI cZ a P2 q) := hD
      have hFc := va_free (wc := (sg_St cI cZ a P2 q)) hD hS hA [0, 1, 2, 3, 4, 5, 6, 7, 8, 9, 10, 11, 12, 13, 14, 15, 16, 17, 18, 19, 20, 21, 22, 23, 24, 25, 26, 27, 28, 29, 30, 31, 32, 33, 34, 35, 36, 37, 38, 39, 40] rfl
      refine va_callv (va_runV (As := [.int (nI xo), .int (nI j2), .int (-(sg_heldOf P2 xo j2))]) (rest := []) ⟨hx, hb, hml, hown, hts⟩ (c_hold l D cI cZ cJ lo H.size a P2 q xo j2 (-(sg_heldOf P2 xo j2)) (by omega) (by omega)) (cwV 3 hts gX6_release_X6_hold rfl rfl rfl (by decide +kernel) ⟨(Nat.le_of_ble_eq_true rfl), (Nat.le_of_ble_eq_true rfl)⟩) ⟨Pre.blind, va_recv hK hP (ci := 6) (q0 := 0) rfl rfl, Pre.mk hPc (hDc.weaken (fun _ _ _ h => hAlo _ h)) hC hS hAlo⟩ rfl rfl hl.1 rfl (lv_room (Nat.le_of_ble_eq_true rfl)) dX6_release_26 ⟨(Nat.le_of_ble_eq_true rfl), (Nat.le_of_ble_eq_true rfl)⟩) hS (fun q _ h => hFc q h) hFc (fun u t H1 locs1 ht hvm e_4 hB hz1 hk1 hS1 => ?_)
      have hS := hS1
      obtain ⟨hP1, hD1⟩ := hB
      rw [ht] at hP1
      obtain ⟨hP, hD⟩ := va_join (wr := []) (w1 := (sg_St cI cZ a (sg_hold P2 xo j2 (-(sg_heldOf P2 xo j2))) q)) hP hD [0, 1, 2, 3, 4, 5, 6, 7, 8, 9, 10, 11, 12, 13, 14, 15, 16, 17, 18, 19, 20, 21, 22, 23, 24, 25, 26, 27, 28, 29, 30, 31, 32, 33, 34, 35, 36, 37, 38, 39, 40] [] rfl rfl (by decide) (by decide) hk1 hFc hP1 hD1
      have e_4 : True := e_4
      clear hFc hPc hDc ht hvm hz1 hk1 hS1 hP1 hD1
      generalize H1 = H at hP hS ⊢
      replace hP : va_P D vwCl (sg_St cI cZ a (sg_hold P2 xo j2 (-(sg_heldOf P2 xo j2))) q) H := hP
      replace hD : va_D A (sg_St cI cZ a (sg_hold P2 xo j2 (-(sg_heldOf P2 xo j2))) q) := hD
      refine lv_iinc (v := nI (j2 + 1)) (lv' := [(2, .int (nI (j2 + 1))), (0, .ref (a 0)), (1, .int (nI xo))]) hx hb dX6_release_29 hl (k := 0) rfl (nI_1 j2) (by decide) rfl (fun ls hl => ?_)
      refine lv_goto (tgt := 2) hx hb dX6_release_32 (by decide) ?_
      have hl8 := hl; have hS8 := hS; have hD8 := hD; have hP8 := hP
      subst hP2
      exact ih2 (j2 + 1) (sg_hold (sg_release_2 P xo j2) xo j2 (-(sg_heldOf (sg_release_2 P xo j2) xo j2))) _ _ _ rfl (by omega) (by omega) (lv_sub hl8 [0, 1, 2] rfl) hS8 hD8 hP8

def sg_waste (P : sg_Pic) (x : Int32) (y : Int32) : sg_Pic := (sg_up P 70 1 ((P 70 1) + (y * (sg_priceOf P x))))

theorem sg_waste_K (P : sg_Pic) (x : Int32) (y : Int32) : sg_K (sg_waste P x y) P := by
  unfold sg_waste
  repeat' split
  all_goals first | exact ⟨rfl, rfl⟩
theorem sg_waste_W {P : sg_Pic} {x : Int32} {y : Int32} (hw : sg_W P) : sg_W (sg_waste P x y) := (sg_waste_K P x y).W hw

set_option maxHeartbeats 4000000 in
set_option maxRecDepth 100000 in
/-- X6_waste -/
theorem c_waste (l : Launch) (D : va_G) (cI cZ cJ : ClassId) (lo sz : Nat) (a : Nat → Nat) (P : sg_Pic) (q : Nat → Int32) (x : Int32) (y : Int32) (hw : sg_W P) : Met l yX6_waste wsX6_waste ({ frames := 2, cells := 0, slots := 0, locals := 42 }) (Pre lo D cI cZ cJ [.ref (a 0), .int x, .int y] sz (sg_St cI cZ a P q)) (va_Qv (fun _ : Unit => True) (fun _ t => va_P D vwCl (sg_St cI cZ a (sg_waste P x y) q) t.heap ∧ va_D (va_A (sg_St cI cZ a P q) sz) (sg_St cI cZ a (sg_waste P x y) q)) (va_A (sg_St cI cZ a P q) sz)) 0 0 (va_A (sg_St cI cZ a P q) sz) := by
  refine Met.ofW (cc := cX6_waste) (maxL := 3) (ret := none) (by decide) rfl ?_
  intro p e s m args below meth c s₁ B hml hv
  obtain ⟨rfl, hsz, hP, hD0, hC⟩ := hv
  have hx := B.exec
  have hb := B.bytes
  have hr := B.returns
  have hts := atoms_spec (ws := wsX6_waste) B.pre
  have hown : s.vm.findClass RX6 = some m.cls := findClass_of_methodNamed B.named
  have hlocks := B.notSynchronized
  subst hsz
  have hn1 : sg_cn P 1 ≤ 6 := hw.n1
  have hn2 : sg_cn P 2 ≤ 5 := hw.n2
  have hn3 : sg_cn P 3 ≤ 200 := hw.n3
  have hn4 : sg_cn P 4 ≤ 60 := hw.n4
  have hn5 : sg_cn P 5 ≤ 90 := hw.n5
  have hK := hC.K
  have hD := hD0.self (sz := s.heap.size)
  have hAlo0 := va_A_lo hD0 hC.1
  generalize hAe : va_A (sg_St cI cZ a P q) s.heap.size = A at hD hAlo0 ⊢
  have hA : ∀ q : Nat, s.heap.size ≤ q → A q := fun q h => by rw [← hAe]; exact Or.inr h
  have hAlo : ∀ q, A q → lo ≤ q := hAlo0
  have hS : va_S A s.heap s.heap [] := va_S.rf
  have hP : va_P D vwCl (sg_St cI cZ a P q) s.heap := hP
  have hl := lv_entry ([.ref (a 0), .int x, .int y]) (n := 3) (Nat.le_of_ble_eq_true rfl)
  rw [lg_entry_eq]
  generalize (lg_sl ([.ref (a 0), .int x, .int y]) ++ List.replicate (3 - (lg_sl ([.ref (a 0), .int x, .int y])).length) Slot.unset).toArray = ls at hl ⊢
  have hl : lv_has ls 3 [(0, .ref (a 0)), (1, .int x), (2, .int y)] := hl
  have in6 : ∀ w ∈ u_ws RX6 TX6 9, w ∈ wsX6_waste := by decide +kernel
  refine lv_aload_n hx hb dX6_waste_0 rfl (lv_at hl 0 rfl) ?_
  refine va_get (D := D) (ci := 6) (v := .ref (a 70)) (C := RX6) (T := TX6) (N := 9) hx hb hts in6 hown hK hP 0 rfl rfl 7 (by decide) (hts (.fieldLink RX6 53 "Granary$Stock" "account" "[I") (by decide +kernel)) (fun _ h9 => h9) rfl dX6_waste_1 ?_
  refine lv_iconst (v := 1) hx hb dX6_waste_4 (by decide) ?_
  refine lv_dup2_11 hx hb dX6_waste_5 rfl rfl ?_
  refine sg_iald hx hb hK hP 39 0 rfl rfl (j := 1) (by decide) (Nat.le_of_ble_eq_true rfl) (Nat.le_of_ble_eq_true rfl) dX6_waste_6 ?_
  refine lv_toi (y := P 70 1) rfl ?_
  refine lv_iload_n hx hb dX6_waste_7 rfl (lv_at hl 2 rfl) ?_
  refine lv_aload_n hx hb dX6_waste_8 rfl (lv_at hl 0 rfl) ?_
  refine va_get (D := D) (ci := 6) (v := .ref (a 1)) (C := RX6) (T := TX6) (N := 9) hx hb hts in6 hown hK hP 0 rfl rfl 1 (by decide) (hts (.fieldLink RX6 12 "Granary$Stock" "items" "LGranary$Items;") (by decide +kernel)) (fun _ h9 => h9) rfl dX6_waste_9 ?_
  refine lv_iload_n hx hb dX6_waste_12 rfl (lv_at hl 1 rfl) ?_
  have hPc := hP.sub (ws' := [(a 1, .inr (0, [.int (P 0 1), .ref (a 10), .ref (a 11), .ref (a 12), .ref (a 13)])), (a 11, .inl (cI, 6, .inl (P 11)))]) [1, 8] rfl
  have hDc := hD.sub (ws' := [(a 1, .inr (0, [.int (P 0 1), .ref (a 10), .ref (a 11), .ref (a 12), .ref (a 13)])), (a 11, .inl (cI, 6, .inl (P 11)))]) [1, 8] (by decide) rfl
  refine vp_callSi (W.runV (As := [.int x]) (rest := [.int y, .int (P 70 1), .int 1, .ref (a 70)]) ⟨hx, hb, hml, hown, hts⟩ (c_priceOf l D cI cZ cJ lo s.heap.size a P x hw) (cwV 1 hts gX6_waste_X0_priceOf rfl rfl rfl (by decide +kernel) ⟨(Nat.le_of_ble_eq_true rfl), (Nat.le_of_ble_eq_true rfl)⟩) ⟨Pre.blind, va_recv hK hP (ci := 0) (q0 := 1) rfl rfl, Pre.mk hPc (hDc.weaken (fun _ _ _ h => hAlo _ h)) hC hS hAlo⟩ rfl rfl hl.1 rfl (lv_room (Nat.le_of_ble_eq_true rfl)) dX6_waste_13 ⟨(Nat.le_of_ble_eq_true rfl), (Nat.le_of_ble_eq_true rfl)⟩) (fun r_1 e_2 => ?_)
  clear hPc hDc
  have e_2 : sg_priceOf P x = r_1 := Eq.symm e_2
  subst e_2
  refine lv_imul hx hb dX6_waste_16 ?_
  refine lv_iadd hx hb dX6_waste_17 ?_
  refine sg_iast hx hb hK hP hD hS 39 0 rfl rfl (j := 1) (by decide) (Nat.le_of_ble_eq_true rfl) (Nat.le_of_ble_eq_true rfl) dX6_waste_18 (fun H locs hP hD hS => ?_)
  replace hP : va_P D vwCl (sg_St cI cZ a (sg_up P 70 1 ((P 70 1) + (y * (sg_priceOf P x)))) q) H := hP
  replace hD : va_D A (sg_St cI cZ a (sg_up P 70 1 ((P 70 1) + (y * (sg_priceOf P x)))) q) := hD
  refine W.widen (k := 0) (n := 0) (by omega) (by omega) ?_
  have hP9 : va_P D vwCl (sg_St cI cZ a (sg_waste P x y) q) H := by exact hP
  have hD9 : va_D A (sg_St cI cZ a (sg_waste P x y) q) := by exact hD
  exact W.vret hx hb hr (fun t ht hW => ⟨⟨(), rfl, trivial, by rw [ht]; exact hP9, hD9⟩, hS.F ht⟩) hS.2.2 dX6_waste_19

def sg_reserveFor_29 (P : sg_Pic) (xo : Nat) : Nat → sg_Pic → sg_Pic
  | 0, P29 => P29
  | n29 + 1, P29 => (if (sg_missing P29 xo) ≤ 0 then P29 else (if (sg_firstFree P29 (P29 50 xo) (P29 51 xo) ((if (P 54 xo) < (P 0 0) then (P 0 0) else (P 54 xo)) + (P 56 xo))) = (-1) then P29 else (sg_reserveFor_29 P xo n29 (sg_hold P29 xo (Int32.toNatClampNeg (sg_firstFree P29 (P29 50 xo) (P29 51 xo) ((if (P 54 xo) < (P 0 0) then (P 0 0) else (P 54 xo)) + (P 56 xo)))) (if (sg_freeOf P29 (Int32.toNatClampNeg (sg_firstFree P29 (P29 50 xo) (P29 51 xo) ((if (P 54 xo) < (P 0 0) then (P 0 0) else (P 54 xo)) + (P 56 xo))))) < (sg_missing P29 xo) then (sg_freeOf P29 (Int32.toNatClampNeg (sg_firstFree P29 (P29 50 xo) (P29 51 xo) ((if (P 54 xo) < (P 0 0) then (P 0 0) else (P 54 xo)) + (P 56 xo))))) else (sg_missing P29 xo))))))
theorem sg_reserveFor_29_K (P : sg_Pic) (xo : Nat) : ∀ (n : Nat) (P29 : sg_Pic), sg_K (sg_reserveFor_29 P xo n P29) P29
  | 0, P29 => by
    rw [sg_reserveFor_29]
    exact ⟨rfl, rfl⟩
  | n + 1, P29 => by
    rw [sg_reserveFor_29]
    repeat' split
    all_goals first | exact ⟨rfl, rfl⟩ | exact sg_K.trans (sg_reserveFor_29_K P xo n _) (by first | exact ⟨rfl, rfl⟩)

def sg_reserveFor (P : sg_Pic) (xo : Nat) : sg_Pic := (sg_reserveFor_29 P xo 200 P)

theorem sg_reserveFor_K (P : sg_Pic) (xo : Nat) : sg_K (sg_reserveFor P xo) P := by
  unfold sg_reserveFor
  repeat' split
  all_goals first | exact ⟨rfl, rfl⟩ | exact sg_reserveFor_29_K _ _ _ _
theorem sg_reserveFor_W {P : sg_Pic} {xo : Nat} (hw : sg_W P) : sg_W (sg_reserveFor P xo) := (sg_reserveFor_K P xo).W hw

set_option maxHeartbeats 4000000 in
set_option maxRecDepth 100000 in
/-- X6_reserveFor -/
theorem c_reserveFor (l : Launch) (D : va_G) (cI cZ cJ : ClassId) (lo sz : Nat) (a : Nat → Nat) (P : sg_Pic) (q : Nat → Int32) (xo : Nat) (hw : sg_W P) (ho : xo < 60) : Met l yX6_reserveFor wsX6_reserveFor ({ frames := 2, cells := 0, slots := 0, locals := 46 }) (Pre lo D cI cZ cJ [.ref (a 0), .int (nI xo)] sz (sg_St cI cZ a P q)) (va_Qv (fun _ : Unit => True) (fun _ t => va_P D vwCl (sg_St cI cZ a (sg_reserveFor P xo) q) t.heap ∧ va_D (va_A (sg_St cI cZ a P q) sz) (sg_St cI cZ a (sg_reserveFor P xo) q)) (va_A (sg_St cI cZ a P q) sz)) 0 0 (va_A (sg_St cI cZ a P q) sz) := by
  refine Met.ofW (cc := cX6_reserveFor) (maxL := 5) (ret := none) (by decide) rfl ?_
  intro p e s m args below meth c s₁ B hml hv
  obtain ⟨rfl, hsz, hP, hD0, hC⟩ := hv
  have hx := B.exec
  have hb := B.bytes
  have hr := B.returns
  have hts := atoms_spec (ws := wsX6_reserveFor) B.pre
  have hown : s.vm.findClass RX6 = some m.cls := findClass_of_methodNamed B.named
  have hlocks := B.notSynchronized
  subst hsz
  have hn1 : sg_cn P 1 ≤ 6 := hw.n1
  have hn2 : sg_cn P 2 ≤ 5 := hw.n2
  have hn3 : sg_cn P 3 ≤ 200 := hw.n3
  have hn4 : sg_cn P 4 ≤ 60 := hw.n4
  have hn5 : sg_cn P 5 ≤ 90 := hw.n5
  have hK := hC.K
  have hD := hD0.self (sz := s.heap.size)
  have hAlo0 := va_A_lo hD0 hC.1
  generalize hAe : va_A (sg_St cI cZ a P q) s.heap.size = A at hD hAlo0 ⊢
  have hA : ∀ q : Nat, s.heap.size ≤ q → A q := fun q h => by rw [← hAe]; exact Or.inr h
  have hAlo : ∀ q, A q → lo ≤ q := hAlo0
  have hS : va_S A s.heap s.heap [] := va_S.rf
  have hP : va_P D vwCl (sg_St cI cZ a P q) s.heap := hP
  have hl := lv_entry ([.ref (a 0), .int (nI xo)]) (n := 5) (Nat.le_of_ble_eq_true rfl)
  rw [lg_entry_eq]
  generalize (lg_sl ([.ref (a 0), .int (nI xo)]) ++ List.replicate (5 - (lg_sl ([.ref (a 0), .int (nI xo)])).length) Slot.unset).toArray = ls at hl ⊢
  have hl : lv_has ls 5 [(0, .ref (a 0)), (1, .int (nI xo))] := hl
  have in2 : ∀ w ∈ u_ws RX2 TX2 11, w ∈ wsX6_reserveFor := by decide +kernel
  have in6 : ∀ w ∈ u_ws RX6 TX6 9, w ∈ wsX6_reserveFor := by decide +kernel
  refine lv_aload_n hx hb dX6_reserveFor_0 rfl (lv_at hl 0 rfl) ?_
  refine va_get (D := D) (ci := 6) (v := .ref (a 5)) (C := RX6) (T := TX6) (N := 9) hx hb hts in6 hown hK hP 0 rfl rfl 5 (by decide) (hts (.fieldLink RX6 42 "Granary$Stock" "orders" "LGranary$Orders;") (by decide +kernel)) (fun _ h9 => h9) rfl dX6_reserveFor_1 ?_
  refine va_get (D := D) (ci := 2) (v := .ref (a 54)) (C := RX2) (T := TX2) (N := 11) hx hb hts in2 hown hK hP 5 rfl rfl 5 (by decide) (hts (.fieldLink RX6 158 "Granary$Orders" "due" "[I") (by decide +kernel)) (fun _ h9 => h9) rfl dX6_reserveFor_4 ?_
  refine lv_iload_n hx hb dX6_reserveFor_7 rfl (lv_at hl 1 rfl) ?_
  refine sg_iald hx hb hK hP 27 0 rfl rfl (j := xo) rfl (by omega) (Nat.le_of_ble_eq_true rfl) dX6_reserveFor_8 ?_
  refine lv_toi (y := P 54 xo) rfl ?_
  refine lv_aload_n hx hb dX6_reserveFor_9 rfl (lv_at hl 0 rfl) ?_
  refine va_get (D := D) (ci := 6) (v := .int (P 0 0)) (C := RX6) (T := TX6) (N := 9) hx hb hts in6 hown hK hP 0 rfl rfl 0 (by decide) (hts (.fieldLink RX6 60 "Granary$Stock" "day" "I") (by decide +kernel)) (fun _ h9 => h9) rfl dX6_reserveFor_10 ?_
  refine va_mmax hx hb (hml.trans hl.1.symm) hown (hts (.methodLink RX6 123 Lib.Math.max.name) (by decide +kernel)) (hts (.static Lib.Math.max.name) (by decide +kernel)) (hts (.initialized "java/lang/Math") (by decide +kernel)) (hts (.code Lib.Math.max.name Lib.Math.max.code 2 (some .int)) (by decide +kernel)) (Nat.le_of_ble_eq_true rfl) (Nat.le_of_ble_eq_true rfl) (Nat.le_of_ble_eq_true rfl) (Nat.le_of_ble_eq_true rfl) dX6_reserveFor_13 ?_
  refine lv_aload_n hx hb dX6_reserveFor_16 rfl (lv_at hl 0 rfl) ?_
  refine va_get (D := D) (ci := 6) (v := .ref (a 5)) (C := RX6) (T := TX6) (N := 9) hx hb hts in6 hown hK hP 0 rfl rfl 5 (by decide) (hts (.fieldLink RX6 42 "Granary$Stock" "orders" "LGranary$Orders;") (by decide +kernel)) (fun _ h9 => h9) rfl dX6_reserveFor_17 ?_
  refine va_get (D := D) (ci := 2) (v := .ref (a 56)) (C := RX2) (T := TX2) (N := 11) hx hb hts in2 hown hK hP 5 rfl rfl 7 (by decide) (hts (.fieldLink RX6 161 "Granary$Orders" "keep" "[I") (by decide +kernel)) (fun _ h9 => h9) rfl dX6_reserveFor_20 ?_
  refine lv_iload_n hx hb dX6_reserveFor_23 rfl (lv_at hl 1 rfl) ?_
  refine sg_iald hx hb hK hP 29 0 rfl rfl (j := xo) rfl (by omega) (Nat.le_of_ble_eq_true rfl) dX6_reserveFor_24 ?_
  refine lv_toi (y := P 56 xo) rfl ?_
  refine lv_iadd hx hb dX6_reserveFor_25 ?_
  refine lv_istore_n (lv' := [(2, .int ((if (P 54 xo) < (P 0 0) then (P 0 0) else (P 54 xo)) + (P 56 xo))), (0, .ref (a 0)), (1, .int (nI xo))]) hx hb dX6_reserveFor_26 rfl hl (by decide) rfl (fun ls hl => ?_)
  refine lv_iconst (v := 0) hx hb dX6_reserveFor_27 (by decide) ?_
  refine lv_istore_n (lv' := [(3, .int 0), (2, .int ((if (P 54 xo) < (P 0 0) then (P 0 0) else (P 54 xo)) + (P 56 xo))), (0, .ref (a 0)), (1, .int (nI xo))]) hx hb dX6_reserveFor_28 rfl hl (by decide) rfl (fun ls hl => ?_)
  obtain ⟨H, hH9⟩ : ∃ z : Heap, z = s.heap := ⟨_, rfl⟩
  replace hS : va_S A s.heap H [] := by rw [hH9]; exact va_S.rf
  replace hP : va_P D vwCl (sg_St cI cZ a P q) H := by rw [hH9]; exact hP
  rw [← hH9]
  clear hH9
  generalize ([] : List Loc) = locs at hS ⊢
  obtain ⟨T29, hTT29⟩ : ∃ z9 : sg_Pic, z9 = sg_reserveFor_29 P xo 200 P := ⟨_, rfl⟩
  obtain ⟨P29, hP29⟩ : ∃ z9 : sg_Pic, z9 = P := ⟨_, rfl⟩
  obtain ⟨j29, h0j29⟩ : ∃ j : Nat, j = 0 := ⟨_, rfl⟩
  obtain ⟨n29, hn29⟩ : ∃ n : Nat, n = 200 := ⟨_, rfl⟩
  replace hl : lv_has ls 5 [(3, .int (nI j29)), (2, .int ((if (P 54 xo) < (P 0 0) then (P 0 0) else (P 54 xo)) + (P 56 xo))), (0, .ref (a 0)), (1, .int (nI xo))] := by rw [h0j29]; exact hl
  replace hP : va_P D vwCl (sg_St cI cZ a P29 q) H := by rw [hP29]; exact hP
  replace hD : va_D A (sg_St cI cZ a P29 q) := by rw [hP29]; exact hD
  have hF29 : sg_reserveFor_29 P xo n29 P29 = T29 := by rw [hP29, hn29, hTT29]
  have hw29 : sg_W P29 := by rw [hP29]; exact hw
  have hjj29 : j29 + n29 = 200 := by omega
  clear h0j29 hn29
  clear hP29
  revert hP
  revert hD
  revert hS
  revert hl
  revert hF29
  revert hjj29
  revert hw29
  revert ls
  revert locs
  revert H
  revert P29
  revert j29
  induction n29 with
  | zero =>
    intro j29 P29 H locs ls hw29 hjj29 hF29 hl hS hD hP
    refine lv_iload_n hx hb dX6_reserveFor_29 rfl (lv_at hl 0 rfl) ?_
    refine lv_sipush (v := 200) hx hb dX6_reserveFor_30 (by decide) ?_
    have c_1 : (200 : Int32) ≤ nI j29 := sg_geN (show (200 : Int32) = nI (200) from rfl) (by omega) (by omega)
    refine lv_icmp_ge (tgt := 115) hx hb dX6_reserveFor_33 (by decide) (fun _ => ?_) (fun c9 => absurd c_1 c9)
    rw [sg_reserveFor_29] at hF29
    replace hl : lv_has ls 5 [(2, .int ((if (P 54 xo) < (P 0 0) then (P 0 0) else (P 54 xo)) + (P 56 xo))), (0, .ref (a 0)), (1, .int (nI xo))] := by exact lv_sub hl [1, 2, 3] rfl
    replace hP : va_P D vwCl (sg_St cI cZ a T29 q) H := by rw [← hF29]; exact hP
    replace hD : va_D A (sg_St cI cZ a T29 q) := by rw [← hF29]; exact hD
    clear hF29
    subst hTT29
    refine W.widen (k := 0) (n := 0) (by omega) (by omega) ?_
    have hP9 : va_P D vwCl (sg_St cI cZ a (sg_reserveFor P xo) q) H := by exact hP
    have hD9 : va_D A (sg_St cI cZ a (sg_reserveFor P xo) q) := by exact hD
    exact W.vret hx hb hr (fun t ht hW => ⟨⟨(), rfl, trivial, by rw [ht]; exact hP9, hD9⟩, hS.F ht⟩) hS.2.2 dX6_reserveFor_115
  | succ n29 ih29 =>
    intro j29 P29 H locs ls hw29 hjj29 hF29 hl hS hD hP
    refine lv_iload_n hx hb dX6_reserveFor_29 rfl (lv_at hl 0 rfl) ?_
    refine lv_sipush (v := 200) hx hb dX6_reserveFor_30 (by decide) ?_
    have c_2 : ¬ ((200 : Int32) ≤ nI j29) := sg_nge (show (200 : Int32) = nI (200) from rfl) (by omega) (by omega)
    refine lv_icmp_ge (tgt := 115) hx hb dX6_reserveFor_33 (by decide) (fun c9 => absurd c9 c_2) (fun _ => ?_)
    refine lv_aload_n hx hb dX6_reserveFor_36 rfl (lv_at hl 2 rfl) ?_
    refine va_get (D := D) (ci := 6) (v := .ref (a 5)) (C := RX6) (T := TX6) (N := 9) hx hb hts in6 hown hK hP 0 rfl rfl 5 (by decide) (hts (.fieldLink RX6 42 "Granary$Stock" "orders" "LGranary$Orders;") (by decide +kernel)) (fun _ h9 => h9) rfl dX6_reserveFor_37 ?_
    refine lv_iload_n hx hb dX6_reserveFor_40 rfl (lv_at hl 3 rfl) ?_
    have hPc := hP.sub (ws' := [(a 5, .inr (2, [.int (P29 0 4), .ref (a 50), .ref (a 51), .ref (a 52), .ref (a 53), .ref (a 54), .ref (a 55), .ref (a 56), .ref (a 57), .ref (a 58), .ref (a 59)])), (a 52, .inl (cI, 60, .inl (P29 52))), (a 53, .inl (cI, 60, .inl (P29 53)))]) [5, 25, 26] rfl
    have hDc := hD.sub (ws' := [(a 5, .inr (2, [.int (P29 0 4), .ref (a 50), .ref (a 51), .ref (a 52), .ref (a 53), .ref (a 54), .ref (a 55), .ref (a 56), .ref (a 57), .ref (a 58), .ref (a 59)])), (a 52, .inl (cI, 60, .inl (P29 52))), (a 53, .inl (cI, 60, .inl (P29 53)))]) [5, 25, 26] (by decide) rfl
    refine vp_callSi (W.runV (As := [.int (nI xo)]) (rest := []) ⟨hx, hb, hml, hown, hts⟩ (c_missing l D cI cZ cJ lo H.size a P29 xo (by omega)) (cwV 1 hts gX6_reserveFor_X2_missing rfl rfl rfl (by decide +kernel) ⟨(Nat.le_of_ble_eq_true rfl), (Nat.le_of_ble_eq_true rfl)⟩) ⟨Pre.blind, va_recv hK hP (ci := 2) (q0 := 5) rfl rfl, Pre.mk hPc (hDc.weaken (fun _ _ _ h => hAlo _ h)) hC hS hAlo⟩ rfl rfl hl.1 rfl (lv_room (Nat.le_of_ble_eq_true rfl)) dX6_reserveFor_41 ⟨(Nat.le_of_ble_eq_true rfl), (Nat.le_of_ble_eq_true rfl)⟩) (fun r_3 e_4 => ?_)
    clear hPc hDc
    have e_4 : sg_missing P29 xo = r_3 := Eq.symm e_4
    subst e_4
    refine lv_if_le (tgt := 115) hx hb dX6_reserveFor_44 (by decide) (fun c_5 => ?_) (fun c_5 => ?_)
    · rw [sg_reserveFor_29, if_pos c_5] at hF29
      replace hl : lv_has ls 5 [(2, .int ((if (P 54 xo) < (P 0 0) then (P 0 0) else (P 54 xo)) + (P 56 xo))), (0, .ref (a 0)), (1, .int (nI xo))] := by exact lv_sub hl [1, 2, 3] rfl
      replace hP : va_P D vwCl (sg_St cI cZ a T29 q) H := by rw [← hF29]; exact hP
      replace hD : va_D A (sg_St cI cZ a T29 q) := by rw [← hF29]; exact hD
      clear hF29 ih29
      subst hTT29
      refine W.widen (k := 0) (n := 0) (by omega) (by omega) ?_
      have hP9 : va_P D vwCl (sg_St cI cZ a (sg_reserveFor P xo) q) H := by exact hP
      have hD9 : va_D A (sg_St cI cZ a (sg_reserveFor P xo) q) := by exact hD
      exact W.vret hx hb hr (fun t ht hW => ⟨⟨(), rfl, trivial, by rw [ht]; exact hP9, hD9⟩, hS.F ht⟩) hS.2.2 dX6_reserveFor_115
    · refine lv_aload_n hx hb dX6_reserveFor_47 rfl (lv_at hl 2 rfl) ?_
      refine va_get (D := D) (ci := 6) (v := .ref (a 4)) (C := RX6) (T := TX6) (N := 9) hx hb hts in6 hown hK hP 0 rfl rfl 4 (by decide) (hts (.fieldLink RX6 35 "Granary$Stock" "lots" "LGranary$Lots;") (by decide +kernel)) (fun _ h9 => h9) rfl dX6_reserveFor_48 ?_
      refine lv_aload_n hx hb dX6_reserveFor_51 rfl (lv_at hl 2 rfl) ?_
      refine va_get (D := D) (ci := 6) (v := .ref (a 5)) (C := RX6) (T := TX6) (N := 9) hx hb hts in6 hown hK hP 0 rfl rfl 5 (by decide) (hts (.fieldLink RX6 42 "Granary$Stock" "orders" "LGranary$Orders;") (by decide +kernel)) (fun _ h9 => h9) rfl dX6_reserveFor_52 ?_
      refine va_get (D := D) (ci := 2) (v := .ref (a 50)) (C := RX2) (T := TX2) (N := 11) hx hb hts in2 hown hK hP 5 rfl rfl 1 (by decide) (hts (.fieldLink RX6 167 "Granary$Orders" "item" "[I") (by decide +kernel)) (fun _ h9 => h9) rfl dX6_reserveFor_55 ?_
      refine lv_iload_n hx hb dX6_reserveFor_58 rfl (lv_at hl 3 rfl) ?_
      refine sg_iald hx hb hK hP 23 0 rfl rfl (j := xo) rfl (by omega) (Nat.le_of_ble_eq_true rfl) dX6_reserveFor_59 ?_
      refine lv_toi (y := P29 50 xo) rfl ?_
      refine lv_aload_n hx hb dX6_reserveFor_60 rfl (lv_at hl 2 rfl) ?_
      refine va_get (D := D) (ci := 6) (v := .ref (a 5)) (C := RX6) (T := TX6) (N := 9) hx hb hts in6 hown hK hP 0 rfl rfl 5 (by decide) (hts (.fieldLink RX6 42 "Granary$Stock" "orders" "LGranary$Orders;") (by decide +kernel)) (fun _ h9 => h9) rfl dX6_reserveFor_61 ?_
      refine va_get (D := D) (ci := 2) (v := .ref (a 51)) (C := RX2) (T := TX2) (N := 11) hx hb hts in2 hown hK hP 5 rfl rfl 2 (by decide) (hts (.fieldLink RX6 170 "Granary$Orders" "site" "[I") (by decide +kernel)) (fun _ h9 => h9) rfl dX6_reserveFor_64 ?_
      refine lv_iload_n hx hb dX6_reserveFor_67 rfl (lv_at hl 3 rfl) ?_
      refine sg_iald hx hb hK hP 24 0 rfl rfl (j := xo) rfl (by omega) (Nat.le_of_ble_eq_true rfl) dX6_reserveFor_68 ?_
      refine lv_toi (y := P29 51 xo) rfl ?_
      refine lv_iload_n hx hb dX6_reserveFor_69 rfl (lv_at hl 1 rfl) ?_
      have hPc := hP.sub (ws' := [(a 4, .inr (1, [.int (P29 0 3), .ref (a 40), .ref (a 41), .ref (a 42), .ref (a 43), .ref (a 44)])), (a 40, .inl (cI, 200, .inl (P29 40))), (a 41, .inl (cI, 200, .inl (P29 41))), (a 42, .inl (cI, 200, .inl (P29 42))), (a 43, .inl (cI, 200, .inl (P29 43))), (a 44, .inl (cI, 200, .inl (P29 44)))]) [4, 18, 19, 20, 21, 22] rfl
      have hDc := hD.sub (ws' := [(a 4, .inr (1, [.int (P29 0 3), .ref (a 40), .ref (a 41), .ref (a 42), .ref (a 43), .ref (a 44)])), (a 40, .inl (cI, 200, .inl (P29 40))), (a 41, .inl (cI, 200, .inl (P29 41))), (a 42, .inl (cI, 200, .inl (P29 42))), (a 43, .inl (cI, 200, .inl (P29 43))), (a 44, .inl (cI, 200, .inl (P29 44)))]) [4, 18, 19, 20, 21, 22] (by decide) rfl
      refine vp_callSi (W.runV (As := [.int (P29 50 xo), .int (P29 51 xo), .int ((if (P 54 xo) < (P 0 0) then (P 0 0) else (P 54 xo)) + (P 56 xo))]) (rest := []) ⟨hx, hb, hml, hown, hts⟩ (c_firstFree l D cI cZ cJ lo H.size a P29 (P29 50 xo) (P29 51 xo) ((if (P 54 xo) < (P 0 0) then (P 0 0) else (P 54 xo)) + (P 56 xo)) hw29) (cwV 3 hts gX6_reserveFor_X1_firstFree rfl rfl rfl (by decide +kernel) ⟨(Nat.le_of_ble_eq_true rfl), (Nat.le_of_ble_eq_true rfl)⟩) ⟨Pre.blind, va_recv hK hP (ci := 1) (q0 := 4) rfl rfl, Pre.mk hPc (hDc.weaken (fun _ _ _ h => hAlo _ h)) hC hS hAlo⟩ rfl rfl hl.1 rfl (lv_room (Nat.le_of_ble_eq_true rfl)) dX6_reserveFor_70 ⟨(Nat.le_of_ble_eq_true rfl), (Nat.le_of_ble_eq_true rfl)⟩) (fun r_6 e_7 => ?_)
      clear hPc hDc
      have e_7 : sg_firstFree P29 (P29 50 xo) (P29 51 xo) ((if (P 54 xo) < (P 0 0) then (P 0 0) else (P 54 xo)) + (P 56 xo)) = r_6 := Eq.symm e_7
      subst e_7
      refine lv_istore (lv' := [(4, .int (sg_firstFree P29 (P29 50 xo) (P29 51 xo) ((if (P 54 xo) < (P 0 0) then (P 0 0) else (P 54 xo)) + (P 56 xo)))), (3, .int (nI j29)), (2, .int ((if (P 54 xo) < (P 0 0) then (P 0 0) else (P 54 xo)) + (P 56 xo))), (0, .ref (a 0)), (1, .int (nI xo))]) hx hb dX6_reserveFor_73 hl (by decide) rfl (fun ls hl => ?_)
      refine lv_iload hx hb dX6_reserveFor_75 (lv_at hl 0 rfl) ?_
      refine lv_iconst (v := (-1)) hx hb dX6_reserveFor_77 (by decide) ?_
      refine lv_icmp_ne (tgt := 82) hx hb dX6_reserveFor_78 (by decide) (fun c_8 => ?_) (fun c_8 => ?_)
      · obtain ⟨e_9, le_9⟩ := sg_ff hw29 c_8
        have e_9 : (sg_firstFree P29 (P29 50 xo) (P29 51 xo) ((if (P 54 xo) < (P 0 0) then (P 0 0) else (P 54 xo)) + (P 56 xo)) : Int32) = nI (Int32.toNatClampNeg (sg_firstFree P29 (P29 50 xo) (P29 51 xo) ((if (P 54 xo) < (P 0 0) then (P 0 0) else (P 54 xo)) + (P 56 xo)))) := e_9
        have le_9 : Int32.toNatClampNeg (sg_firstFree P29 (P29 50 xo) (P29 51 xo) ((if (P 54 xo) < (P 0 0) then (P 0 0) else (P 54 xo)) + (P 56 xo))) < sg_cn P29 3 := le_9
        replace hl : lv_has ls 5 [(4, .int (nI (Int32.toNatClampNeg (sg_firstFree P29 (P29 50 xo) (P29 51 xo) ((if (P 54 xo) < (P 0 0) then (P 0 0) else (P 54 xo)) + (P 56 xo)))))), (3, .int (nI j29)), (2, .int ((if (P 54 xo) < (P 0 0) then (P 0 0) else (P 54 xo)) + (P 56 xo))), (0, .ref (a 0)), (1, .int (nI xo))] := by rw [← e_9]; exact hl
        have hn29_3 : sg_cn P29 3 ≤ 200 := hw29.n3
        refine lv_aload_n hx hb dX6_reserveFor_82 rfl (lv_at hl 3 rfl) ?_
        refine lv_iload_n hx hb dX6_reserveFor_83 rfl (lv_at hl 4 rfl) ?_
        refine lv_iload hx hb dX6_reserveFor_84 (lv_at hl 0 rfl) ?_
        refine lv_aload_n hx hb dX6_reserveFor_86 rfl (lv_at hl 3 rfl) ?_
        refine va_get (D := D) (ci := 6) (v := .ref (a 5)) (C := RX6) (T := TX6) (N := 9) hx hb hts in6 hown hK hP 0 rfl rfl 5 (by decide) (hts (.fieldLink RX6 42 "Granary$Stock" "orders" "LGranary$Orders;") (by decide +kernel)) (fun _ h9 => h9) rfl dX6_reserveFor_87 ?_
        refine lv_iload_n hx hb dX6_reserveFor_90 rfl (lv_at hl 4 rfl) ?_
        have hPc := hP.sub (ws' := [(a 5, .inr (2, [.int (P29 0 4), .ref (a 50), .ref (a 51), .ref (a 52), .ref (a 53), .ref (a 54), .ref (a 55), .ref (a 56), .ref (a 57), .ref (a 58), .ref (a 59)])), (a 52, .inl (cI, 60, .inl (P29 52))), (a 53, .inl (cI, 60, .inl (P29 53)))]) [5, 25, 26] rfl
        have hDc := hD.sub (ws' := [(a 5, .inr (2, [.int (P29 0 4), .ref (a 50), .ref (a 51), .ref (a 52), .ref (a 53), .ref (a 54), .ref (a 55), .ref (a 56), .ref (a 57), .ref (a 58), .ref (a 59)])), (a 52, .inl (cI, 60, .inl (P29 52))), (a 53, .inl (cI, 60, .inl (P29 53)))]) [5, 25, 26] (by decide) rfl
        refine vp_callSi (W.runV (As := [.int (nI xo)]) (rest := [.int (nI (Int32.toNatClampNeg (sg_firstFree P29 (P29 50 xo) (P29 51 xo) ((if (P 54 xo) < (P 0 0) then (P 0 0) else (P 54 xo)) + (P 56 xo))))), .int (nI xo), .ref (a 0)]) ⟨hx, hb, hml, hown, hts⟩ (c_missing l D cI cZ cJ lo H.size a P29 xo (by omega)) (cwV 1 hts gX6_reserveFor_X2_missing rfl rfl rfl (by decide +kernel) ⟨(Nat.le_of_ble_eq_true rfl), (Nat.le_of_ble_eq_true rfl)⟩) ⟨Pre.blind, va_recv hK hP (ci := 2) (q0 := 5) rfl rfl, Pre.mk hPc (hDc.weaken (fun _ _ _ h => hAlo _ h)) hC hS hAlo⟩ rfl rfl hl.1 rfl (lv_room (Nat.le_of_ble_eq_true rfl)) dX6_reserveFor_91 ⟨(Nat.le_of_ble_eq_true rfl), (Nat.le_of_ble_eq_true rfl)⟩) (fun r_10 e_11 => ?_)
        clear hPc hDc
        have e_11 : sg_missing P29 xo = r_10 := Eq.symm e_11
        subst e_11
        refine lv_aload_n hx hb dX6_reserveFor_94 rfl (lv_at hl 3 rfl) ?_
        refine va_get (D := D) (ci := 6) (v := .ref (a 4)) (C := RX6) (T := TX6) (N := 9) hx hb hts in6 hown hK hP 0 rfl rfl 4 (by decide) (hts (.fieldLink RX6 35 "Granary$Stock" "lots" "LGranary$Lots;") (by decide +kernel)) (fun _ h9 => h9) rfl dX6_reserveFor_95 ?_
        refine lv_iload hx hb dX6_reserveFor_98 (lv_at hl 0 rfl) ?_
        have hPc := hP.sub (ws' := [(a 4, .inr (1, [.int (P29 0 3), .ref (a 40), .ref (a 41), .ref (a 42), .ref (a 43), .ref (a 44)])), (a 42, .inl (cI, 200, .inl (P29 42))), (a 43, .inl (cI, 200, .inl (P29 43)))]) [4, 20, 21] rfl
        have hDc := hD.sub (ws' := [(a 4, .inr (1, [.int (P29 0 3), .ref (a 40), .ref (a 41), .ref (a 42), .ref (a 43), .ref (a 44)])), (a 42, .inl (cI, 200, .inl (P29 42))), (a 43, .inl (cI, 200, .inl (P29 43)))]) [4, 20, 21] (by decide) rfl
        refine vp_callSi (W.runV (As := [.int (nI (Int32.toNatClampNeg (sg_firstFree P29 (P29 50 xo) (P29 51 xo) ((if (P 54 xo) < (P 0 0) then (P 0 0) else (P 54 xo)) + (P 56 xo)))))]) (rest := [.int (sg_missing P29 xo), .int (nI (Int32.toNatClampNeg (sg_firstFree P29 (P29 50 xo) (P29 51 xo) ((if (P 54 xo) < (P 0 0) then (P 0 0) else (P 54 xo)) + (P 56 xo))))), .int (nI xo), .ref (a 0)]) ⟨hx, hb, hml, hown, hts⟩ (c_freeOf l D cI cZ cJ lo H.size a P29 (Int32.toNatClampNeg (sg_firstFree P29 (P29 50 xo) (P29 51 xo) ((if (P 54 xo) < (P 0 0) then (P 0 0) else (P 54 xo)) + (P 56 xo)))) (by omega)) (cwV 1 hts gX6_reserveFor_X1_freeOf rfl rfl rfl (by decide +kernel) ⟨(Nat.le_of_ble_eq_true rfl), (Nat.le_of_ble_eq_true rfl)⟩) ⟨Pre.blind, va_recv hK hP (ci := 1) (q0 := 4) rfl rfl, Pre.mk hPc (hDc.weaken (fun _ _ _ h => hAlo _ h)) hC hS hAlo⟩ rfl rfl hl.1 rfl (lv_room (Nat.le_of_ble_eq_true rfl)) dX6_reserveFor_100 ⟨(Nat.le_of_ble_eq_true rfl), (Nat.le_of_ble_eq_true rfl)⟩) (fun r_12 e_13 => ?_)
        clear hPc hDc
        have e_13 : sg_freeOf P29 (Int32.toNatClampNeg (sg_firstFree P29 (P29 50 xo) (P29 51 xo) ((if (P 54 xo) < (P 0 0) then (P 0 0) else (P 54 xo)) + (P 56 xo)))) = r_12 := Eq.symm e_13
        subst e_13
        refine va_mmin hx hb (hml.trans hl.1.symm) hown (hts (.methodLink RX6 134 Lib.Math.min.name) (by decide +kernel)) (hts (.static Lib.Math.min.name) (by decide +kernel)) (hts (.initialized "java/lang/Math") (by decide +kernel)) (hts (.code Lib.Math.min.name Lib.Math.min.code 2 (some .int)) (by decide +kernel)) (Nat.le_of_ble_eq_true rfl) (Nat.le_of_ble_eq_true rfl) (Nat.le_of_ble_eq_true rfl) (Nat.le_of_ble_eq_true rfl) dX6_reserveFor_103 ?_
        have hPc : va_P D vwCl (sg_St cI cZ a P29 q) H := hP
        have hDc : va_D A (sg_St cI cZ a P29 q) := hD
        have hFc := va_free (wc := (sg_St cI cZ a P29 q)) hD hS hA [0, 1, 2, 3, 4, 5, 6, 7, 8, 9, 10, 11, 12, 13, 14, 15, 16, 17, 18, 19, 20, 21, 22, 23, 24, 25, 26, 27, 28, 29, 30, 31, 32, 33, 34, 35, 36, 37, 38, 39, 40] rfl
        refine va_callv (va_runV (As := [.int (nI xo), .int (nI (Int32.toNatClampNeg (sg_firstFree P29 (P29 50 xo) (P29 51 xo) ((if (P 54 xo) < (P 0 0) then (P 0 0) else (P 54 xo)) + (P 56 xo))))), .int (if (sg_freeOf P29 (Int32.toNatClampNeg (sg_firstFree P29 (P29 50 xo) (P29 51 xo) ((if (P 54 xo) < (P 0 0) then (P 0 0) else (P 54 xo)) + (P 56 xo))))) < (sg_missing P29 xo) then (sg_freeOf P29 (Int32.toNatClampNeg (sg_firstFree P29 (P29 50 xo) (P29 51 xo) ((if (P 54 xo) < (P 0 0) then (P 0 0) else (P 54 xo)) + (P 56 xo))))) else (sg_missing P29 xo))]) (rest := []) ⟨hx, hb, hml, hown, hts⟩ (c_hold l D cI cZ cJ lo H.size a P29 q xo (Int32.toNatClampNeg (sg_firstFree P29 (P29 50 xo) (P29 51 xo) ((if (P 54 xo) < (P 0 0) then (P 0 0) else (P 54 xo)) + (P 56 xo)))) (if (sg_freeOf P29 (Int32.toNatClampNeg (sg_firstFree P29 (P29 50 xo) (P29 51 xo) ((if (P 54 xo) < (P 0 0) then (P 0 0) else (P 54 xo)) + (P 56 xo))))) < (sg_missing P29 xo) then (sg_freeOf P29 (Int32.toNatClampNeg (sg_firstFree P29 (P29 50 xo) (P29 51 xo) ((if (P 54 xo) < (P 0 0) then (P 0 0) else (P 54 xo)) + (P 56 xo))))) else (sg_missing P29 xo)) (by omega) (by omega)) (cwV 3 hts gX6_reserveFor_X6_hold rfl rfl rfl (by decide +kernel) ⟨(Nat.le_of_ble_eq_true rfl), (Nat.le_of_ble_eq_true rfl)⟩) ⟨Pre.blind, va_recv hK hP (ci := 6) (q0 := 0) rfl rfl, Pre.mk hPc (hDc.weaken (fun _ _ _ h => hAlo _ h)) hC hS hAlo⟩ rfl rfl hl.1 rfl (lv_room (Nat.le_of_ble_eq_true rfl)) dX6_reserveFor_106 ⟨(Nat.le_of_ble_eq_true rfl), (Nat.le_of_ble_eq_true rfl)⟩) hS (fun q _ h => hFc q h) hFc (fun u t H1 locs1 ht hvm e_14 hB hz1 hk1 hS1 => ?_)
        have hS := hS1
        obtain ⟨hP1, hD1⟩ := hB
        rw [ht] at hP1
        obtain ⟨hP, hD⟩ := va_join (wr := []) (w1 := (sg_St cI cZ a (sg_hold P29 xo (Int32.toNatClampNeg (sg_firstFree P29 (P29 50 xo) (P29 51 xo) ((if (P 54 xo) < (P 0 0) then (P 0 0) else (P 54 xo)) + (P 56 xo)))) (if (sg_freeOf P29 (Int32.toNatClampNeg (sg_firstFree P29 (P29 50 xo) (P29 51 xo) ((if (P 54 xo) < (P 0 0) then (P 0 0) else (P 54 xo)) + (P 56 xo))))) < (sg_missing P29 xo) then (sg_freeOf P29 (Int32.toNatClampNeg (sg_firstFree P29 (P29 50 xo) (P29 51 xo) ((if (P 54 xo) < (P 0 0) then (P 0 0) else (P 54 xo)) + (P 56 xo))))) else (sg_missing P29 xo))) q)) hP hD [0, 1, 2, 3, 4, 5, 6, 7, 8, 9, 10, 11, 12, 13, 14, 15, 16, 17, 18, 19, 20, 21, 22, 23, 24, 25, 26, 27, 28, 29, 30, 31, 32, 33, 34, 35, 36, 37, 38, 39, 40] [] rfl rfl (by decide) (by decide) hk1 hFc hP1 hD1
        have e_14 : True := e_14
        clear hFc hPc hDc ht hvm hz1 hk1 hS1 hP1 hD1
        generalize H1 = H at hP hS ⊢
        replace hP : va_P D vwCl (sg_St cI cZ a (sg_hold P29 xo (Int32.toNatClampNeg (sg_firstFree P29 (P29 50 xo) (P29 51 xo) ((if (P 54 xo) < (P 0 0) then (P 0 0) else (P 54 xo)) + (P 56 xo)))) (if (sg_freeOf P29 (Int32.toNatClampNeg (sg_firstFree P29 (P29 50 xo) (P29 51 xo) ((if (P 54 xo) < (P 0 0) then (P 0 0) else (P 54 xo)) + (P 56 xo))))) < (sg_missing P29 xo) then (sg_freeOf P29 (Int32.toNatClampNeg (sg_firstFree P29 (P29 50 xo) (P29 51 xo) ((if (P 54 xo) < (P 0 0) then (P 0 0) else (P 54 xo)) + (P 56 xo))))) else (sg_missing P29 xo))) q) H := hP
        replace hD : va_D A (sg_St cI cZ a (sg_hold P29 xo (Int32.toNatClampNeg (sg_firstFree P29 (P29 50 xo) (P29 51 xo) ((if (P 54 xo) < (P 0 0) then (P 0 0) else (P 54 xo)) + (P 56 xo)))) (if (sg_freeOf P29 (Int32.toNatClampNeg (sg_firstFree P29 (P29 50 xo) (P29 51 xo) ((if (P 54 xo) < (P 0 0) then (P 0 0) else (P 54 xo)) + (P 56 xo))))) < (sg_missing P29 xo) then (sg_freeOf P29 (Int32.toNatClampNeg (sg_firstFree P29 (P29 50 xo) (P29 51 xo) ((if (P 54 xo) < (P 0 0) then (P 0 0) else (P 54 xo)) + (P 56 xo))))) else (sg_missing P29 xo))) q) := hD
        refine lv_iinc (v := nI (j29 + 1)) (lv' := [(3, .int (nI (j29 + 1))), (4, .int (nI (Int32.toNatClampNeg (sg_firstFree P29 (P29 50 xo) (P29 51 xo) ((if (P 54 xo) < (P 0 0) then (P 0 0) else (P 54 xo)) + (P 56 xo)))))), (2, .int ((if (P 54 xo) < (P 0 0) then (P 0 0) else (P 54 xo)) + (P 56 xo))), (0, .ref (a 0)), (1, .int (nI xo))]) hx hb dX6_reserveFor_109 hl (k := 1) rfl (nI_1 j29) (by decide) rfl (fun ls hl => ?_)
        refine lv_goto (tgt := 29) hx hb dX6_reserveFor_112 (by decide) ?_
        exact ih29 (j29 + 1) (sg_hold P29 xo (Int32.toNatClampNeg (sg_firstFree P29 (P29 50 xo) (P29 51 xo) ((if (P 54 xo) < (P 0 0) then (P 0 0) else (P 54 xo)) + (P 56 xo)))) (if (sg_freeOf P29 (Int32.toNatClampNeg (sg_firstFree P29 (P29 50 xo) (P29 51 xo) ((if (P 54 xo) < (P 0 0) then (P 0 0) else (P 54 xo)) + (P 56 xo))))) < (sg_missing P29 xo) then (sg_freeOf P29 (Int32.toNatClampNeg (sg_firstFree P29 (P29 50 xo) (P29 51 xo) ((if (P 54 xo) < (P 0 0) then (P 0 0) else (P 54 xo)) + (P 56 xo))))) else (sg_missing P29 xo))) _ _ _ (sg_hold_W hw29) (by omega) (show sg_reserveFor_29 P xo n29 (sg_hold P29 xo (Int32.toNatClampNeg (sg_firstFree P29 (P29 50 xo) (P29 51 xo) ((if (P 54 xo) < (P 0 0) then (P 0 0) else (P 54 xo)) + (P 56 xo)))) (if (sg_freeOf P29 (Int32.toNatClampNeg (sg_firstFree P29 (P29 50 xo) (P29 51 xo) ((if (P 54 xo) < (P 0 0) then (P 0 0) else (P 54 xo)) + (P 56 xo))))) < (sg_missing P29 xo) then (sg_freeOf P29 (Int32.toNatClampNeg (sg_firstFree P29 (P29 50 xo) (P29 51 xo) ((if (P 54 xo) < (P 0 0) then (P 0 0) else (P 54 xo)) + (P 56 xo))))) else (sg_missing P29 xo))) = T29 from by rw [← hF29, sg_reserveFor_29, if_neg c_5, if_neg c_8]) (lv_sub hl [0, 2, 3, 4] rfl) hS hD hP
      · rw [sg_reserveFor_29, if_neg c_5, if_pos c_8] at hF29
        replace hl : lv_has ls 5 [(2, .int ((if (P 54 xo) < (P 0 0) then (P 0 0) else (P 54 xo)) + (P 56 xo))), (0, .ref (a 0)), (1, .int (nI xo))] := by exact lv_sub hl [2, 3, 4] rfl
        replace hP : va_P D vwCl (sg_St cI cZ a T29 q) H := by rw [← hF29]; exact hP
        replace hD : va_D A (sg_St cI cZ a T29 q) := by rw [← hF29]; exact hD
        clear hF29 ih29
        subst hTT29
        refine W.widen (k := 0) (n := 0) (by omega) (by omega) ?_
        have hP9 : va_P D vwCl (sg_St cI cZ a (sg_reserveFor P xo) q) H := by exact hP
        have hD9 : va_D A (sg_St cI cZ a (sg_reserveFor P xo) q) := by exact hD
        exact W.vret hx hb hr (fun t ht hW => ⟨⟨(), rfl, trivial, by rw [ht]; exact hP9, hD9⟩, hS.F ht⟩) hS.2.2 dX6_reserveFor_81

def sg_shipOrder_2 (P : sg_Pic) (xo : Nat) : Nat → sg_Pic
  | 0 => P
  | j2 + 1 => (sg_up (sg_hold (sg_shipOrder_2 P xo j2) xo j2 (-(sg_heldOf (sg_shipOrder_2 P xo j2) xo j2))) 42 j2 (((sg_hold (sg_shipOrder_2 P xo j2) xo j2 (-(sg_heldOf (sg_shipOrder_2 P xo j2) xo j2))) 42 j2) - (sg_heldOf (sg_shipOrder_2 P xo j2) xo j2)))
theorem sg_shipOrder_2_K (P : sg_Pic) (xo : Nat) : ∀ j : Nat, sg_K (sg_shipOrder_2 P xo j) P
  | 0 => by exact ⟨rfl, rfl⟩
  | j + 1 => by
    have h := sg_shipOrder_2_K P xo j
    rw [sg_shipOrder_2]
    repeat' split
    all_goals first | exact h | (refine sg_K.trans ?_ h; exact ⟨rfl, rfl⟩)

def sg_shipOrder (P : sg_Pic) (xo : Nat) : sg_Pic := (if (sg_X0_has (sg_up (sg_up (sg_up (sg_shipOrder_2 P xo (sg_cn P 3)) 57 xo 1) 58 xo ((sg_shipOrder_2 P xo (sg_cn P 3)) 0 0)) 70 4 (((sg_shipOrder_2 P xo (sg_cn P 3)) 70 4) + ((((sg_shipOrder_2 P xo (sg_cn P 3)) 52 xo) * 2) * (sg_priceOf (sg_up (sg_up (sg_shipOrder_2 P xo (sg_cn P 3)) 57 xo 1) 58 xo ((sg_shipOrder_2 P xo (sg_cn P 3)) 0 0)) ((sg_shipOrder_2 P xo (sg_cn P 3)) 50 xo))))) ((sg_shipOrder_2 P xo (sg_cn P 3)) 50 xo)) = 0 then (sg_up (sg_up (sg_up (sg_shipOrder_2 P xo (sg_cn P 3)) 57 xo 1) 58 xo ((sg_shipOrder_2 P xo (sg_cn P 3)) 0 0)) 70 4 (((sg_shipOrder_2 P xo (sg_cn P 3)) 70 4) + ((((sg_shipOrder_2 P xo (sg_cn P 3)) 52 xo) * 2) * (sg_priceOf (sg_up (sg_up (sg_shipOrder_2 P xo (sg_cn P 3)) 57 xo 1) 58 xo ((sg_shipOrder_2 P xo (sg_cn P 3)) 0 0)) ((sg_shipOrder_2 P xo (sg_cn P 3)) 50 xo))))) else (sg_up (sg_up (sg_up (sg_up (sg_shipOrder_2 P xo (sg_cn P 3)) 57 xo 1) 58 xo ((sg_shipOrder_2 P xo (sg_cn P 3)) 0 0)) 70 4 (((sg_shipOrder_2 P xo (sg_cn P 3)) 70 4) + ((((sg_shipOrder_2 P xo (sg_cn P 3)) 52 xo) * 2) * (sg_priceOf (sg_up (sg_up (sg_shipOrder_2 P xo (sg_cn P 3)) 57 xo 1) 58 xo ((sg_shipOrder_2 P xo (sg_cn P 3)) 0 0)) ((sg_shipOrder_2 P xo (sg_cn P 3)) 50 xo))))) 13 (Int32.toNatClampNeg ((sg_shipOrder_2 P xo (sg_cn P 3)) 50 xo)) (((sg_shipOrder_2 P xo (sg_cn P 3)) 13 (Int32.toNatClampNeg ((sg_shipOrder_2 P xo (sg_cn P 3)) 50 xo))) + ((((sg_shipOrder_2 P xo (sg_cn P 3)) 52 xo) * 2) * (sg_priceOf (sg_up (sg_up (sg_shipOrder_2 P xo (sg_cn P 3)) 57 xo 1) 58 xo ((sg_shipOrder_2 P xo (sg_cn P 3)) 0 0)) ((sg_shipOrder_2 P xo (sg_cn P 3)) 50 xo))))))

theorem sg_shipOrder_K (P : sg_Pic) (xo : Nat) : sg_K (sg_shipOrder P xo) P := by
  unfold sg_shipOrder
  repeat' split
  all_goals first | exact ⟨rfl, rfl⟩ | exact ⟨(sg_shipOrder_2_K _ _ _).1, (sg_shipOrder_2_K _ _ _).2⟩
theorem sg_shipOrder_W {P : sg_Pic} {xo : Nat} (hw : sg_W P) : sg_W (sg_shipOrder P xo) := (sg_shipOrder_K P xo).W hw

set_option maxHeartbeats 4000000 in
set_option maxRecDepth 100000 in
/-- X6_shipOrder -/
theorem c_shipOrder (l : Launch) (D : va_G) (cI cZ cJ : ClassId) (lo sz : Nat) (a : Nat → Nat) (P : sg_Pic) (q : Nat → Int32) (xo : Nat) (hw : sg_W P) (ho : xo < 60) : Met l yX6_shipOrder wsX6_shipOrder ({ frames := 2, cells := 0, slots := 0, locals := 42 }) (Pre lo D cI cZ cJ [.ref (a 0), .int (nI xo)] sz (sg_St cI cZ a P q)) (va_Qv (fun _ : Unit => True) (fun _ t => va_P D vwCl (sg_St cI cZ a (sg_shipOrder P xo) q) t.heap ∧ va_D (va_A (sg_St cI cZ a P q) sz) (sg_St cI cZ a (sg_shipOrder P xo) q)) (va_A (sg_St cI cZ a P q) sz)) 0 0 (va_A (sg_St cI cZ a P q) sz) := by
  refine Met.ofW (cc := cX6_shipOrder) (maxL := 4) (ret := none) (by decide) rfl ?_
  intro p e s m args below meth c s₁ B hml hv
  obtain ⟨rfl, hsz, hP, hD0, hC⟩ := hv
  have hx := B.exec
  have hb := B.bytes
  have hr := B.returns
  have hts := atoms_spec (ws := wsX6_shipOrder) B.pre
  have hown : s.vm.findClass RX6 = some m.cls := findClass_of_methodNamed B.named
  have hlocks := B.notSynchronized
  subst hsz
  have hn1 : sg_cn P 1 ≤ 6 := hw.n1
  have hn2 : sg_cn P 2 ≤ 5 := hw.n2
  have hn3 : sg_cn P 3 ≤ 200 := hw.n3
  have hn4 : sg_cn P 4 ≤ 60 := hw.n4
  have hn5 : sg_cn P 5 ≤ 90 := hw.n5
  have hK := hC.K
  have hD := hD0.self (sz := s.heap.size)
  have hAlo0 := va_A_lo hD0 hC.1
  generalize hAe : va_A (sg_St cI cZ a P q) s.heap.size = A at hD hAlo0 ⊢
  have hA : ∀ q : Nat, s.heap.size ≤ q → A q := fun q h => by rw [← hAe]; exact Or.inr h
  have hAlo : ∀ q, A q → lo ≤ q := hAlo0
  have hS : va_S A s.heap s.heap [] := va_S.rf
  have hP : va_P D vwCl (sg_St cI cZ a P q) s.heap := hP
  have hl := lv_entry ([.ref (a 0), .int (nI xo)]) (n := 4) (Nat.le_of_ble_eq_true rfl)
  rw [lg_entry_eq]
  generalize (lg_sl ([.ref (a 0), .int (nI xo)]) ++ List.replicate (4 - (lg_sl ([.ref (a 0), .int (nI xo)])).length) Slot.unset).toArray = ls at hl ⊢
  have hl : lv_has ls 4 [(0, .ref (a 0)), (1, .int (nI xo))] := hl
  have in0 : ∀ w ∈ u_ws RX0 TX0 5, w ∈ wsX6_shipOrder := by decide +kernel
  have in1 : ∀ w ∈ u_ws RX1 TX1 6, w ∈ wsX6_shipOrder := by decide +kernel
  have in2 : ∀ w ∈ u_ws RX2 TX2 11, w ∈ wsX6_shipOrder := by decide +kernel
  have in6 : ∀ w ∈ u_ws RX6 TX6 9, w ∈ wsX6_shipOrder := by decide +kernel
  refine lv_iconst (v := 0) hx hb dX6_shipOrder_0 (by decide) ?_
  refine lv_istore_n (lv' := [(2, .int 0), (0, .ref (a 0)), (1, .int (nI xo))]) hx hb dX6_shipOrder_1 rfl hl (by decide) rfl (fun ls hl => ?_)
  obtain ⟨H, hH9⟩ : ∃ z : Heap, z = s.heap := ⟨_, rfl⟩
  replace hS : va_S A s.heap H [] := by rw [hH9]; exact va_S.rf
  replace hP : va_P D vwCl (sg_St cI cZ a P q) H := by rw [hH9]; exact hP
  rw [← hH9]
  clear hH9
  generalize ([] : List Loc) = locs at hS ⊢
  obtain ⟨j2, h0j2⟩ : ∃ j : Nat, j = 0 := ⟨_, rfl⟩
  obtain ⟨P2, hP2⟩ : ∃ z9 : sg_Pic, z9 = sg_shipOrder_2 P xo j2 := ⟨_, rfl⟩
  replace hl : lv_has ls 4 [(2, .int (nI j2)), (0, .ref (a 0)), (1, .int (nI xo))] := by rw [h0j2]; exact hl
  replace hP : va_P D vwCl (sg_St cI cZ a P2 q) H := by rw [hP2, h0j2]; exact hP
  replace hD : va_D A (sg_St cI cZ a P2 q) := by rw [hP2, h0j2]; exact hD
  have hjj2 : j2 ≤ sg_cn P 3 := by omega
  clear h0j2
  obtain ⟨n2, hn2⟩ : ∃ n : Nat, sg_cn P 3 < j2 + n := ⟨sg_cn P 3 + 1, by omega⟩
  revert hP
  revert hD
  revert hS
  revert hl
  revert hn2
  revert hjj2
  revert hP2
  revert ls
  revert locs
  revert H
  revert P2
  revert j2
  induction n2 with
  | zero =>
    intro j2 P2 H locs ls hP2 hjj2 hn2 hl hS hD hP
    exact absurd hn2 (by omega)
  | succ n2 ih2 =>
    intro j2 P2 H locs ls hP2 hjj2 hn2 hl hS hD hP
    refine lv_iload_n hx hb dX6_shipOrder_2 rfl (lv_at hl 0 rfl) ?_
    refine lv_aload_n hx hb dX6_shipOrder_3 rfl (lv_at hl 1 rfl) ?_
    refine va_get (D := D) (ci := 6) (v := .ref (a 4)) (C := RX6) (T := TX6) (N := 9) hx hb hts in6 hown hK hP 0 rfl rfl 4 (by decide) (hts (.fieldLink RX6 35 "Granary$Stock" "lots" "LGranary$Lots;") (by decide +kernel)) (fun _ h9 => h9) rfl dX6_shipOrder_4 ?_
    refine va_get (D := D) (ci := 1) (v := .int (P2 0 3)) (C := RX1) (T := TX1) (N := 6) hx hb hts in1 hown hK hP 4 rfl rfl 0 (by decide) (hts (.fieldLink RX6 148 "Granary$Lots" "count" "I") (by decide +kernel)) (fun _ h9 => h9) rfl dX6_shipOrder_7 ?_
    have hkP2 : sg_K P2 P := by rw [hP2]; exact sg_shipOrder_2_K P xo j2
    have hB2 : ((P2 0 3) : Int32) = nI (sg_cn P 3) := ((hkP2.e 3).trans hw.e3)
    refine lv_icmp_ge (tgt := 50) hx hb dX6_shipOrder_10 (by decide) (fun c_1 => ?_) (fun c_1 => ?_)
    · have hE2 : sg_cn P 3 = j2 := (sg_eq hB2 c_1 hjj2 (by omega)).symm
      clear ih2 hn2
      subst hE2
      subst hP2
      refine lv_aload_n hx hb dX6_shipOrder_50 rfl (lv_at hl 1 rfl) ?_
      refine va_get (D := D) (ci := 6) (v := .ref (a 5)) (C := RX6) (T := TX6) (N := 9) hx hb hts in6 hown hK hP 0 rfl rfl 5 (by decide) (hts (.fieldLink RX6 42 "Granary$Stock" "orders" "LGranary$Orders;") (by decide +kernel)) (fun _ h9 => h9) rfl dX6_shipOrder_51 ?_
      refine va_get (D := D) (ci := 2) (v := .ref (a 57)) (C := RX2) (T := TX2) (N := 11) hx hb hts in2 hown hK hP 5 rfl rfl 8 (by decide) (hts (.fieldLink RX6 189 "Granary$Orders" "state" "[I") (by decide +kernel)) (fun _ h9 => h9) rfl dX6_shipOrder_54 ?_
      refine lv_iload_n hx hb dX6_shipOrder_57 rfl (lv_at hl 2 rfl) ?_
      refine lv_iconst (v := 1) hx hb dX6_shipOrder_58 (by decide) ?_
      refine sg_iast hx hb hK hP hD hS 30 0 rfl rfl (j := xo) rfl (by omega) (Nat.le_of_ble_eq_true rfl) dX6_shipOrder_59 (fun H locs hP hD hS => ?_)
      replace hP : va_P D vwCl (sg_St cI cZ a (sg_up (sg_shipOrder_2 P xo (sg_cn P 3)) 57 xo 1) q) H := hP
      replace hD : va_D A (sg_St cI cZ a (sg_up (sg_shipOrder_2 P xo (sg_cn P 3)) 57 xo 1) q) := hD
      refine lv_aload_n hx hb dX6_shipOrder_60 rfl (lv_at hl 1 rfl) ?_
      refine va_get (D := D) (ci := 6) (v := .ref (a 5)) (C := RX6) (T := TX6) (N := 9) hx hb hts in6 hown hK hP 0 rfl rfl 5 (by decide) (hts (.fieldLink RX6 42 "Granary$Stock" "orders" "LGranary$Orders;") (by decide +kernel)) (fun _ h9 => h9) rfl dX6_shipOrder_61 ?_
      refine va_get (D := D) (ci := 2) (v := .ref (a 58)) (C := RX2) (T := TX2) (N := 11) hx hb hts in2 hown hK hP 5 rfl rfl 9 (by decide) (hts (.fieldLink RX6 198 "Granary$Orders" "shipDay" "[I") (by decide +kernel)) (fun _ h9 => h9) rfl dX6_shipOrder_64 ?_
      refine lv_iload_n hx hb dX6_shipOrder_67 rfl (lv_at hl 2 rfl) ?_
      refine lv_aload_n hx hb dX6_shipOrder_68 rfl (lv_at hl 1 rfl) ?_
      refine va_get (D := D) (ci := 6) (v := .int ((sg_up (sg_shipOrder_2 P xo (sg_cn P 3)) 57 xo 1) 0 0)) (C := RX6) (T := TX6) (N := 9) hx hb hts in6 hown hK hP 0 rfl rfl 0 (by decide) (hts (.fieldLink RX6 60 "Granary$Stock" "day" "I") (by decide +kernel)) (fun _ h9 => h9) rfl dX6_shipOrder_69 ?_
      refine lv_toi (y := (sg_shipOrder_2 P xo (sg_cn P 3)) 0 0) rfl ?_
      refine sg_iast hx hb hK hP hD hS 31 0 rfl rfl (j := xo) rfl (by omega) (Nat.le_of_ble_eq_true rfl) dX6_shipOrder_72 (fun H locs hP hD hS => ?_)
      replace hP : va_P D vwCl (sg_St cI cZ a (sg_up (sg_up (sg_shipOrder_2 P xo (sg_cn P 3)) 57 xo 1) 58 xo ((sg_shipOrder_2 P xo (sg_cn P 3)) 0 0)) q) H := hP
      replace hD : va_D A (sg_St cI cZ a (sg_up (sg_up (sg_shipOrder_2 P xo (sg_cn P 3)) 57 xo 1) 58 xo ((sg_shipOrder_2 P xo (sg_cn P 3)) 0 0)) q) := hD
      refine lv_aload_n hx hb dX6_shipOrder_73 rfl (lv_at hl 1 rfl) ?_
      refine va_get (D := D) (ci := 6) (v := .ref (a 5)) (C := RX6) (T := TX6) (N := 9) hx hb hts in6 hown hK hP 0 rfl rfl 5 (by decide) (hts (.fieldLink RX6 42 "Granary$Stock" "orders" "LGranary$Orders;") (by decide +kernel)) (fun _ h9 => h9) rfl dX6_shipOrder_74 ?_
      refine va_get (D := D) (ci := 2) (v := .ref (a 50)) (C := RX2) (T := TX2) (N := 11) hx hb hts in2 hown hK hP 5 rfl rfl 1 (by decide) (hts (.fieldLink RX6 167 "Granary$Orders" "item" "[I") (by decide +kernel)) (fun _ h9 => h9) rfl dX6_shipOrder_77 ?_
      refine lv_iload_n hx hb dX6_shipOrder_80 rfl (lv_at hl 2 rfl) ?_
      refine sg_iald hx hb hK hP 23 0 rfl rfl (j := xo) rfl (by omega) (Nat.le_of_ble_eq_true rfl) dX6_shipOrder_81 ?_
      refine lv_toi (y := (sg_shipOrder_2 P xo (sg_cn P 3)) 50 xo) rfl ?_
      refine lv_istore_n (lv' := [(2, .int ((sg_shipOrder_2 P xo (sg_cn P 3)) 50 xo)), (0, .ref (a 0)), (1, .int (nI xo))]) hx hb dX6_shipOrder_82 rfl hl (by decide) rfl (fun ls hl => ?_)
      refine lv_aload_n hx hb dX6_shipOrder_83 rfl (lv_at hl 1 rfl) ?_
      refine va_get (D := D) (ci := 6) (v := .ref (a 5)) (C := RX6) (T := TX6) (N := 9) hx hb hts in6 hown hK hP 0 rfl rfl 5 (by decide) (hts (.fieldLink RX6 42 "Granary$Stock" "orders" "LGranary$Orders;") (by decide +kernel)) (fun _ h9 => h9) rfl dX6_shipOrder_84 ?_
      refine va_get (D := D) (ci := 2) (v := .ref (a 52)) (C := RX2) (T := TX2) (N := 11) hx hb hts in2 hown hK hP 5 rfl rfl 3 (by decide) (hts (.fieldLink RX6 201 "Granary$Orders" "units" "[I") (by decide +kernel)) (fun _ h9 => h9) rfl dX6_shipOrder_87 ?_
      refine lv_iload_n hx hb dX6_shipOrder_90 rfl (lv_at hl 2 rfl) ?_
      refine sg_iald hx hb hK hP 25 0 rfl rfl (j := xo) rfl (by omega) (Nat.le_of_ble_eq_true rfl) dX6_shipOrder_91 ?_
      refine lv_toi (y := (sg_shipOrder_2 P xo (sg_cn P 3)) 52 xo) rfl ?_
      refine lv_iconst (v := 2) hx hb dX6_shipOrder_92 (by decide) ?_
      refine lv_imul hx hb dX6_shipOrder_93 ?_
      refine lv_aload_n hx hb dX6_shipOrder_94 rfl (lv_at hl 1 rfl) ?_
      refine va_get (D := D) (ci := 6) (v := .ref (a 1)) (C := RX6) (T := TX6) (N := 9) hx hb hts in6 hown hK hP 0 rfl rfl 1 (by decide) (hts (.fieldLink RX6 12 "Granary$Stock" "items" "LGranary$Items;") (by decide +kernel)) (fun _ h9 => h9) rfl dX6_shipOrder_95 ?_
      refine lv_iload_n hx hb dX6_shipOrder_98 rfl (lv_at hl 0 rfl) ?_
      have hPc := hP.sub (ws' := [(a 1, .inr (0, [.int ((sg_up (sg_up (sg_shipOrder_2 P xo (sg_cn P 3)) 57 xo 1) 58 xo ((sg_shipOrder_2 P xo (sg_cn P 3)) 0 0)) 0 1), .ref (a 10), .ref (a 11), .ref (a 12), .ref (a 13)])), (a 11, .inl (cI, 6, .inl ((sg_up (sg_up (sg_shipOrder_2 P xo (sg_cn P 3)) 57 xo 1) 58 xo ((sg_shipOrder_2 P xo (sg_cn P 3)) 0 0)) 11)))]) [1, 8] rfl
      have hDc := hD.sub (ws' := [(a 1, .inr (0, [.int ((sg_up (sg_up (sg_shipOrder_2 P xo (sg_cn P 3)) 57 xo 1) 58 xo ((sg_shipOrder_2 P xo (sg_cn P 3)) 0 0)) 0 1), .ref (a 10), .ref (a 11), .ref (a 12), .ref (a 13)])), (a 11, .inl (cI, 6, .inl ((sg_up (sg_up (sg_shipOrder_2 P xo (sg_cn P 3)) 57 xo 1) 58 xo ((sg_shipOrder_2 P xo (sg_cn P 3)) 0 0)) 11)))]) [1, 8] (by decide) rfl
      refine vp_callSi (W.runV (As := [.int ((sg_shipOrder_2 P xo (sg_cn P 3)) 50 xo)]) (rest := [.int (((sg_shipOrder_2 P xo (sg_cn P 3)) 52 xo) * 2)]) ⟨hx, hb, hml, hown, hts⟩ (c_priceOf l D cI cZ cJ lo H.size a (sg_up (sg_up (sg_shipOrder_2 P xo (sg_cn P 3)) 57 xo 1) 58 xo ((sg_shipOrder_2 P xo (sg_cn P 3)) 0 0)) ((sg_shipOrder_2 P xo (sg_cn P 3)) 50 xo) (hkP2.W hw)) (cwV 1 hts gX6_shipOrder_X0_priceOf rfl rfl rfl (by decide +kernel) ⟨(Nat.le_of_ble_eq_true rfl), (Nat.le_of_ble_eq_true rfl)⟩) ⟨Pre.blind, va_recv hK hP (ci := 0) (q0 := 1) rfl rfl, Pre.mk hPc (hDc.weaken (fun _ _ _ h => hAlo _ h)) hC hS hAlo⟩ rfl rfl hl.1 rfl (lv_room (Nat.le_of_ble_eq_true rfl)) dX6_shipOrder_99 ⟨(Nat.le_of_ble_eq_true rfl), (Nat.le_of_ble_eq_true rfl)⟩) (fun r_2 e_3 => ?_)
      clear hPc hDc
      have e_3 : sg_priceOf (sg_up (sg_up (sg_shipOrder_2 P xo (sg_cn P 3)) 57 xo 1) 58 xo ((sg_shipOrder_2 P xo (sg_cn P 3)) 0 0)) ((sg_shipOrder_2 P xo (sg_cn P 3)) 50 xo) = r_2 := Eq.symm e_3
      subst e_3
      refine lv_imul hx hb dX6_shipOrder_102 ?_
      refine lv_istore_n (lv' := [(3, .int ((((sg_shipOrder_2 P xo (sg_cn P 3)) 52 xo) * 2) * (sg_priceOf (sg_up (sg_up (sg_shipOrder_2 P xo (sg_cn P 3)) 57 xo 1) 58 xo ((sg_shipOrder_2 P xo (sg_cn P 3)) 0 0)) ((sg_shipOrder_2 P xo (sg_cn P 3)) 50 xo)))), (2, .int ((sg_shipOrder_2 P xo (sg_cn P 3)) 50 xo)), (0, .ref (a 0)), (1, .int (nI xo))]) hx hb dX6_shipOrder_103 rfl hl (by decide) rfl (fun ls hl => ?_)
      refine lv_aload_n hx hb dX6_shipOrder_104 rfl (lv_at hl 2 rfl) ?_
      refine va_get (D := D) (ci := 6) (v := .ref (a 70)) (C := RX6) (T := TX6) (N := 9) hx hb hts in6 hown hK hP 0 rfl rfl 7 (by decide) (hts (.fieldLink RX6 53 "Granary$Stock" "account" "[I") (by decide +kernel)) (fun _ h9 => h9) rfl dX6_shipOrder_105 ?_
      refine lv_iconst (v := 4) hx hb dX6_shipOrder_108 (by decide) ?_
      refine lv_dup2_11 hx hb dX6_shipOrder_109 rfl rfl ?_
      refine sg_iald hx hb hK hP 39 0 rfl rfl (j := 4) (by decide) (Nat.le_of_ble_eq_true rfl) (Nat.le_of_ble_eq_true rfl) dX6_shipOrder_110 ?_
      refine lv_toi (y := (sg_shipOrder_2 P xo (sg_cn P 3)) 70 4) rfl ?_
      refine lv_iload_n hx hb dX6_shipOrder_111 rfl (lv_at hl 0 rfl) ?_
      refine lv_iadd hx hb dX6_shipOrder_112 ?_
      refine sg_iast hx hb hK hP hD hS 39 0 rfl rfl (j := 4) (by decide) (Nat.le_of_ble_eq_true rfl) (Nat.le_of_ble_eq_true rfl) dX6_shipOrder_113 (fun H locs hP hD hS => ?_)
      replace hP : va_P D vwCl (sg_St cI cZ a (sg_up (sg_up (sg_up (sg_shipOrder_2 P xo (sg_cn P 3)) 57 xo 1) 58 xo ((sg_shipOrder_2 P xo (sg_cn P 3)) 0 0)) 70 4 (((sg_shipOrder_2 P xo (sg_cn P 3)) 70 4) + ((((sg_shipOrder_2 P xo (sg_cn P 3)) 52 xo) * 2) * (sg_priceOf (sg_up (sg_up (sg_shipOrder_2 P xo (sg_cn P 3)) 57 xo 1) 58 xo ((sg_shipOrder_2 P xo (sg_cn P 3)) 0 0)) ((sg_shipOrder_2 P xo (sg_cn P 3)) 50 xo))))) q) H := hP
      replace hD : va_D A (sg_St cI cZ a (sg_up (sg_up (sg_up (sg_shipOrder_2 P xo (sg_cn P 3)) 57 xo 1) 58 xo ((sg_shipOrder_2 P xo (sg_cn P 3)) 0 0)) 70 4 (((sg_shipOrder_2 P xo (sg_cn P 3)) 70 4) + ((((sg_shipOrder_2 P xo (sg_cn P 3)) 52 xo) * 2) * (sg_priceOf (sg_up (sg_up (sg_shipOrder_2 P xo (sg_cn P 3)) 57 xo 1) 58 xo ((sg_shipOrder_2 P xo (sg_cn P 3)) 0 0)) ((sg_shipOrder_2 P xo (sg_cn P 3)) 50 xo))))) q) := hD
      refine lv_aload_n hx hb dX6_shipOrder_114 rfl (lv_at hl 2 rfl) ?_
      refine va_get (D := D) (ci := 6) (v := .ref (a 1)) (C := RX6) (T := TX6) (N := 9) hx hb hts in6 hown hK hP 0 rfl rfl 1 (by decide) (hts (.fieldLink RX6 12 "Granary$Stock" "items" "LGranary$Items;") (by decide +kernel)) (fun _ h9 => h9) rfl dX6_shipOrder_115 ?_
      refine lv_iload_n hx hb dX6_shipOrder_118 rfl (lv_at hl 1 rfl) ?_
      have hPc := hP.sub (ws' := [(a 1, .inr (0, [.int ((sg_up (sg_up (sg_up (sg_shipOrder_2 P xo (sg_cn P 3)) 57 xo 1) 58 xo ((sg_shipOrder_2 P xo (sg_cn P 3)) 0 0)) 70 4 (((sg_shipOrder_2 P xo (sg_cn P 3)) 70 4) + ((((sg_shipOrder_2 P xo (sg_cn P 3)) 52 xo) * 2) * (sg_priceOf (sg_up (sg_up (sg_shipOrder_2 P xo (sg_cn P 3)) 57 xo 1) 58 xo ((sg_shipOrder_2 P xo (sg_cn P 3)) 0 0)) ((sg_shipOrder_2 P xo (sg_cn P 3)) 50 xo))))) 0 1), .ref (a 10), .ref (a 11), .ref (a 12), .ref (a 13)]))]) [1] rfl
      have hDc := hD.sub (ws' := [(a 1, .inr (0, [.int ((sg_up (sg_up (sg_up (sg_shipOrder_2 P xo (sg_cn P 3)) 57 xo 1) 58 xo ((sg_shipOrder_2 P xo (sg_cn P 3)) 0 0)) 70 4 (((sg_shipOrder_2 P xo (sg_cn P 3)) 70 4) + ((((sg_shipOrder_2 P xo (sg_cn P 3)) 52 xo) * 2) * (sg_priceOf (sg_up (sg_up (sg_shipOrder_2 P xo (sg_cn P 3)) 57 xo 1) 58 xo ((sg_shipOrder_2 P xo (sg_cn P 3)) 0 0)) ((sg_shipOrder_2 P xo (sg_cn P 3)) 50 xo))))) 0 1), .ref (a 10), .ref (a 11), .ref (a 12), .ref (a 13)]))]) [1] (by decide) rfl
      refine vp_callSi (W.runV (As := [.int ((sg_shipOrder_2 P xo (sg_cn P 3)) 50 xo)]) (rest := []) ⟨hx, hb, hml, hown, hts⟩ (c_X0_has l D cI cZ cJ lo H.size a (sg_up (sg_up (sg_up (sg_shipOrder_2 P xo (sg_cn P 3)) 57 xo 1) 58 xo ((sg_shipOrder_2 P xo (sg_cn P 3)) 0 0)) 70 4 (((sg_shipOrder_2 P xo (sg_cn P 3)) 70 4) + ((((sg_shipOrder_2 P xo (sg_cn P 3)) 52 xo) * 2) * (sg_priceOf (sg_up (sg_up (sg_shipOrder_2 P xo (sg_cn P 3)) 57 xo 1) 58 xo ((sg_shipOrder_2 P xo (sg_cn P 3)) 0 0)) ((sg_shipOrder_2 P xo (sg_cn P 3)) 50 xo))))) ((sg_shipOrder_2 P xo (sg_cn P 3)) 50 xo)) (cwV 1 hts gX6_shipOrder_X0_has rfl rfl rfl (by decide +kernel) ⟨(Nat.le_of_ble_eq_true rfl), (Nat.le_of_ble_eq_true rfl)⟩) ⟨Pre.blind, va_recv hK hP (ci := 0) (q0 := 1) rfl rfl, Pre.mk hPc (hDc.weaken (fun _ _ _ h => hAlo _ h)) hC hS hAlo⟩ rfl rfl hl.1 rfl (lv_room (Nat.le_of_ble_eq_true rfl)) dX6_shipOrder_119 ⟨(Nat.le_of_ble_eq_true rfl), (Nat.le_of_ble_eq_true rfl)⟩) (fun r_4 e_5 => ?_)
      clear hPc hDc
      have e_5 : sg_X0_has (sg_up (sg_up (sg_up (sg_shipOrder_2 P xo (sg_cn P 3)) 57 xo 1) 58 xo ((sg_shipOrder_2 P xo (sg_cn P 3)) 0 0)) 70 4 (((sg_shipOrder_2 P xo (sg_cn P 3)) 70 4) + ((((sg_shipOrder_2 P xo (sg_cn P 3)) 52 xo) * 2) * (sg_priceOf (sg_up (sg_up (sg_shipOrder_2 P xo (sg_cn P 3)) 57 xo 1) 58 xo ((sg_shipOrder_2 P xo (sg_cn P 3)) 0 0)) ((sg_shipOrder_2 P xo (sg_cn P 3)) 50 xo))))) ((sg_shipOrder_2 P xo (sg_cn P 3)) 50 xo) = r_4 := Eq.symm e_5
      subst e_5
      refine lv_if_eq (tgt := 138) hx hb dX6_shipOrder_122 (by decide) (fun c_6 => ?_) (fun c_6 => ?_)
      · refine W.widen (k := 0) (n := 0) (by omega) (by omega) ?_
        have e9 : sg_shipOrder P xo = sg_up (sg_up (sg_up (sg_shipOrder_2 P xo (sg_cn P 3)) 57 xo 1) 58 xo ((sg_shipOrder_2 P xo (sg_cn P 3)) 0 0)) 70 4 (((sg_shipOrder_2 P xo (sg_cn P 3)) 70 4) + ((((sg_shipOrder_2 P xo (sg_cn P 3)) 52 xo) * 2) * (sg_priceOf (sg_up (sg_up (sg_shipOrder_2 P xo (sg_cn P 3)) 57 xo 1) 58 xo ((sg_shipOrder_2 P xo (sg_cn P 3)) 0 0)) ((sg_shipOrder_2 P xo (sg_cn P 3)) 50 xo)))) := by rw [sg_shipOrder, if_pos c_6]
        have hP9 : va_P D vwCl (sg_St cI cZ a (sg_shipOrder P xo) q) H := by rw [e9]; exact hP
        have hD9 : va_D A (sg_St cI cZ a (sg_shipOrder P xo) q) := by rw [e9]; exact hD
        exact W.vret hx hb hr (fun t ht hW => ⟨⟨(), rfl, trivial, by rw [ht]; exact hP9, hD9⟩, hS.F ht⟩) hS.2.2 dX6_shipOrder_138
      · obtain ⟨e_7, le_7⟩ := sg_hasI (P := sg_up (sg_up (sg_up (sg_shipOrder_2 P xo (sg_cn P 3)) 57 xo 1) 58 xo ((sg_shipOrder_2 P xo (sg_cn P 3)) 0 0)) 70 4 (((sg_shipOrder_2 P xo (sg_cn P 3)) 70 4) + ((((sg_shipOrder_2 P xo (sg_cn P 3)) 52 xo) * 2) * (sg_priceOf (sg_up (sg_up (sg_shipOrder_2 P xo (sg_cn P 3)) 57 xo 1) 58 xo ((sg_shipOrder_2 P xo (sg_cn P 3)) 0 0)) ((sg_shipOrder_2 P xo (sg_cn P 3)) 50 xo))))) (hkP2.W hw) c_6
        have le_7 : Int32.toNatClampNeg ((sg_shipOrder_2 P xo (sg_cn P 3)) 50 xo) < 6 := Nat.lt_of_lt_of_le le_7 ((hkP2.W hw)).n1
        have e_7 : ((sg_shipOrder_2 P xo (sg_cn P 3)) 50 xo : Int32) = nI (Int32.toNatClampNeg ((sg_shipOrder_2 P xo (sg_cn P 3)) 50 xo)) := e_7
        replace hl : lv_has ls 4 [(3, .int ((((sg_shipOrder_2 P xo (sg_cn P 3)) 52 xo) * 2) * (sg_priceOf (sg_up (sg_up (sg_shipOrder_2 P xo (sg_cn P 3)) 57 xo 1) 58 xo ((sg_shipOrder_2 P xo (sg_cn P 3)) 0 0)) ((sg_shipOrder_2 P xo (sg_cn P 3)) 50 xo)))), (2, .int (nI (Int32.toNatClampNeg ((sg_shipOrder_2 P xo (sg_cn P 3)) 50 xo)))), (0, .ref (a 0)), (1, .int (nI xo))] := by rw [← e_7]; exact hl
        refine lv_aload_n hx hb dX6_shipOrder_125 rfl (lv_at hl 2 rfl) ?_
        refine va_get (D := D) (ci := 6) (v := .ref (a 1)) (C := RX6) (T := TX6) (N := 9) hx hb hts in6 hown hK hP 0 rfl rfl 1 (by decide) (hts (.fieldLink RX6 12 "Granary$Stock" "items" "LGranary$Items;") (by decide +kernel)) (fun _ h9 => h9) rfl dX6_shipOrder_126 ?_
        refine va_get (D := D) (ci := 0) (v := .ref (a 13)) (C := RX0) (T := TX0) (N := 5) hx hb hts in0 hown hK hP 1 rfl rfl 4 (by decide) (hts (.fieldLink RX6 206 "Granary$Items" "earned" "[I") (by decide +kernel)) (fun _ h9 => h9) rfl dX6_shipOrder_129 ?_
        refine lv_iload_n hx hb dX6_shipOrder_132 rfl (lv_at hl 1 rfl) ?_
        refine lv_dup2_11 hx hb dX6_shipOrder_133 rfl rfl ?_
        refine sg_iald hx hb hK hP 10 0 rfl rfl (j := Int32.toNatClampNeg ((sg_shipOrder_2 P xo (sg_cn P 3)) 50 xo)) rfl (by omega) (Nat.le_of_ble_eq_true rfl) dX6_shipOrder_134 ?_
        refine lv_toi (y := (sg_shipOrder_2 P xo (sg_cn P 3)) 13 (Int32.toNatClampNeg ((sg_shipOrder_2 P xo (sg_cn P 3)) 50 xo))) rfl ?_
        refine lv_iload_n hx hb dX6_shipOrder_135 rfl (lv_at hl 0 rfl) ?_
        refine lv_iadd hx hb dX6_shipOrder_136 ?_
        refine sg_iast hx hb hK hP hD hS 10 0 rfl rfl (j := Int32.toNatClampNeg ((sg_shipOrder_2 P xo (sg_cn P 3)) 50 xo)) rfl (by omega) (Nat.le_of_ble_eq_true rfl) dX6_shipOrder_137 (fun H locs hP hD hS => ?_)
        replace hP : va_P D vwCl (sg_St cI cZ a (sg_up (sg_up (sg_up (sg_up (sg_shipOrder_2 P xo (sg_cn P 3)) 57 xo 1) 58 xo ((sg_shipOrder_2 P xo (sg_cn P 3)) 0 0)) 70 4 (((sg_shipOrder_2 P xo (sg_cn P 3)) 70 4) + ((((sg_shipOrder_2 P xo (sg_cn P 3)) 52 xo) * 2) * (sg_priceOf (sg_up (sg_up (sg_shipOrder_2 P xo (sg_cn P 3)) 57 xo 1) 58 xo ((sg_shipOrder_2 P xo (sg_cn P 3)) 0 0)) ((sg_shipOrder_2 P xo (sg_cn P 3)) 50 xo))))) 13 (Int32.toNatClampNeg ((sg_shipOrder_2 P xo (sg_cn P 3)) 50 xo)) (((sg_shipOrder_2 P xo (sg_cn P 3)) 13 (Int32.toNatClampNeg ((sg_shipOrder_2 P xo (sg_cn P 3)) 50 xo))) + ((((sg_shipOrder_2 P xo (sg_cn P 3)) 52 xo) * 2) * (sg_priceOf (sg_up (sg_up (sg_shipOrder_2 P xo (sg_cn P 3)) 57 xo 1) 58 xo ((sg_shipOrder_2 P xo (sg_cn P 3)) 0 0)) ((sg_shipOrder_2 P xo (sg_cn P 3)) 50 xo))))) q) H := hP
        replace hD : va_D A (sg_St cI cZ a (sg_up (sg_up (sg_up (sg_up (sg_shipOrder_2 P xo (sg_cn P 3)) 57 xo 1) 58 xo ((sg_shipOrder_2 P xo (sg_cn P 3)) 0 0)) 70 4 (((sg_shipOrder_2 P xo (sg_cn P 3)) 70 4) + ((((sg_shipOrder_2 P xo (sg_cn P 3)) 52 xo) * 2) * (sg_priceOf (sg_up (sg_up (sg_shipOrder_2 P xo (sg_cn P 3)) 57 xo 1) 58 xo ((sg_shipOrder_2 P xo (sg_cn P 3)) 0 0)) ((sg_shipOrder_2 P xo (sg_cn P 3)) 50 xo))))) 13 (Int32.toNatClampNeg ((sg_shipOrder_2 P xo (sg_cn P 3)) 50 xo)) (((sg_shipOrder_2 P xo (sg_cn P 3)) 13 (Int32.toNatClampNeg ((sg_shipOrder_2 P xo (sg_cn P 3)) 50 xo))) + ((((sg_shipOrder_2 P xo (sg_cn P 3)) 52 xo) * 2) * (sg_priceOf (sg_up (sg_up (sg_shipOrder_2 P xo (sg_cn P 3)) 57 xo 1) 58 xo ((sg_shipOrder_2 P xo (sg_cn P 3)) 0 0)) ((sg_shipOrder_2 P xo (sg_cn P 3)) 50 xo))))) q) := hD
        refine W.widen (k := 0) (n := 0) (by omega) (by omega) ?_
        have e9 : sg_shipOrder P xo = sg_up (sg_up (sg_up (sg_up (sg_shipOrder_2 P xo (sg_cn P 3)) 57 xo 1) 58 xo ((sg_shipOrder_2 P xo (sg_cn P 3)) 0 0)) 70 4 (((sg_shipOrder_2 P xo (sg_cn P 3)) 70 4) + ((((sg_shipOrder_2 P xo (sg_cn P 3)) 52 xo) * 2) * (sg_priceOf (sg_up (sg_up (sg_shipOrder_2 P xo (sg_cn P 3)) 57 xo 1) 58 xo ((sg_shipOrder_2 P xo (sg_cn P 3)) 0 0)) ((sg_shipOrder_2 P xo (sg_cn P 3)) 50 xo))))) 13 (Int32.toNatClampNeg ((sg_shipOrder_2 P xo (sg_cn P 3)) 50 xo)) (((sg_shipOrder_2 P xo (sg_cn P 3)) 13 (Int32.toNatClampNeg ((sg_shipOrder_2 P xo (sg_cn P 3)) 50 xo))) + ((((sg_shipOrder_2 P xo (sg_cn P 3)) 52 xo) * 2) * (sg_priceOf (sg_up (sg_up (sg_shipOrder_2 P xo (sg_cn P 3)) 57 xo 1) 58 xo ((sg_shipOrder_2 P xo (sg_cn P 3)) 0 0)) ((sg_shipOrder_2 P xo (sg_cn P 3)) 50 xo)))) := by rw [sg_shipOrder, if_neg c_6]
        have hP9 : va_P D vwCl (sg_St cI cZ a (sg_shipOrder P xo) q) H := by rw [e9]; exact hP
        have hD9 : va_D A (sg_St cI cZ a (sg_shipOrder P xo) q) := by rw [e9]; exact hD
        exact W.vret hx hb hr (fun t ht hW => ⟨⟨(), rfl, trivial, by rw [ht]; exact hP9, hD9⟩, hS.F ht⟩) hS.2.2 dX6_shipOrder_138
    · have hL2 : j2 < sg_cn P 3 := sg_lt hB2 c_1 (by omega)
      refine lv_aload_n hx hb dX6_shipOrder_13 rfl (lv_at hl 1 rfl) ?_
      refine va_get (D := D) (ci := 6) (v := .ref (a 5)) (C := RX6) (T := TX6) (N := 9) hx hb hts in6 hown hK hP 0 rfl rfl 5 (by decide) (hts (.fieldLink RX6 42 "Granary$Stock" "orders" "LGranary$Orders;") (by decide +kernel)) (fun _ h9 => h9) rfl dX6_shipOrder_14 ?_
      refine lv_iload_n hx hb dX6_shipOrder_17 rfl (lv_at hl 2 rfl) ?_
      refine lv_iload_n hx hb dX6_shipOrder_18 rfl (lv_at hl 0 rfl) ?_
      have hPc := hP.sub (ws' := [(a 5, .inr (2, [.int (P2 0 4), .ref (a 50), .ref (a 51), .ref (a 52), .ref (a 53), .ref (a 54), .ref (a 55), .ref (a 56), .ref (a 57), .ref (a 58), .ref (a 59)])), (a 59, .inl (cI, 12000, .inl (P2 59)))]) [5, 32] rfl
      have hDc := hD.sub (ws' := [(a 5, .inr (2, [.int (P2 0 4), .ref (a 50), .ref (a 51), .ref (a 52), .ref (a 53), .ref (a 54), .ref (a 55), .ref (a 56), .ref (a 57), .ref (a 58), .ref (a 59)])), (a 59, .inl (cI, 12000, .inl (P2 59)))]) [5, 32] (by decide) rfl
      refine vp_callSi (W.runV (As := [.int (nI xo), .int (nI j2)]) (rest := []) ⟨hx, hb, hml, hown, hts⟩ (c_heldOf l D cI cZ cJ lo H.size a P2 xo j2 (by omega) (by omega)) (cwV 2 hts gX6_shipOrder_X2_heldOf rfl rfl rfl (by decide +kernel) ⟨(Nat.le_of_ble_eq_true rfl), (Nat.le_of_ble_eq_true rfl)⟩) ⟨Pre.blind, va_recv hK hP (ci := 2) (q0 := 5) rfl rfl, Pre.mk hPc (hDc.weaken (fun _ _ _ h => hAlo _ h)) hC hS hAlo⟩ rfl rfl hl.1 rfl (lv_room (Nat.le_of_ble_eq_true rfl)) dX6_shipOrder_19 ⟨(Nat.le_of_ble_eq_true rfl), (Nat.le_of_ble_eq_true rfl)⟩) (fun r_8 e_9 => ?_)
      clear hPc hDc
      have e_9 : sg_heldOf P2 xo j2 = r_8 := Eq.symm e_9
      subst e_9
      refine lv_istore_n (lv' := [(3, .int (sg_heldOf P2 xo j2)), (2, .int (nI j2)), (0, .ref (a 0)), (1, .int (nI xo))]) hx hb dX6_shipOrder_22 rfl hl (by decide) rfl (fun ls hl => ?_)
      refine lv_aload_n hx hb dX6_shipOrder_23 rfl (lv_at hl 2 rfl) ?_
      refine lv_iload_n hx hb dX6_shipOrder_24 rfl (lv_at hl 3 rfl) ?_
      refine lv_iload_n hx hb dX6_shipOrder_25 rfl (lv_at hl 1 rfl) ?_
      refine lv_iload_n hx hb dX6_shipOrder_26 rfl (lv_at hl 0 rfl) ?_
      refine lv_ineg hx hb dX6_shipOrder_27 ?_
      have hPc : va_P D vwCl (sg_St cI cZ a P2 q) H := hP
      have hDc : va_D A (sg_St cI cZ a P2 q) := hD
      have hFc := va_free (wc := (sg_St cI cZ a P2 q)) hD hS hA [0, 1, 2, 3, 4, 5, 6, 7, 8, 9, 10, 11, 12, 13, 14, 15, 16, 17, 18, 19, 20, 21, 22, 23, 24, 25, 26, 27, 28, 29, 30, 31, 32, 33, 34, 35, 36, 37, 38, 39, 40] rfl
      refine va_callv (va_runV (As := [.int (nI xo), .int (nI j2), .int (-(sg_heldOf P2 xo j2))]) (rest := []) ⟨hx, hb, hml, hown, hts⟩ (c_hold l D cI cZ cJ lo H.size a P2 q xo j2 (-(sg_heldOf P2 xo j2)) (by omega) (by omega)) (cwV 3 hts gX6_shipOrder_X6_hold rfl rfl rfl (by decide +kernel) ⟨(Nat.le_of_ble_eq_true rfl), (Nat.le_of_ble_eq_true rfl)⟩) ⟨Pre.blind, va_recv hK hP (ci := 6) (q0 := 0) rfl rfl, Pre.mk hPc (hDc.weaken (fun _ _ _ h => hAlo _ h)) hC hS hAlo⟩ rfl rfl hl.1 rfl (lv_room (Nat.le_of_ble_eq_true rfl)) dX6_shipOrder_28 ⟨(Nat.le_of_ble_eq_true rfl), (Nat.le_of_ble_eq_true rfl)⟩) hS (fun q _ h => hFc q h) hFc (fun u t H1 locs1 ht hvm e_10 hB hz1 hk1 hS1 => ?_)
      have hS := hS1
      obtain ⟨hP1, hD1⟩ := hB
      rw [ht] at hP1
      obtain ⟨hP, hD⟩ := va_join (wr := []) (w1 := (sg_St cI cZ a (sg_hold P2 xo j2 (-(sg_heldOf P2 xo j2))) q)) hP hD [0, 1, 2, 3, 4, 5, 6, 7, 8, 9, 10, 11, 12, 13, 14, 15, 16, 17, 18, 19, 20, 21, 22, 23, 24, 25, 26, 27, 28, 29, 30, 31, 32, 33, 34, 35, 36, 37, 38, 39, 40] [] rfl rfl (by decide) (by decide) hk1 hFc hP1 hD1
      have e_10 : True := e_10
      clear hFc hPc hDc ht hvm hz1 hk1 hS1 hP1 hD1
      generalize H1 = H at hP hS ⊢
      replace hP : va_P D vwCl (sg_St cI cZ a (sg_hold P2 xo j2 (-(sg_heldOf P2 xo j2))) q) H := hP
      replace hD : va_D A (sg_St cI cZ a (sg_hold P2 xo j2 (-(sg_heldOf P2 xo j2))) q) := hD
      refine lv_aload_n hx hb dX6_shipOrder_31 rfl (lv_at hl 2 rfl) ?_
      refine va_get (D := D) (ci := 6) (v := .ref (a 4)) (C := RX6) (T := TX6) (N := 9) hx hb hts in6 hown hK hP 0 rfl rfl 4 (by decide) (hts (.fieldLink RX6 35 "Granary$Stock" "lots" "LGranary$Lots;") (by decide +kernel)) (fun _ h9 => h9) rfl dX6_shipOrder_32 ?_
      refine va_get (D := D) (ci := 1) (v := .ref (a 42)) (C := RX1) (T := TX1) (N := 6) hx hb hts in1 hown hK hP 4 rfl rfl 3 (by decide) (hts (.fieldLink RX6 195 "Granary$Lots" "units" "[I") (by decide +kernel)) (fun _ h9 => h9) rfl dX6_shipOrder_35 ?_
      refine lv_iload_n hx hb dX6_shipOrder_38 rfl (lv_at hl 1 rfl) ?_
      refine lv_dup2_11 hx hb dX6_shipOrder_39 rfl rfl ?_
      refine sg_iald hx hb hK hP 20 0 rfl rfl (j := j2) rfl (by omega) (Nat.le_of_ble_eq_true rfl) dX6_shipOrder_40 ?_
      refine lv_toi (y := (sg_hold P2 xo j2 (-(sg_heldOf P2 xo j2))) 42 j2) rfl ?_
      refine lv_iload_n hx hb dX6_shipOrder_41 rfl (lv_at hl 0 rfl) ?_
      refine lv_isub hx hb dX6_shipOrder_42 ?_
      refine sg_iast hx hb hK hP hD hS 20 0 rfl rfl (j := j2) rfl (by omega) (Nat.le_of_ble_eq_true rfl) dX6_shipOrder_43 (fun H locs hP hD hS => ?_)
      replace hP : va_P D vwCl (sg_St cI cZ a (sg_up (sg_hold P2 xo j2 (-(sg_heldOf P2 xo j2))) 42 j2 (((sg_hold P2 xo j2 (-(sg_heldOf P2 xo j2))) 42 j2) - (sg_heldOf P2 xo j2))) q) H := hP
      replace hD : va_D A (sg_St cI cZ a (sg_up (sg_hold P2 xo j2 (-(sg_heldOf P2 xo j2))) 42 j2 (((sg_hold P2 xo j2 (-(sg_heldOf P2 xo j2))) 42 j2) - (sg_heldOf P2 xo j2))) q) := hD
      refine lv_iinc (v := nI (j2 + 1)) (lv' := [(2, .int (nI (j2 + 1))), (3, .int (sg_heldOf P2 xo j2)), (0, .ref (a 0)), (1, .int (nI xo))]) hx hb dX6_shipOrder_44 hl (k := 1) rfl (nI_1 j2) (by decide) rfl (fun ls hl => ?_)
      refine lv_goto (tgt := 2) hx hb dX6_shipOrder_47 (by decide) ?_
      have hl8 := hl; have hS8 := hS; have hD8 := hD; have hP8 := hP
      subst hP2
      exact ih2 (j2 + 1) (sg_up (sg_hold (sg_shipOrder_2 P xo j2) xo j2 (-(sg_heldOf (sg_shipOrder_2 P xo j2) xo j2))) 42 j2 (((sg_hold (sg_shipOrder_2 P xo j2) xo j2 (-(sg_heldOf (sg_shipOrder_2 P xo j2) xo j2))) 42 j2) - (sg_heldOf (sg_shipOrder_2 P xo j2) xo j2))) _ _ _ rfl (by omega) (by omega) (lv_sub hl8 [0, 2, 3] rfl) hS8 hD8 hP8

def sg_ladd_r (P : sg_Pic) (x : Int32) (y : Int32) (z : Int32) (v : Int32) : Int32 := (if (P 0 3) < 200 then (((P 0 3) + 1) - 1) else (-1))

def sg_ladd (P : sg_Pic) (x : Int32) (y : Int32) (z : Int32) (v : Int32) : sg_Pic := (if (P 0 3) < 200 then (sg_up (sg_up (sg_up (sg_up (sg_up (sg_up P 40 (sg_cn P 3) x) 41 (sg_cn P 3) y) 42 (sg_cn P 3) z) 43 (sg_cn P 3) 0) 44 (sg_cn P 3) v) 0 3 ((P 0 3) + 1)) else P)

set_option maxHeartbeats 4000000 in
set_option maxRecDepth 100000 in
/-- X1_add -/
theorem c_ladd (l : Launch) (D : va_G) (cI cZ cJ : ClassId) (lo sz : Nat) (a : Nat → Nat) (P : sg_Pic) (q : Nat → Int32) (x : Int32) (y : Int32) (z : Int32) (v : Int32) (hw : sg_W P) : Met l yX1_add wsX1_add ({ frames := 0, cells := 0, slots := 0, locals := 0 }) (Pre lo D cI cZ cJ [.ref (a 4), .int x, .int y, .int z, .int v] sz (sg_St cI cZ a P q)) (va_Qi (fun (r : Int32) (_ : Unit) => r = sg_ladd_r P x y z v) (fun _ t => va_P D vwCl (sg_St cI cZ a (sg_ladd P x y z v) q) t.heap ∧ va_D (va_A (sg_St cI cZ a P q) sz) (sg_St cI cZ a (sg_ladd P x y z v) q)) (va_A (sg_St cI cZ a P q) sz)) 0 0 (va_A (sg_St cI cZ a P q) sz) := by
  refine Met.ofW (cc := cX1_add) (maxL := 5) (ret := (some .int)) (by decide) rfl ?_
  intro p e s m args below meth c s₁ B hml hv
  obtain ⟨rfl, hsz, hP, hD0, hC⟩ := hv
  have hx := B.exec
  have hb := B.bytes
  have hr := B.returns
  have hts := atoms_spec (ws := wsX1_add) B.pre
  have hown : s.vm.findClass RX1 = some m.cls := findClass_of_methodNamed B.named
  have hlocks := B.notSynchronized
  subst hsz
  have hn1 : sg_cn P 1 ≤ 6 := hw.n1
  have hn2 : sg_cn P 2 ≤ 5 := hw.n2
  have hn3 : sg_cn P 3 ≤ 200 := hw.n3
  have hn4 : sg_cn P 4 ≤ 60 := hw.n4
  have hn5 : sg_cn P 5 ≤ 90 := hw.n5
  have hK := hC.K
  have hD := hD0.self (sz := s.heap.size)
  have hAlo0 := va_A_lo hD0 hC.1
  generalize hAe : va_A (sg_St cI cZ a P q) s.heap.size = A at hD hAlo0 ⊢
  have hA : ∀ q : Nat, s.heap.size ≤ q → A q := fun q h => by rw [← hAe]; exact Or.inr h
  have hAlo : ∀ q, A q → lo ≤ q := hAlo0
  have hS : va_S A s.heap s.heap [] := va_S.rf
  have hP : va_P D vwCl (sg_St cI cZ a P q) s.heap := hP
  have hl := lv_entry ([.ref (a 4), .int x, .int y, .int z, .int v]) (n := 5) (Nat.le_of_ble_eq_true rfl)
  rw [lg_entry_eq]
  generalize (lg_sl ([.ref (a 4), .int x, .int y, .int z, .int v]) ++ List.replicate (5 - (lg_sl ([.ref (a 4), .int x, .int y, .int z, .int v])).length) Slot.unset).toArray = ls at hl ⊢
  have hl : lv_has ls 5 [(0, .ref (a 4)), (1, .int x), (2, .int y), (3, .int z), (4, .int v)] := hl
  have in1 : ∀ w ∈ u_ws RX1 TX1 6, w ∈ wsX1_add := by decide +kernel
  refine lv_aload_n hx hb dX1_add_0 rfl (lv_at hl 0 rfl) ?_
  refine va_get (D := D) (ci := 1) (v := .int (P 0 3)) (C := RX1) (T := TX1) (N := 6) hx hb hts in1 hown hK hP 4 rfl rfl 0 (by decide) (hts (.fieldLink RX1 27 "Granary$Lots" "count" "I") (by decide +kernel)) (fun _ h9 => h9) rfl dX1_add_1 ?_
  refine lv_sipush (v := 200) hx hb dX1_add_4 (by decide) ?_
  refine lv_icmp_lt (tgt := 12) hx hb dX1_add_7 (by decide) (fun c_1 => ?_) (fun c_1 => ?_)
  · have l9 : sg_cn P 3 < 200 := sg_ltl (M := 200) hw.e3 (by omega) (by decide) c_1
    refine lv_aload_n hx hb dX1_add_12 rfl (lv_at hl 0 rfl) ?_
    refine va_get (D := D) (ci := 1) (v := .ref (a 40)) (C := RX1) (T := TX1) (N := 6) hx hb hts in1 hown hK hP 4 rfl rfl 1 (by decide) (hts (.fieldLink RX1 9 "Granary$Lots" "item" "[I") (by decide +kernel)) (fun _ h9 => h9) rfl dX1_add_13 ?_
    refine lv_aload_n hx hb dX1_add_16 rfl (lv_at hl 0 rfl) ?_
    refine va_get (D := D) (ci := 1) (v := .int (P 0 3)) (C := RX1) (T := TX1) (N := 6) hx hb hts in1 hown hK hP 4 rfl rfl 0 (by decide) (hts (.fieldLink RX1 27 "Granary$Lots" "count" "I") (by decide +kernel)) (fun _ h9 => h9) rfl dX1_add_17 ?_
    refine lv_iload_n hx hb dX1_add_20 rfl (lv_at hl 1 rfl) ?_
    refine sg_iast hx hb hK hP hD hS 18 0 rfl rfl (j := sg_cn P 3) hw.e3 (by omega) (Nat.le_of_ble_eq_true rfl) dX1_add_21 (fun H locs hP hD hS => ?_)
    replace hP : va_P D vwCl (sg_St cI cZ a (sg_up P 40 (sg_cn P 3) x) q) H := hP
    replace hD : va_D A (sg_St cI cZ a (sg_up P 40 (sg_cn P 3) x) q) := hD
    refine lv_aload_n hx hb dX1_add_22 rfl (lv_at hl 0 rfl) ?_
    refine va_get (D := D) (ci := 1) (v := .ref (a 41)) (C := RX1) (T := TX1) (N := 6) hx hb hts in1 hown hK hP 4 rfl rfl 2 (by decide) (hts (.fieldLink RX1 15 "Granary$Lots" "site" "[I") (by decide +kernel)) (fun _ h9 => h9) rfl dX1_add_23 ?_
    refine lv_aload_n hx hb dX1_add_26 rfl (lv_at hl 0 rfl) ?_
    refine va_get (D := D) (ci := 1) (v := .int ((sg_up P 40 (sg_cn P 3) x) 0 3)) (C := RX1) (T := TX1) (N := 6) hx hb hts in1 hown hK hP 4 rfl rfl 0 (by decide) (hts (.fieldLink RX1 27 "Granary$Lots" "count" "I") (by decide +kernel)) (fun _ h9 => h9) rfl dX1_add_27 ?_
    refine lv_toi (y := P 0 3) rfl ?_
    refine lv_iload_n hx hb dX1_add_30 rfl (lv_at hl 2 rfl) ?_
    refine sg_iast hx hb hK hP hD hS 19 0 rfl rfl (j := sg_cn P 3) hw.e3 (by omega) (Nat.le_of_ble_eq_true rfl) dX1_add_31 (fun H locs hP hD hS => ?_)
    replace hP : va_P D vwCl (sg_St cI cZ a (sg_up (sg_up P 40 (sg_cn P 3) x) 41 (sg_cn P 3) y) q) H := hP
    replace hD : va_D A (sg_St cI cZ a (sg_up (sg_up P 40 (sg_cn P 3) x) 41 (sg_cn P 3) y) q) := hD
    refine lv_aload_n hx hb dX1_add_32 rfl (lv_at hl 0 rfl) ?_
    refine va_get (D := D) (ci := 1) (v := .ref (a 42)) (C := RX1) (T := TX1) (N := 6) hx hb hts in1 hown hK hP 4 rfl rfl 3 (by decide) (hts (.fieldLink RX1 18 "Granary$Lots" "units" "[I") (by decide +kernel)) (fun _ h9 => h9) rfl dX1_add_33 ?_
    refine lv_aload_n hx hb dX1_add_36 rfl (lv_at hl 0 rfl) ?_
    refine va_get (D := D) (ci := 1) (v := .int ((sg_up (sg_up P 40 (sg_cn P 3) x) 41 (sg_cn P 3) y) 0 3)) (C := RX1) (T := TX1) (N := 6) hx hb hts in1 hown hK hP 4 rfl rfl 0 (by decide) (hts (.fieldLink RX1 27 "Granary$Lots" "count" "I") (by decide +kernel)) (fun _ h9 => h9) rfl dX1_add_37 ?_
    refine lv_toi (y := P 0 3) rfl ?_
    refine lv_iload_n hx hb dX1_add_40 rfl (lv_at hl 3 rfl) ?_
    refine sg_iast hx hb hK hP hD hS 20 0 rfl rfl (j := sg_cn P 3) hw.e3 (by omega) (Nat.le_of_ble_eq_true rfl) dX1_add_41 (fun H locs hP hD hS => ?_)
    replace hP : va_P D vwCl (sg_St cI cZ a (sg_up (sg_up (sg_up P 40 (sg_cn P 3) x) 41 (sg_cn P 3) y) 42 (sg_cn P 3) z) q) H := hP
    replace hD : va_D A (sg_St cI cZ a (sg_up (sg_up (sg_up P 40 (sg_cn P 3) x) 41 (sg_cn P 3) y) 42 (sg_cn P 3) z) q) := hD
    refine lv_aload_n hx hb dX1_add_42 rfl (lv_at hl 0 rfl) ?_
    refine va_get (D := D) (ci := 1) (v := .ref (a 43)) (C := RX1) (T := TX1) (N := 6) hx hb hts in1 hown hK hP 4 rfl rfl 4 (by decide) (hts (.fieldLink RX1 21 "Granary$Lots" "reserved" "[I") (by decide +kernel)) (fun _ h9 => h9) rfl dX1_add_43 ?_
    refine lv_aload_n hx hb dX1_add_46 rfl (lv_at hl 0 rfl) ?_
    refine va_get (D := D) (ci := 1) (v := .int ((sg_up (sg_up (sg_up P 40 (sg_cn P 3) x) 41 (sg_cn P 3) y) 42 (sg_cn P 3) z) 0 3)) (C := RX1) (T := TX1) (N := 6) hx hb hts in1 hown hK hP 4 rfl rfl 0 (by decide) (hts (.fieldLink RX1 27 "Granary$Lots" "count" "I") (by decide +kernel)) (fun _ h9 => h9) rfl dX1_add_47 ?_
    refine lv_toi (y := P 0 3) rfl ?_
    refine lv_iconst (v := 0) hx hb dX1_add_50 (by decide) ?_
    refine sg_iast hx hb hK hP hD hS 21 0 rfl rfl (j := sg_cn P 3) hw.e3 (by omega) (Nat.le_of_ble_eq_true rfl) dX1_add_51 (fun H locs hP hD hS => ?_)
    replace hP : va_P D vwCl (sg_St cI cZ a (sg_up (sg_up (sg_up (sg_up P 40 (sg_cn P 3) x) 41 (sg_cn P 3) y) 42 (sg_cn P 3) z) 43 (sg_cn P 3) 0) q) H := hP
    replace hD : va_D A (sg_St cI cZ a (sg_up (sg_up (sg_up (sg_up P 40 (sg_cn P 3) x) 41 (sg_cn P 3) y) 42 (sg_cn P 3) z) 43 (sg_cn P 3) 0) q) := hD
    refine lv_aload_n hx hb dX1_add_52 rfl (lv_at hl 0 rfl) ?_
    refine va_get (D := D) (ci := 1) (v := .ref (a 44)) (C := RX1) (T := TX1) (N := 6) hx hb hts in1 hown hK hP 4 rfl rfl 5 (by decide) (hts (.fieldLink RX1 24 "Granary$Lots" "last" "[I") (by decide +kernel)) (fun _ h9 => h9) rfl dX1_add_53 ?_
    refine lv_aload_n hx hb dX1_add_56 rfl (lv_at hl 0 rfl) ?_
    refine va_get (D := D) (ci := 1) (v := .int ((sg_up (sg_up (sg_up (sg_up P 40 (sg_cn P 3) x) 41 (sg_cn P 3) y) 42 (sg_cn P 3) z) 43 (sg_cn P 3) 0) 0 3)) (C := RX1) (T := TX1) (N := 6) hx hb hts in1 hown hK hP 4 rfl rfl 0 (by decide) (hts (.fieldLink RX1 27 "Granary$Lots" "count" "I") (by decide +kernel)) (fun _ h9 => h9) rfl dX1_add_57 ?_
    refine lv_toi (y := P 0 3) rfl ?_
    refine lv_iload hx hb dX1_add_60 (lv_at hl 4 rfl) ?_
    refine sg_iast hx hb hK hP hD hS 22 0 rfl rfl (j := sg_cn P 3) hw.e3 (by omega) (Nat.le_of_ble_eq_true rfl) dX1_add_62 (fun H locs hP hD hS => ?_)
    replace hP : va_P D vwCl (sg_St cI cZ a (sg_up (sg_up (sg_up (sg_up (sg_up P 40 (sg_cn P 3) x) 41 (sg_cn P 3) y) 42 (sg_cn P 3) z) 43 (sg_cn P 3) 0) 44 (sg_cn P 3) v) q) H := hP
    replace hD : va_D A (sg_St cI cZ a (sg_up (sg_up (sg_up (sg_up (sg_up P 40 (sg_cn P 3) x) 41 (sg_cn P 3) y) 42 (sg_cn P 3) z) 43 (sg_cn P 3) 0) 44 (sg_cn P 3) v) q) := hD
    refine lv_aload_n hx hb dX1_add_63 rfl (lv_at hl 0 rfl) ?_
    refine lv_dup hx hb dX1_add_64 rfl ?_
    refine va_get (D := D) (ci := 1) (v := .int ((sg_up (sg_up (sg_up (sg_up (sg_up P 40 (sg_cn P 3) x) 41 (sg_cn P 3) y) 42 (sg_cn P 3) z) 43 (sg_cn P 3) 0) 44 (sg_cn P 3) v) 0 3)) (C := RX1) (T := TX1) (N := 6) hx hb hts in1 hown hK hP 4 rfl rfl 0 (by decide) (hts (.fieldLink RX1 27 "Granary$Lots" "count" "I") (by decide +kernel)) (fun _ h9 => h9) rfl dX1_add_65 ?_
    refine lv_toi (y := P 0 3) rfl ?_
    refine lv_iconst (v := 1) hx hb dX1_add_68 (by decide) ?_
    refine lv_iadd hx hb dX1_add_69 ?_
    refine va_put (D := D) (ci := 1) (v := .int ((P 0 3) + 1)) (ty := .int) (C := RX1) (T := TX1) (N := 6) hx hb hts in1 tyX1 tyX1_ok nmX1 hown hK hP hD hS 4 rfl rfl 0 (by decide) (hts (.fieldLink RX1 27 "Granary$Lots" "count" "I") (by decide +kernel)) (fun _ h9 => h9) rfl (by decide +kernel) rfl rfl (Nat.le_of_ble_eq_true rfl) dX1_add_70 (fun H locs hP hD hS => ?_)
    replace hP : va_P D vwCl (sg_St cI cZ a (sg_up (sg_up (sg_up (sg_up (sg_up (sg_up P 40 (sg_cn P 3) x) 41 (sg_cn P 3) y) 42 (sg_cn P 3) z) 43 (sg_cn P 3) 0) 44 (sg_cn P 3) v) 0 3 ((P 0 3) + 1)) q) H := hP
    replace hD : va_D A (sg_St cI cZ a (sg_up (sg_up (sg_up (sg_up (sg_up (sg_up P 40 (sg_cn P 3) x) 41 (sg_cn P 3) y) 42 (sg_cn P 3) z) 43 (sg_cn P 3) 0) 44 (sg_cn P 3) v) 0 3 ((P 0 3) + 1)) q) := hD
    refine lv_aload_n hx hb dX1_add_73 rfl (lv_at hl 0 rfl) ?_
    refine va_get (D := D) (ci := 1) (v := .int ((sg_up (sg_up (sg_up (sg_up (sg_up (sg_up P 40 (sg_cn P 3) x) 41 (sg_cn P 3) y) 42 (sg_cn P 3) z) 43 (sg_cn P 3) 0) 44 (sg_cn P 3) v) 0 3 ((P 0 3) + 1)) 0 3)) (C := RX1) (T := TX1) (N := 6) hx hb hts in1 hown hK hP 4 rfl rfl 0 (by decide) (hts (.fieldLink RX1 27 "Granary$Lots" "count" "I") (by decide +kernel)) (fun _ h9 => h9) rfl dX1_add_74 ?_
    refine lv_toi (y := (P 0 3) + 1) rfl ?_
    refine lv_iconst (v := 1) hx hb dX1_add_77 (by decide) ?_
    refine lv_isub hx hb dX1_add_78 ?_
    refine W.widen (k := 0) (n := 0) (by omega) (by omega) ?_
    have e9 : sg_ladd P x y z v = sg_up (sg_up (sg_up (sg_up (sg_up (sg_up P 40 (sg_cn P 3) x) 41 (sg_cn P 3) y) 42 (sg_cn P 3) z) 43 (sg_cn P 3) 0) 44 (sg_cn P 3) v) 0 3 ((P 0 3) + 1) := by rw [sg_ladd, if_pos c_1]
    have hP9 : va_P D vwCl (sg_St cI cZ a (sg_ladd P x y z v) q) H := by rw [e9]; exact hP
    have hD9 : va_D A (sg_St cI cZ a (sg_ladd P x y z v) q) := by rw [e9]; exact hD
    exact W.iret (v := (((P 0 3) + 1) - 1)) hx hb hr (fun t ht hW => ⟨⟨(((P 0 3) + 1) - 1), (), rfl, (show (((P 0 3) + 1) - 1 : Int32) = sg_ladd_r P x y z v from by rw [sg_ladd_r, if_pos c_1]), by rw [ht]; exact hP9, hD9⟩, hS.F ht⟩) hS.2.2 dX1_add_79
  · refine lv_iconst (v := (-1)) hx hb dX1_add_10 (by decide) ?_
    refine W.widen (k := 0) (n := 0) (by omega) (by omega) ?_
    have e9 : sg_ladd P x y z v = P := by rw [sg_ladd, if_neg c_1]
    have hP9 : va_P D vwCl (sg_St cI cZ a (sg_ladd P x y z v) q) s.heap := by rw [e9]; exact hP
    have hD9 : va_D A (sg_St cI cZ a (sg_ladd P x y z v) q) := by rw [e9]; exact hD
    exact W.iret (v := (-1)) hx hb hr (fun t ht hW => ⟨⟨(-1), (), rfl, (show ((-1) : Int32) = sg_ladd_r P x y z v from by rw [sg_ladd_r, if_neg c_1]), by rw [ht]; exact hP9, hD9⟩, hS.F ht⟩) hS.2.2 dX1_add_11

theorem sg_ladd_K (P : sg_Pic) (x y z v : Int32) : sg_K3 (sg_ladd P x y z v) P := by
  unfold sg_ladd
  split
  · rename_i c
    refine ⟨fun k hk => ?_, rfl, fun hw => ?_⟩
    · show sg_up P 0 3 ((P 0 3) + 1) 0 k = P 0 k
      exact sg_ne_n 0 k hk
    · exact hw.up3 (sg_ltl (M := 200) hw.e3 (Nat.lt_of_le_of_lt hw.n3 (by decide)) (by decide) c)
  · exact sg_K3.of ⟨rfl, rfl⟩
theorem sg_ladd_W {P : sg_Pic} {x y z v : Int32} (hw : sg_W P) : sg_W (sg_ladd P x y z v) := (sg_ladd_K P x y z v).W hw

def sg_tadd (P : sg_Pic) (x : Int32) (y : Int32) (z : Int32) (v : Int32) (x5 : Int32) : sg_Pic := (if (sg_full P) = 0 then (sg_up (sg_up (sg_up (sg_up (sg_up (sg_up (sg_up P 60 (sg_cn P 5) x) 61 (sg_cn P 5) y) 62 (sg_cn P 5) z) 63 (sg_cn P 5) v) 64 (sg_cn P 5) x5) 65 (sg_cn P 5) 1) 0 5 ((P 0 5) + 1)) else P)

set_option maxHeartbeats 4000000 in
set_option maxRecDepth 100000 in
/-- X7_add -/
theorem c_tadd (l : Launch) (D : va_G) (cI cZ cJ : ClassId) (lo sz : Nat) (a : Nat → Nat) (P : sg_Pic) (q : Nat → Int32) (x : Int32) (y : Int32) (z : Int32) (v : Int32) (x5 : Int32) (hw : sg_W P) : Met l yX7_add wsX7_add ({ frames := 1, cells := 0, slots := 0, locals := 20 }) (Pre lo D cI cZ cJ [.ref (a 6), .int x, .int y, .int z, .int v, .int x5] sz (sg_St cI cZ a P q)) (va_Qv (fun _ : Unit => True) (fun _ t => va_P D vwCl (sg_St cI cZ a (sg_tadd P x y z v x5) q) t.heap ∧ va_D (va_A (sg_St cI cZ a P q) sz) (sg_St cI cZ a (sg_tadd P x y z v x5) q)) (va_A (sg_St cI cZ a P q) sz)) 0 0 (va_A (sg_St cI cZ a P q) sz) := by
  refine Met.ofW (cc := cX7_add) (maxL := 6) (ret := none) (by decide) rfl ?_
  intro p e s m args below meth c s₁ B hml hv
  obtain ⟨rfl, hsz, hP, hD0, hC⟩ := hv
  have hx := B.exec
  have hb := B.bytes
  have hr := B.returns
  have hts := atoms_spec (ws := wsX7_add) B.pre
  have hown : s.vm.findClass RX7 = some m.cls := findClass_of_methodNamed B.named
  have hlocks := B.notSynchronized
  subst hsz
  have hn1 : sg_cn P 1 ≤ 6 := hw.n1
  have hn2 : sg_cn P 2 ≤ 5 := hw.n2
  have hn3 : sg_cn P 3 ≤ 200 := hw.n3
  have hn4 : sg_cn P 4 ≤ 60 := hw.n4
  have hn5 : sg_cn P 5 ≤ 90 := hw.n5
  have hK := hC.K
  have hD := hD0.self (sz := s.heap.size)
  have hAlo0 := va_A_lo hD0 hC.1
  generalize hAe : va_A (sg_St cI cZ a P q) s.heap.size = A at hD hAlo0 ⊢
  have hA : ∀ q : Nat, s.heap.size ≤ q → A q := fun q h => by rw [← hAe]; exact Or.inr h
  have hAlo : ∀ q, A q → lo ≤ q := hAlo0
  have hS : va_S A s.heap s.heap [] := va_S.rf
  have hP : va_P D vwCl (sg_St cI cZ a P q) s.heap := hP
  have hl := lv_entry ([.ref (a 6), .int x, .int y, .int z, .int v, .int x5]) (n := 6) (Nat.le_of_ble_eq_true rfl)
  rw [lg_entry_eq]
  generalize (lg_sl ([.ref (a 6), .int x, .int y, .int z, .int v, .int x5]) ++ List.replicate (6 - (lg_sl ([.ref (a 6), .int x, .int y, .int z, .int v, .int x5])).length) Slot.unset).toArray = ls at hl ⊢
  have hl : lv_has ls 6 [(0, .ref (a 6)), (1, .int x), (2, .int y), (3, .int z), (4, .int v), (5, .int x5)] := hl
  have in7 : ∀ w ∈ u_ws RX7 TX7 7, w ∈ wsX7_add := by decide +kernel
  refine lv_aload_n hx hb dX7_add_0 rfl (lv_at hl 0 rfl) ?_
  have hPc := hP.sub (ws' := [(a 6, .inr (7, [.int (P 0 5), .ref (a 60), .ref (a 61), .ref (a 62), .ref (a 63), .ref (a 64), .ref (a 65)]))]) [6] rfl
  have hDc := hD.sub (ws' := [(a 6, .inr (7, [.int (P 0 5), .ref (a 60), .ref (a 61), .ref (a 62), .ref (a 63), .ref (a 64), .ref (a 65)]))]) [6] (by decide) rfl
  refine vp_callSi (W.runV (As := []) (rest := []) ⟨hx, hb, hml, hown, hts⟩ (c_full l D cI cZ cJ lo s.heap.size a P) (cwV 0 hts gX7_add_X7_full rfl rfl rfl (by decide +kernel) ⟨(Nat.le_of_ble_eq_true rfl), (Nat.le_of_ble_eq_true rfl)⟩) ⟨Pre.blind, va_recv hK hP (ci := 7) (q0 := 6) rfl rfl, Pre.mk hPc (hDc.weaken (fun _ _ _ h => hAlo _ h)) hC hS hAlo⟩ rfl rfl hl.1 rfl (lv_room (Nat.le_of_ble_eq_true rfl)) dX7_add_1 ⟨(Nat.le_of_ble_eq_true rfl), (Nat.le_of_ble_eq_true rfl)⟩) (fun r_1 e_2 => ?_)
  clear hPc hDc
  have e_2 : sg_full P = r_1 := Eq.symm e_2
  subst e_2
  refine lv_if_eq (tgt := 8) hx hb dX7_add_4 (by decide) (fun c_3 => ?_) (fun c_3 => ?_)
  · have l9 : sg_cn P 5 < 90 := sg_full_lt hw c_3
    refine lv_aload_n hx hb dX7_add_8 rfl (lv_at hl 0 rfl) ?_
    refine va_get (D := D) (ci := 7) (v := .ref (a 60)) (C := RX7) (T := TX7) (N := 7) hx hb hts in7 hown hK hP 6 rfl rfl 1 (by decide) (hts (.fieldLink RX7 9 "Granary$Transports" "item" "[I") (by decide +kernel)) (fun _ h9 => h9) rfl dX7_add_9 ?_
    refine lv_aload_n hx hb dX7_add_12 rfl (lv_at hl 0 rfl) ?_
    refine va_get (D := D) (ci := 7) (v := .int (P 0 5)) (C := RX7) (T := TX7) (N := 7) hx hb hts in7 hown hK hP 6 rfl rfl 0 (by decide) (hts (.fieldLink RX7 30 "Granary$Transports" "count" "I") (by decide +kernel)) (fun _ h9 => h9) rfl dX7_add_13 ?_
    refine lv_iload_n hx hb dX7_add_16 rfl (lv_at hl 1 rfl) ?_
    refine sg_iast hx hb hK hP hD hS 33 0 rfl rfl (j := sg_cn P 5) hw.e5 (by omega) (Nat.le_of_ble_eq_true rfl) dX7_add_17 (fun H locs hP hD hS => ?_)
    replace hP : va_P D vwCl (sg_St cI cZ a (sg_up P 60 (sg_cn P 5) x) q) H := hP
    replace hD : va_D A (sg_St cI cZ a (sg_up P 60 (sg_cn P 5) x) q) := hD
    refine lv_aload_n hx hb dX7_add_18 rfl (lv_at hl 0 rfl) ?_
    refine va_get (D := D) (ci := 7) (v := .ref (a 61)) (C := RX7) (T := TX7) (N := 7) hx hb hts in7 hown hK hP 6 rfl rfl 2 (by decide) (hts (.fieldLink RX7 15 "Granary$Transports" "site" "[I") (by decide +kernel)) (fun _ h9 => h9) rfl dX7_add_19 ?_
    refine lv_aload_n hx hb dX7_add_22 rfl (lv_at hl 0 rfl) ?_
    refine va_get (D := D) (ci := 7) (v := .int ((sg_up P 60 (sg_cn P 5) x) 0 5)) (C := RX7) (T := TX7) (N := 7) hx hb hts in7 hown hK hP 6 rfl rfl 0 (by decide) (hts (.fieldLink RX7 30 "Granary$Transports" "count" "I") (by decide +kernel)) (fun _ h9 => h9) rfl dX7_add_23 ?_
    refine lv_toi (y := P 0 5) rfl ?_
    refine lv_iload_n hx hb dX7_add_26 rfl (lv_at hl 2 rfl) ?_
    refine sg_iast hx hb hK hP hD hS 34 0 rfl rfl (j := sg_cn P 5) hw.e5 (by omega) (Nat.le_of_ble_eq_true rfl) dX7_add_27 (fun H locs hP hD hS => ?_)
    replace hP : va_P D vwCl (sg_St cI cZ a (sg_up (sg_up P 60 (sg_cn P 5) x) 61 (sg_cn P 5) y) q) H := hP
    replace hD : va_D A (sg_St cI cZ a (sg_up (sg_up P 60 (sg_cn P 5) x) 61 (sg_cn P 5) y) q) := hD
    refine lv_aload_n hx hb dX7_add_28 rfl (lv_at hl 0 rfl) ?_
    refine va_get (D := D) (ci := 7) (v := .ref (a 62)) (C := RX7) (T := TX7) (N := 7) hx hb hts in7 hown hK hP 6 rfl rfl 3 (by decide) (hts (.fieldLink RX7 18 "Granary$Transports" "units" "[I") (by decide +kernel)) (fun _ h9 => h9) rfl dX7_add_29 ?_
    refine lv_aload_n hx hb dX7_add_32 rfl (lv_at hl 0 rfl) ?_
    refine va_get (D := D) (ci := 7) (v := .int ((sg_up (sg_up P 60 (sg_cn P 5) x) 61 (sg_cn P 5) y) 0 5)) (C := RX7) (T := TX7) (N := 7) hx hb hts in7 hown hK hP 6 rfl rfl 0 (by decide) (hts (.fieldLink RX7 30 "Granary$Transports" "count" "I") (by decide +kernel)) (fun _ h9 => h9) rfl dX7_add_33 ?_
    refine lv_toi (y := P 0 5) rfl ?_
    refine lv_iload_n hx hb dX7_add_36 rfl (lv_at hl 3 rfl) ?_
    refine sg_iast hx hb hK hP hD hS 35 0 rfl rfl (j := sg_cn P 5) hw.e5 (by omega) (Nat.le_of_ble_eq_true rfl) dX7_add_37 (fun H locs hP hD hS => ?_)
    replace hP : va_P D vwCl (sg_St cI cZ a (sg_up (sg_up (sg_up P 60 (sg_cn P 5) x) 61 (sg_cn P 5) y) 62 (sg_cn P 5) z) q) H := hP
    replace hD : va_D A (sg_St cI cZ a (sg_up (sg_up (sg_up P 60 (sg_cn P 5) x) 61 (sg_cn P 5) y) 62 (sg_cn P 5) z) q) := hD
    refine lv_aload_n hx hb dX7_add_38 rfl (lv_at hl 0 rfl) ?_
    refine va_get (D := D) (ci := 7) (v := .ref (a 63)) (C := RX7) (T := TX7) (N := 7) hx hb hts in7 hown hK hP 6 rfl rfl 4 (by decide) (hts (.fieldLink RX7 21 "Granary$Transports" "arrival" "[I") (by decide +kernel)) (fun _ h9 => h9) rfl dX7_add_39 ?_
    refine lv_aload_n hx hb dX7_add_42 rfl (lv_at hl 0 rfl) ?_
    refine va_get (D := D) (ci := 7) (v := .int ((sg_up (sg_up (sg_up P 60 (sg_cn P 5) x) 61 (sg_cn P 5) y) 62 (sg_cn P 5) z) 0 5)) (C := RX7) (T := TX7) (N := 7) hx hb hts in7 hown hK hP 6 rfl rfl 0 (by decide) (hts (.fieldLink RX7 30 "Granary$Transports" "count" "I") (by decide +kernel)) (fun _ h9 => h9) rfl dX7_add_43 ?_
    refine lv_toi (y := P 0 5) rfl ?_
    refine lv_iload hx hb dX7_add_46 (lv_at hl 4 rfl) ?_
    refine sg_iast hx hb hK hP hD hS 36 0 rfl rfl (j := sg_cn P 5) hw.e5 (by omega) (Nat.le_of_ble_eq_true rfl) dX7_add_48 (fun H locs hP hD hS => ?_)
    replace hP : va_P D vwCl (sg_St cI cZ a (sg_up (sg_up (sg_up (sg_up P 60 (sg_cn P 5) x) 61 (sg_cn P 5) y) 62 (sg_cn P 5) z) 63 (sg_cn P 5) v) q) H := hP
    replace hD : va_D A (sg_St cI cZ a (sg_up (sg_up (sg_up (sg_up P 60 (sg_cn P 5) x) 61 (sg_cn P 5) y) 62 (sg_cn P 5) z) 63 (sg_cn P 5) v) q) := hD
    refine lv_aload_n hx hb dX7_add_49 rfl (lv_at hl 0 rfl) ?_
    refine va_get (D := D) (ci := 7) (v := .ref (a 64)) (C := RX7) (T := TX7) (N := 7) hx hb hts in7 hown hK hP 6 rfl rfl 5 (by decide) (hts (.fieldLink RX7 24 "Granary$Transports" "last" "[I") (by decide +kernel)) (fun _ h9 => h9) rfl dX7_add_50 ?_
    refine lv_aload_n hx hb dX7_add_53 rfl (lv_at hl 0 rfl) ?_
    refine va_get (D := D) (ci := 7) (v := .int ((sg_up (sg_up (sg_up (sg_up P 60 (sg_cn P 5) x) 61 (sg_cn P 5) y) 62 (sg_cn P 5) z) 63 (sg_cn P 5) v) 0 5)) (C := RX7) (T := TX7) (N := 7) hx hb hts in7 hown hK hP 6 rfl rfl 0 (by decide) (hts (.fieldLink RX7 30 "Granary$Transports" "count" "I") (by decide +kernel)) (fun _ h9 => h9) rfl dX7_add_54 ?_
    refine lv_toi (y := P 0 5) rfl ?_
    refine lv_iload hx hb dX7_add_57 (lv_at hl 5 rfl) ?_
    refine sg_iast hx hb hK hP hD hS 37 0 rfl rfl (j := sg_cn P 5) hw.e5 (by omega) (Nat.le_of_ble_eq_true rfl) dX7_add_59 (fun H locs hP hD hS => ?_)
    replace hP : va_P D vwCl (sg_St cI cZ a (sg_up (sg_up (sg_up (sg_up (sg_up P 60 (sg_cn P 5) x) 61 (sg_cn P 5) y) 62 (sg_cn P 5) z) 63 (sg_cn P 5) v) 64 (sg_cn P 5) x5) q) H := hP
    replace hD : va_D A (sg_St cI cZ a (sg_up (sg_up (sg_up (sg_up (sg_up P 60 (sg_cn P 5) x) 61 (sg_cn P 5) y) 62 (sg_cn P 5) z) 63 (sg_cn P 5) v) 64 (sg_cn P 5) x5) q) := hD
    refine lv_aload_n hx hb dX7_add_60 rfl (lv_at hl 0 rfl) ?_
    refine va_get (D := D) (ci := 7) (v := .ref (a 65)) (C := RX7) (T := TX7) (N := 7) hx hb hts in7 hown hK hP 6 rfl rfl 6 (by decide) (hts (.fieldLink RX7 27 "Granary$Transports" "moving" "[I") (by decide +kernel)) (fun _ h9 => h9) rfl dX7_add_61 ?_
    refine lv_aload_n hx hb dX7_add_64 rfl (lv_at hl 0 rfl) ?_
    refine va_get (D := D) (ci := 7) (v := .int ((sg_up (sg_up (sg_up (sg_up (sg_up P 60 (sg_cn P 5) x) 61 (sg_cn P 5) y) 62 (sg_cn P 5) z) 63 (sg_cn P 5) v) 64 (sg_cn P 5) x5) 0 5)) (C := RX7) (T := TX7) (N := 7) hx hb hts in7 hown hK hP 6 rfl rfl 0 (by decide) (hts (.fieldLink RX7 30 "Granary$Transports" "count" "I") (by decide +kernel)) (fun _ h9 => h9) rfl dX7_add_65 ?_
    refine lv_toi (y := P 0 5) rfl ?_
    refine lv_iconst (v := 1) hx hb dX7_add_68 (by decide) ?_
    refine sg_iast hx hb hK hP hD hS 38 0 rfl rfl (j := sg_cn P 5) hw.e5 (by omega) (Nat.le_of_ble_eq_true rfl) dX7_add_69 (fun H locs hP hD hS => ?_)
    replace hP : va_P D vwCl (sg_St cI cZ a (sg_up (sg_up (sg_up (sg_up (sg_up (sg_up P 60 (sg_cn P 5) x) 61 (sg_cn P 5) y) 62 (sg_cn P 5) z) 63 (sg_cn P 5) v) 64 (sg_cn P 5) x5) 65 (sg_cn P 5) 1) q) H := hP
    replace hD : va_D A (sg_St cI cZ a (sg_up (sg_up (sg_up (sg_up (sg_up (sg_up P 60 (sg_cn P 5) x) 61 (sg_cn P 5) y) 62 (sg_cn P 5) z) 63 (sg_cn P 5) v) 64 (sg_cn P 5) x5) 65 (sg_cn P 5) 1) q) := hD
    refine lv_aload_n hx hb dX7_add_70 rfl (lv_at hl 0 rfl) ?_
    refine lv_dup hx hb dX7_add_71 rfl ?_
    refine va_get (D := D) (ci := 7) (v := .int ((sg_up (sg_up (sg_up (sg_up (sg_up (sg_up P 60 (sg_cn P 5) x) 61 (sg_cn P 5) y) 62 (sg_cn P 5) z) 63 (sg_cn P 5) v) 64 (sg_cn P 5) x5) 65 (sg_cn P 5) 1) 0 5)) (C := RX7) (T := TX7) (N := 7) hx hb hts in7 hown hK hP 6 rfl rfl 0 (by decide) (hts (.fieldLink RX7 30 "Granary$Transports" "count" "I") (by decide +kernel)) (fun _ h9 => h9) rfl dX7_add_72 ?_
    refine lv_toi (y := P 0 5) rfl ?_
    refine lv_iconst (v := 1) hx hb dX7_add_75 (by decide) ?_
    refine lv_iadd hx hb dX7_add_76 ?_
    refine va_put (D := D) (ci := 7) (v := .int ((P 0 5) + 1)) (ty := .int) (C := RX7) (T := TX7) (N := 7) hx hb hts in7 tyX7 tyX7_ok nmX7 hown hK hP hD hS 6 rfl rfl 0 (by decide) (hts (.fieldLink RX7 30 "Granary$Transports" "count" "I") (by decide +kernel)) (fun _ h9 => h9) rfl (by decide +kernel) rfl rfl (Nat.le_of_ble_eq_true rfl) dX7_add_77 (fun H locs hP hD hS => ?_)
    replace hP : va_P D vwCl (sg_St cI cZ a (sg_up (sg_up (sg_up (sg_up (sg_up (sg_up (sg_up P 60 (sg_cn P 5) x) 61 (sg_cn P 5) y) 62 (sg_cn P 5) z) 63 (sg_cn P 5) v) 64 (sg_cn P 5) x5) 65 (sg_cn P 5) 1) 0 5 ((P 0 5) + 1)) q) H := hP
    replace hD : va_D A (sg_St cI cZ a (sg_up (sg_up (sg_up (sg_up (sg_up (sg_up (sg_up P 60 (sg_cn P 5) x) 61 (sg_cn P 5) y) 62 (sg_cn P 5) z) 63 (sg_cn P 5) v) 64 (sg_cn P 5) x5) 65 (sg_cn P 5) 1) 0 5 ((P 0 5) + 1)) q) := hD
    refine W.widen (k := 0) (n := 0) (by omega) (by omega) ?_
    have e9 : sg_tadd P x y z v x5 = sg_up (sg_up (sg_up (sg_up (sg_up (sg_up (sg_up P 60 (sg_cn P 5) x) 61 (sg_cn P 5) y) 62 (sg_cn P 5) z) 63 (sg_cn P 5) v) 64 (sg_cn P 5) x5) 65 (sg_cn P 5) 1) 0 5 ((P 0 5) + 1) := by rw [sg_tadd, if_pos c_3]
    have hP9 : va_P D vwCl (sg_St cI cZ a (sg_tadd P x y z v x5) q) H := by rw [e9]; exact hP
    have hD9 : va_D A (sg_St cI cZ a (sg_tadd P x y z v x5) q) := by rw [e9]; exact hD
    exact W.vret hx hb hr (fun t ht hW => ⟨⟨(), rfl, trivial, by rw [ht]; exact hP9, hD9⟩, hS.F ht⟩) hS.2.2 dX7_add_80
  · refine W.widen (k := 0) (n := 0) (by omega) (by omega) ?_
    have e9 : sg_tadd P x y z v x5 = P := by rw [sg_tadd, if_neg c_3]
    have hP9 : va_P D vwCl (sg_St cI cZ a (sg_tadd P x y z v x5) q) s.heap := by rw [e9]; exact hP
    have hD9 : va_D A (sg_St cI cZ a (sg_tadd P x y z v x5) q) := by rw [e9]; exact hD
    exact W.vret hx hb hr (fun t ht hW => ⟨⟨(), rfl, trivial, by rw [ht]; exact hP9, hD9⟩, hS.F ht⟩) hS.2.2 dX7_add_7

theorem sg_tadd_K (P : sg_Pic) (x y z v x5 : Int32) : sg_K5 (sg_tadd P x y z v x5) P := by
  unfold sg_tadd
  split
  · rename_i c
    refine ⟨fun k hk => ?_, rfl, fun hw => ?_⟩
    · show sg_up P 0 5 ((P 0 5) + 1) 0 k = P 0 k
      exact sg_ne_n 0 k hk
    · exact hw.up5 (sg_full_lt hw c)
  · exact sg_K5.of ⟨rfl, rfl⟩
theorem sg_tadd_W {P : sg_Pic} {x y z v x5 : Int32} (hw : sg_W P) : sg_W (sg_tadd P x y z v x5) := (sg_tadd_K P x y z v x5).W hw

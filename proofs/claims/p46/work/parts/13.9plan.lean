abbrev sg_PiL : Type := Nat → Nat → Int64
def sg_ul (V : sg_PiL) (k i : Nat) (v : Int64) : sg_PiL := fun r => match Nat.beq r k with
  | true => vp_updL (V k) i v
  | false => V r
/-- all cells of a plan -/
def sg_Pl (cI cJ : ClassId) (pa : Nat → Nat) (U : sg_Pic) (V : sg_PiL) : va_W := [(pa 0, .inr (3, [.int (U 0 0), .ref (pa 1), .ref (pa 2), .ref (pa 3), .ref (pa 4), .ref (pa 5), .ref (pa 6)])), (pa 1, .inl (cI, 5, .inl (U 1))), (pa 2, .inl (cI, 5, .inl (U 2))), (pa 3, .inl (cJ, 25, .inr (.inl (V 3)))), (pa 4, .inl (cJ, 5, .inr (.inl (V 4)))), (pa 5, .inl (cI, 5, .inl (U 5))), (pa 6, .inl (cI, 25, .inl (U 6)))]
def sg_UN (U : sg_Pic) : Prop := U 0 0 = nI (Int32.toNatClampNeg (U 0 0)) ∧ Int32.toNatClampNeg (U 0 0) ≤ 5
theorem sg_W.un {U P : sg_Pic} (h : sg_W P) : sg_UN (sg_up U 0 0 (P 0 2)) := h.2.1
theorem sg_UN.n {U : sg_Pic} (h : sg_UN U) : sg_cn U 0 ≤ 5 := h.2
theorem sg_UN.e {U : sg_Pic} (h : sg_UN U) : U 0 0 = nI (sg_cn U 0) := h.1
def sg_KU (U T : sg_Pic) : Prop := U 0 = T 0
theorem sg_KU.N {U T : sg_Pic} (h : sg_KU U T) (g : sg_UN T) : sg_UN U := by
  unfold sg_UN
  rw [show U 0 = T 0 from h]
  exact g
theorem sg_KU.e {U T : sg_Pic} (h : sg_KU U T) : U 0 0 = T 0 0 := by rw [show U 0 = T 0 from h]
/-- the sites ahead are sites, or none -/
def sg_UA (ns : Nat) (U : sg_Pic) : Prop := ∀ i, i < ns → U 5 i = -1 ∨ ∃ k, k < ns ∧ U 5 i = nI k
theorem sg_UA.n {ns : Nat} {U : sg_Pic} {i : Nat} (h : sg_UA ns U) (hn : ns ≤ 5) (hi : i < ns) (c : ¬ (U 5 i = -1)) : U 5 i = nI (Int32.toNatClampNeg (U 5 i)) ∧ Int32.toNatClampNeg (U 5 i) < ns := by
  rcases h i hi with q | ⟨k, hk, q⟩
  · exact absurd q c
  · rw [q, nI_clamp (by omega)]
    exact ⟨rfl, hk⟩
theorem sg_UA.up {ns : Nat} {U : sg_Pic} {x f : Nat} (h : sg_UA ns U) (hf : f < ns) : sg_UA ns (sg_up U 5 x (nI f)) := fun i hi => by
  show upd (U 5) x (nI f) i = -1 ∨ ∃ k, k < ns ∧ upd (U 5) x (nI f) i = nI k
  by_cases e : i = x
  · subst e
    rw [pk_us]
    exact Or.inr ⟨f, hf, rfl⟩
  · rw [pk_un e]
    exact h i hi

def sg_costOf (xa : Nat) (x : Int32) : Int64 := (if x = 0 then 0 else ((x.toInt64 <<< ((25 : Int32).toInt64 &&& 63)) - ((1 : Int64) <<< ((24 - (nI xa)).toInt64 &&& 63))))

set_option maxHeartbeats 4000000 in
set_option maxRecDepth 100000 in
/-- X3_costOf -/
theorem c_costOf (l : Launch) (D : va_G) (cI cZ cJ : ClassId) (lo sz : Nat) (xa : Nat) (x : Int32) : Met l yX3_costOf wsX3_costOf ({ frames := 0, cells := 0, slots := 0, locals := 0 }) (Pre lo D cI cZ cJ [.int (nI xa), .int x] sz []) (vp_Sl (fun r => r = sg_costOf xa x)) 0 0 (fun _ => False) := by
  refine Met.ofW (cc := cX3_costOf) (maxL := 2) (ret := (some .long)) (by decide) rfl ?_
  intro p e s m args below meth c s₁ B hml hv
  obtain ⟨rfl, hsz, hP, hD0, hC⟩ := hv
  have hx := B.exec
  have hb := B.bytes
  have hr := B.returns
  have hts := atoms_spec (ws := wsX3_costOf) B.pre
  have hown : s.vm.findClass RX3 = some m.cls := findClass_of_methodNamed B.named
  have hlocks := B.notSynchronized
  subst hsz
  have hK := hC.K
  have hD := hD0
  have hS : va_S (fun q => lo ≤ q) s.heap s.heap [] := va_S.rf
  have hAlo : ∀ q, (fun q => lo ≤ q) q → lo ≤ q := fun _ h => h
  have hL : ∀ q ∈ ([] : List Loc), (fun _ : Addr => False) q.base := fun q h => by cases h
  have hP : va_P D vwCl [] s.heap := hP
  have hl := lv_entry ([.int (nI xa), .int x]) (n := 2) (Nat.le_of_ble_eq_true rfl)
  rw [lg_entry_eq]
  generalize (lg_sl ([.int (nI xa), .int x]) ++ List.replicate (2 - (lg_sl ([.int (nI xa), .int x])).length) Slot.unset).toArray = ls at hl ⊢
  have hl : lv_has ls 2 [(0, .int (nI xa)), (1, .int x)] := hl
  refine lv_iload_n hx hb dX3_costOf_0 rfl (lv_at hl 1 rfl) ?_
  refine lv_if_ne (tgt := 8) hx hb dX3_costOf_1 (by decide) (fun c_1 => ?_) (fun c_1 => ?_)
  · refine lv_iload_n hx hb dX3_costOf_8 rfl (lv_at hl 1 rfl) ?_
    refine lv_i2l (v := x.toInt64) hx hb dX3_costOf_9 rfl ?_
    refine lv_bipush (v := 25) hx hb dX3_costOf_10 (by decide) ?_
    refine lv_lshl (v := x.toInt64 <<< ((25 : Int32).toInt64 &&& 63)) hx hb dX3_costOf_12 rfl ?_
    refine lv_lconst (v := 1) hx hb dX3_costOf_13 (by decide) ?_
    refine lv_bipush (v := 24) hx hb dX3_costOf_14 (by decide) ?_
    refine lv_iload_n hx hb dX3_costOf_16 rfl (lv_at hl 0 rfl) ?_
    refine lv_isub hx hb dX3_costOf_17 ?_
    refine lv_lshl (v := (1 : Int64) <<< ((24 - (nI xa)).toInt64 &&& 63)) hx hb dX3_costOf_18 rfl ?_
    refine lv_lsub hx hb dX3_costOf_19 ?_
    exact W.lret (v := ((x.toInt64 <<< ((25 : Int32).toInt64 &&& 63)) - ((1 : Int64) <<< ((24 - (nI xa)).toInt64 &&& 63)))) hx hb hr (fun t ht hW => ⟨((x.toInt64 <<< ((25 : Int32).toInt64 &&& 63)) - ((1 : Int64) <<< ((24 - (nI xa)).toInt64 &&& 63))), rfl, (show ((x.toInt64 <<< ((25 : Int32).toInt64 &&& 63)) - ((1 : Int64) <<< ((24 - (nI xa)).toInt64 &&& 63)) : Int64) = sg_costOf xa x from by rw [sg_costOf, if_neg c_1]), ht⟩) hL dX3_costOf_20
  · refine lv_lconst (v := 0) hx hb dX3_costOf_4 (by decide) ?_
    refine lv_goto (tgt := 20) hx hb dX3_costOf_5 (by decide) ?_
    exact W.lret (v := 0) hx hb hr (fun t ht hW => ⟨0, rfl, (show (0 : Int64) = sg_costOf xa x from by rw [sg_costOf, if_pos c_1]), ht⟩) hL dX3_costOf_20

def sg_step_U (U : sg_Pic) (V : sg_PiL) (xf : Nat) (xt : Nat) : sg_Pic := (if (lg_cmp (V 4 xf) 1152921504606846976) = 0 then U else (if (lg_cmp (V 3 ((xf * 5) + xt)) 0) = 0 then (if (U 6 ((xt * 5) + xf)) ≤ 0 then (if (lg_cmp (V 3 ((xf * 5) + xt)) 0) = 0 then U else (if (lg_cmp (V 4 xt) 1152921504606846976) = 0 then (sg_up U 5 xt (nI xf)) else (if 0 ≤ (lg_cmp ((V 4 xf) + (V 3 ((xf * 5) + xt))) (V 4 xt)) then U else (sg_up U 5 xt (nI xf))))) else (if (lg_cmp (-(V 3 ((xt * 5) + xf))) 0) = 0 then U else (if (lg_cmp (V 4 xt) 1152921504606846976) = 0 then (sg_up U 5 xt (nI xf)) else (if 0 ≤ (lg_cmp ((V 4 xf) + (-(V 3 ((xt * 5) + xf)))) (V 4 xt)) then U else (sg_up U 5 xt (nI xf)))))) else (if (lg_cmp (V 3 ((xf * 5) + xt)) 0) = 0 then U else (if (lg_cmp (V 4 xt) 1152921504606846976) = 0 then (sg_up U 5 xt (nI xf)) else (if 0 ≤ (lg_cmp ((V 4 xf) + (V 3 ((xf * 5) + xt))) (V 4 xt)) then U else (sg_up U 5 xt (nI xf)))))))

theorem sg_step_KU (U : sg_Pic) (V : sg_PiL) (xf : Nat) (xt : Nat) : sg_KU (sg_step_U U V xf xt) U := by
  unfold sg_step_U
  repeat' split
  all_goals first | exact rfl

def sg_step_V (U : sg_Pic) (V : sg_PiL) (xf : Nat) (xt : Nat) : sg_PiL := (if (lg_cmp (V 4 xf) 1152921504606846976) = 0 then V else (if (lg_cmp (V 3 ((xf * 5) + xt)) 0) = 0 then (if (U 6 ((xt * 5) + xf)) ≤ 0 then (if (lg_cmp (V 3 ((xf * 5) + xt)) 0) = 0 then V else (if (lg_cmp (V 4 xt) 1152921504606846976) = 0 then (sg_ul V 4 xt ((V 4 xf) + (V 3 ((xf * 5) + xt)))) else (if 0 ≤ (lg_cmp ((V 4 xf) + (V 3 ((xf * 5) + xt))) (V 4 xt)) then V else (sg_ul V 4 xt ((V 4 xf) + (V 3 ((xf * 5) + xt))))))) else (if (lg_cmp (-(V 3 ((xt * 5) + xf))) 0) = 0 then V else (if (lg_cmp (V 4 xt) 1152921504606846976) = 0 then (sg_ul V 4 xt ((V 4 xf) + (-(V 3 ((xt * 5) + xf))))) else (if 0 ≤ (lg_cmp ((V 4 xf) + (-(V 3 ((xt * 5) + xf)))) (V 4 xt)) then V else (sg_ul V 4 xt ((V 4 xf) + (-(V 3 ((xt * 5) + xf))))))))) else (if (lg_cmp (V 3 ((xf * 5) + xt)) 0) = 0 then V else (if (lg_cmp (V 4 xt) 1152921504606846976) = 0 then (sg_ul V 4 xt ((V 4 xf) + (V 3 ((xf * 5) + xt)))) else (if 0 ≤ (lg_cmp ((V 4 xf) + (V 3 ((xf * 5) + xt))) (V 4 xt)) then V else (sg_ul V 4 xt ((V 4 xf) + (V 3 ((xf * 5) + xt)))))))))

set_option maxHeartbeats 4000000 in
set_option maxRecDepth 100000 in
/-- X3_step -/
theorem c_step (l : Launch) (D : va_G) (cI cZ cJ : ClassId) (lo sz : Nat) (pa : Nat → Nat) (U : sg_Pic) (V : sg_PiL) (xf : Nat) (xt : Nat) (hU : sg_UN U) (hf : xf < 5) (ht : xt < 5) : Met l yX3_step wsX3_step ({ frames := 1, cells := 0, slots := 0, locals := 21 }) (Pre lo D cI cZ cJ [.ref (pa 0), .int (nI xf), .int (nI xt)] sz (sg_Pl cI cJ pa U V)) (va_Qv (fun _ : Unit => True) (fun _ t => va_P D vwCl (sg_Pl cI cJ pa (sg_step_U U V xf xt) (sg_step_V U V xf xt)) t.heap ∧ va_D (va_A (sg_Pl cI cJ pa U V) sz) (sg_Pl cI cJ pa (sg_step_U U V xf xt) (sg_step_V U V xf xt))) (va_A (sg_Pl cI cJ pa U V) sz)) 0 0 (va_A (sg_Pl cI cJ pa U V) sz) := by
  refine Met.ofW (cc := cX3_step) (maxL := 6) (ret := none) (by decide) rfl ?_
  intro p e s m args below meth c s₁ B hml hv
  obtain ⟨rfl, hsz, hP, hD0, hC⟩ := hv
  have hx := B.exec
  have hb := B.bytes
  have hr := B.returns
  have hts := atoms_spec (ws := wsX3_step) B.pre
  have hown : s.vm.findClass RX3 = some m.cls := findClass_of_methodNamed B.named
  have hlocks := B.notSynchronized
  subst hsz
  have hnU : sg_cn U 0 ≤ 5 := hU.n
  have hK := hC.K
  have hD := hD0.self (sz := s.heap.size)
  have hAlo0 := va_A_lo hD0 hC.1
  generalize hAe : va_A (sg_Pl cI cJ pa U V) s.heap.size = A at hD hAlo0 ⊢
  have hA : ∀ q : Nat, s.heap.size ≤ q → A q := fun q h => by rw [← hAe]; exact Or.inr h
  have hAlo : ∀ q, A q → lo ≤ q := hAlo0
  have hS : va_S A s.heap s.heap [] := va_S.rf
  have hP : va_P D vwCl (sg_Pl cI cJ pa U V) s.heap := hP
  have hl := lv_entry ([.ref (pa 0), .int (nI xf), .int (nI xt)]) (n := 6) (Nat.le_of_ble_eq_true rfl)
  rw [lg_entry_eq]
  generalize (lg_sl ([.ref (pa 0), .int (nI xf), .int (nI xt)]) ++ List.replicate (6 - (lg_sl ([.ref (pa 0), .int (nI xf), .int (nI xt)])).length) Slot.unset).toArray = ls at hl ⊢
  have hl : lv_has ls 6 [(0, .ref (pa 0)), (1, .int (nI xf)), (2, .int (nI xt))] := hl
  have in3 : ∀ w ∈ u_ws RX3 TX3 7, w ∈ wsX3_step := by decide +kernel
  refine lv_aload_n hx hb dX3_step_0 rfl (lv_at hl 0 rfl) ?_
  refine va_get (D := D) (ci := 3) (v := .ref (pa 4)) (C := RX3) (T := TX3) (N := 7) hx hb hts in3 hown hK hP 0 rfl rfl 4 (by decide) (hts (.fieldLink RX3 22 "Granary$Plan" "reach" "[J") (by decide +kernel)) (fun _ h9 => h9) rfl dX3_step_1 ?_
  refine lv_iload_n hx hb dX3_step_4 rfl (lv_at hl 1 rfl) ?_
  refine sg_lald hx hb hK hP 4 2 rfl rfl (j := xf) rfl (by omega) (Nat.le_of_ble_eq_true rfl) dX3_step_5 ?_
  refine lv_tol (y := V 4 xf) rfl ?_
  refine lv_ldc2 hx hb (v := 1152921504606846976) hown (hts (.constantLong RX3 74 (1152921504606846976)) (by decide +kernel)) dX3_step_6 ?_
  refine W.lcmp hx hb dX3_step_9 ?_
  refine lv_toi (y := lg_cmp (V 4 xf) 1152921504606846976) rfl ?_
  refine lv_if_ne (tgt := 14) hx hb dX3_step_10 (by decide) (fun c_1 => ?_) (fun c_1 => ?_)
  · refine lv_iload_n hx hb dX3_step_14 rfl (lv_at hl 2 rfl) ?_
    refine lv_iload_n hx hb dX3_step_15 rfl (lv_at hl 1 rfl) ?_
    have hPc := hP.sub (ws' := []) [] rfl
    have hDc := hD.sub (ws' := []) [] (by decide) rfl
    refine vp_callSi (sg_dr (va_runSN (As := [.int (nI xt), .int (nI xf)]) (rest := []) ⟨hx, hb, hml, hown, hts⟩ (c_pair l D cI cZ cJ lo s.heap.size xt xf) ⟨va_cnB 2 hts gX3_step_X8_pair_n52 rfl rfl rfl (hC.nestX3_52) (hts (.initialized RX8) (by decide +kernel)) (by decide +kernel) ⟨(Nat.le_of_ble_eq_true rfl), (Nat.le_of_ble_eq_true rfl)⟩, (hts (.static yX8_pair) (by decide +kernel)), trivial⟩ ⟨Pre.blind, Pre.mk hPc (hDc.weaken (fun _ _ _ h => hAlo _ h)) hC hS hAlo⟩ rfl rfl hl.1 rfl (lv_room (Nat.le_of_ble_eq_true rfl)) dX3_step_16 ⟨(Nat.le_of_ble_eq_true rfl), (Nat.le_of_ble_eq_true rfl)⟩)) (fun r_2 e_3 => ?_)
    clear hPc hDc
    have e_3 : nI ((xt * 5) + xf) = r_2 := Eq.symm e_3
    subst e_3
    refine lv_istore_n (lv' := [(3, .int (nI ((xt * 5) + xf))), (0, .ref (pa 0)), (1, .int (nI xf)), (2, .int (nI xt))]) hx hb dX3_step_19 rfl hl (by decide) rfl (fun ls hl => ?_)
    refine lv_aload_n hx hb dX3_step_20 rfl (lv_at hl 1 rfl) ?_
    refine va_get (D := D) (ci := 3) (v := .ref (pa 3)) (C := RX3) (T := TX3) (N := 7) hx hb hts in3 hown hK hP 0 rfl rfl 3 (by decide) (hts (.fieldLink RX3 18 "Granary$Plan" "cost" "[J") (by decide +kernel)) (fun _ h9 => h9) rfl dX3_step_21 ?_
    refine lv_iload_n hx hb dX3_step_24 rfl (lv_at hl 2 rfl) ?_
    refine lv_iload_n hx hb dX3_step_25 rfl (lv_at hl 3 rfl) ?_
    have hPc := hP.sub (ws' := []) [] rfl
    have hDc := hD.sub (ws' := []) [] (by decide) rfl
    refine vp_callSi (sg_dr (va_runSN (As := [.int (nI xf), .int (nI xt)]) (rest := [.ref (pa 3)]) ⟨hx, hb, hml, hown, hts⟩ (c_pair l D cI cZ cJ lo s.heap.size xf xt) ⟨va_cnB 2 hts gX3_step_X8_pair_n52 rfl rfl rfl (hC.nestX3_52) (hts (.initialized RX8) (by decide +kernel)) (by decide +kernel) ⟨(Nat.le_of_ble_eq_true rfl), (Nat.le_of_ble_eq_true rfl)⟩, (hts (.static yX8_pair) (by decide +kernel)), trivial⟩ ⟨Pre.blind, Pre.mk hPc (hDc.weaken (fun _ _ _ h => hAlo _ h)) hC hS hAlo⟩ rfl rfl hl.1 rfl (lv_room (Nat.le_of_ble_eq_true rfl)) dX3_step_26 ⟨(Nat.le_of_ble_eq_true rfl), (Nat.le_of_ble_eq_true rfl)⟩)) (fun r_4 e_5 => ?_)
    clear hPc hDc
    have e_5 : nI ((xf * 5) + xt) = r_4 := Eq.symm e_5
    subst e_5
    refine sg_lald hx hb hK hP 3 2 rfl rfl (j := (xf * 5) + xt) rfl (by omega) (Nat.le_of_ble_eq_true rfl) dX3_step_29 ?_
    refine lv_tol (y := V 3 ((xf * 5) + xt)) rfl ?_
    refine lv_lstore (lv' := [(4, .long (V 3 ((xf * 5) + xt))), (3, .int (nI ((xt * 5) + xf))), (0, .ref (pa 0)), (1, .int (nI xf)), (2, .int (nI xt))]) hx hb dX3_step_30 hl (by decide) rfl (fun ls hl => ?_)
    refine lv_lload hx hb dX3_step_32 (lv_at hl 0 rfl) ?_
    refine lv_lconst (v := 0) hx hb dX3_step_34 (by decide) ?_
    refine W.lcmp hx hb dX3_step_35 ?_
    refine lv_toi (y := lg_cmp (V 3 ((xf * 5) + xt)) 0) rfl ?_
    refine lv_if_ne (tgt := 57) hx hb dX3_step_36 (by decide) (fun c_6 => ?_) (fun c_6 => ?_)
    · refine lv_lload hx hb dX3_step_57 (lv_at hl 0 rfl) ?_
      refine lv_lconst (v := 0) hx hb dX3_step_59 (by decide) ?_
      refine W.lcmp hx hb dX3_step_60 ?_
      refine lv_toi (y := lg_cmp (V 3 ((xf * 5) + xt)) 0) rfl ?_
      refine lv_if_eq (tgt := 118) hx hb dX3_step_61 (by decide) (fun c_7 => ?_) (fun c_7 => ?_)
      · refine W.widen (k := 0) (n := 0) (by omega) (by omega) ?_
        have e90 : sg_step_U U V xf xt = U := by rw [sg_step_U, if_neg c_1, if_neg c_6, if_pos c_7]
        have e91 : sg_step_V U V xf xt = V := by rw [sg_step_V, if_neg c_1, if_neg c_6, if_pos c_7]
        have hP9 : va_P D vwCl (sg_Pl cI cJ pa (sg_step_U U V xf xt) (sg_step_V U V xf xt)) s.heap := by rw [e91]; rw [e90]; exact hP
        have hD9 : va_D A (sg_Pl cI cJ pa (sg_step_U U V xf xt) (sg_step_V U V xf xt)) := by rw [e91]; rw [e90]; exact hD
        exact W.vret hx hb hr (fun t ht hW => ⟨⟨(), rfl, trivial, by rw [ht]; exact hP9, hD9⟩, hS.F ht⟩) hS.2.2 dX3_step_118
      · refine lv_aload_n hx hb dX3_step_64 rfl (lv_at hl 2 rfl) ?_
        refine va_get (D := D) (ci := 3) (v := .ref (pa 4)) (C := RX3) (T := TX3) (N := 7) hx hb hts in3 hown hK hP 0 rfl rfl 4 (by decide) (hts (.fieldLink RX3 22 "Granary$Plan" "reach" "[J") (by decide +kernel)) (fun _ h9 => h9) rfl dX3_step_65 ?_
        refine lv_iload_n hx hb dX3_step_68 rfl (lv_at hl 4 rfl) ?_
        refine sg_lald hx hb hK hP 4 2 rfl rfl (j := xt) rfl (by omega) (Nat.le_of_ble_eq_true rfl) dX3_step_69 ?_
        refine lv_tol (y := V 4 xt) rfl ?_
        refine lv_ldc2 hx hb (v := 1152921504606846976) hown (hts (.constantLong RX3 74 (1152921504606846976)) (by decide +kernel)) dX3_step_70 ?_
        refine W.lcmp hx hb dX3_step_73 ?_
        refine lv_toi (y := lg_cmp (V 4 xt) 1152921504606846976) rfl ?_
        refine lv_if_eq (tgt := 96) hx hb dX3_step_74 (by decide) (fun c_8 => ?_) (fun c_8 => ?_)
        · refine lv_aload_n hx hb dX3_step_96 rfl (lv_at hl 2 rfl) ?_
          refine va_get (D := D) (ci := 3) (v := .ref (pa 4)) (C := RX3) (T := TX3) (N := 7) hx hb hts in3 hown hK hP 0 rfl rfl 4 (by decide) (hts (.fieldLink RX3 22 "Granary$Plan" "reach" "[J") (by decide +kernel)) (fun _ h9 => h9) rfl dX3_step_97 ?_
          refine lv_iload_n hx hb dX3_step_100 rfl (lv_at hl 4 rfl) ?_
          refine lv_aload_n hx hb dX3_step_101 rfl (lv_at hl 2 rfl) ?_
          refine va_get (D := D) (ci := 3) (v := .ref (pa 4)) (C := RX3) (T := TX3) (N := 7) hx hb hts in3 hown hK hP 0 rfl rfl 4 (by decide) (hts (.fieldLink RX3 22 "Granary$Plan" "reach" "[J") (by decide +kernel)) (fun _ h9 => h9) rfl dX3_step_102 ?_
          refine lv_iload_n hx hb dX3_step_105 rfl (lv_at hl 3 rfl) ?_
          refine sg_lald hx hb hK hP 4 2 rfl rfl (j := xf) rfl (by omega) (Nat.le_of_ble_eq_true rfl) dX3_step_106 ?_
          refine lv_tol (y := V 4 xf) rfl ?_
          refine lv_lload hx hb dX3_step_107 (lv_at hl 0 rfl) ?_
          refine lv_ladd hx hb dX3_step_109 ?_
          refine sg_last hx hb hK hP hD hS 4 2 rfl rfl (j := xt) rfl (by omega) (Nat.le_of_ble_eq_true rfl) dX3_step_110 (fun H locs hP hD hS => ?_)
          replace hP : va_P D vwCl (sg_Pl cI cJ pa U (sg_ul V 4 xt ((V 4 xf) + (V 3 ((xf * 5) + xt))))) H := hP
          replace hD : va_D A (sg_Pl cI cJ pa U (sg_ul V 4 xt ((V 4 xf) + (V 3 ((xf * 5) + xt))))) := hD
          refine lv_aload_n hx hb dX3_step_111 rfl (lv_at hl 2 rfl) ?_
          refine va_get (D := D) (ci := 3) (v := .ref (pa 5)) (C := RX3) (T := TX3) (N := 7) hx hb hts in3 hown hK hP 0 rfl rfl 5 (by decide) (hts (.fieldLink RX3 25 "Granary$Plan" "ahead" "[I") (by decide +kernel)) (fun _ h9 => h9) rfl dX3_step_112 ?_
          refine lv_iload_n hx hb dX3_step_115 rfl (lv_at hl 4 rfl) ?_
          refine lv_iload_n hx hb dX3_step_116 rfl (lv_at hl 3 rfl) ?_
          refine sg_iast hx hb hK hP hD hS 5 0 rfl rfl (j := xt) rfl (by omega) (Nat.le_of_ble_eq_true rfl) dX3_step_117 (fun H locs hP hD hS => ?_)
          replace hP : va_P D vwCl (sg_Pl cI cJ pa (sg_up U 5 xt (nI xf)) (sg_ul V 4 xt ((V 4 xf) + (V 3 ((xf * 5) + xt))))) H := hP
          replace hD : va_D A (sg_Pl cI cJ pa (sg_up U 5 xt (nI xf)) (sg_ul V 4 xt ((V 4 xf) + (V 3 ((xf * 5) + xt))))) := hD
          refine W.widen (k := 0) (n := 0) (by omega) (by omega) ?_
          have e90 : sg_step_U U V xf xt = sg_up U 5 xt (nI xf) := by rw [sg_step_U, if_neg c_1, if_neg c_6, if_neg c_7, if_pos c_8]
          have e91 : sg_step_V U V xf xt = sg_ul V 4 xt ((V 4 xf) + (V 3 ((xf * 5) + xt))) := by rw [sg_step_V, if_neg c_1, if_neg c_6, if_neg c_7, if_pos c_8]
          have hP9 : va_P D vwCl (sg_Pl cI cJ pa (sg_step_U U V xf xt) (sg_step_V U V xf xt)) H := by rw [e91]; rw [e90]; exact hP
          have hD9 : va_D A (sg_Pl cI cJ pa (sg_step_U U V xf xt) (sg_step_V U V xf xt)) := by rw [e91]; rw [e90]; exact hD
          exact W.vret hx hb hr (fun t ht hW => ⟨⟨(), rfl, trivial, by rw [ht]; exact hP9, hD9⟩, hS.F ht⟩) hS.2.2 dX3_step_118
        · refine lv_aload_n hx hb dX3_step_77 rfl (lv_at hl 2 rfl) ?_
          refine va_get (D := D) (ci := 3) (v := .ref (pa 4)) (C := RX3) (T := TX3) (N := 7) hx hb hts in3 hown hK hP 0 rfl rfl 4 (by decide) (hts (.fieldLink RX3 22 "Granary$Plan" "reach" "[J") (by decide +kernel)) (fun _ h9 => h9) rfl dX3_step_78 ?_
          refine lv_iload_n hx hb dX3_step_81 rfl (lv_at hl 3 rfl) ?_
          refine sg_lald hx hb hK hP 4 2 rfl rfl (j := xf) rfl (by omega) (Nat.le_of_ble_eq_true rfl) dX3_step_82 ?_
          refine lv_tol (y := V 4 xf) rfl ?_
          refine lv_lload hx hb dX3_step_83 (lv_at hl 0 rfl) ?_
          refine lv_ladd hx hb dX3_step_85 ?_
          refine lv_aload_n hx hb dX3_step_86 rfl (lv_at hl 2 rfl) ?_
          refine va_get (D := D) (ci := 3) (v := .ref (pa 4)) (C := RX3) (T := TX3) (N := 7) hx hb hts in3 hown hK hP 0 rfl rfl 4 (by decide) (hts (.fieldLink RX3 22 "Granary$Plan" "reach" "[J") (by decide +kernel)) (fun _ h9 => h9) rfl dX3_step_87 ?_
          refine lv_iload_n hx hb dX3_step_90 rfl (lv_at hl 4 rfl) ?_
          refine sg_lald hx hb hK hP 4 2 rfl rfl (j := xt) rfl (by omega) (Nat.le_of_ble_eq_true rfl) dX3_step_91 ?_
          refine lv_tol (y := V 4 xt) rfl ?_
          refine W.lcmp hx hb dX3_step_92 ?_
          refine lv_toi (y := lg_cmp ((V 4 xf) + (V 3 ((xf * 5) + xt))) (V 4 xt)) rfl ?_
          refine lv_if_ge (tgt := 118) hx hb dX3_step_93 (by decide) (fun c_9 => ?_) (fun c_9 => ?_)
          · refine W.widen (k := 0) (n := 0) (by omega) (by omega) ?_
            have e90 : sg_step_U U V xf xt = U := by rw [sg_step_U, if_neg c_1, if_neg c_6, if_neg c_7, if_neg c_8, if_pos c_9]
            have e91 : sg_step_V U V xf xt = V := by rw [sg_step_V, if_neg c_1, if_neg c_6, if_neg c_7, if_neg c_8, if_pos c_9]
            have hP9 : va_P D vwCl (sg_Pl cI cJ pa (sg_step_U U V xf xt) (sg_step_V U V xf xt)) s.heap := by rw [e91]; rw [e90]; exact hP
            have hD9 : va_D A (sg_Pl cI cJ pa (sg_step_U U V xf xt) (sg_step_V U V xf xt)) := by rw [e91]; rw [e90]; exact hD
            exact W.vret hx hb hr (fun t ht hW => ⟨⟨(), rfl, trivial, by rw [ht]; exact hP9, hD9⟩, hS.F ht⟩) hS.2.2 dX3_step_118
          · refine lv_aload_n hx hb dX3_step_96 rfl (lv_at hl 2 rfl) ?_
            refine va_get (D := D) (ci := 3) (v := .ref (pa 4)) (C := RX3) (T := TX3) (N := 7) hx hb hts in3 hown hK hP 0 rfl rfl 4 (by decide) (hts (.fieldLink RX3 22 "Granary$Plan" "reach" "[J") (by decide +kernel)) (fun _ h9 => h9) rfl dX3_step_97 ?_
            refine lv_iload_n hx hb dX3_step_100 rfl (lv_at hl 4 rfl) ?_
            refine lv_aload_n hx hb dX3_step_101 rfl (lv_at hl 2 rfl) ?_
            refine va_get (D := D) (ci := 3) (v := .ref (pa 4)) (C := RX3) (T := TX3) (N := 7) hx hb hts in3 hown hK hP 0 rfl rfl 4 (by decide) (hts (.fieldLink RX3 22 "Granary$Plan" "reach" "[J") (by decide +kernel)) (fun _ h9 => h9) rfl dX3_step_102 ?_
            refine lv_iload_n hx hb dX3_step_105 rfl (lv_at hl 3 rfl) ?_
            refine sg_lald hx hb hK hP 4 2 rfl rfl (j := xf) rfl (by omega) (Nat.le_of_ble_eq_true rfl) dX3_step_106 ?_
            refine lv_tol (y := V 4 xf) rfl ?_
            refine lv_lload hx hb dX3_step_107 (lv_at hl 0 rfl) ?_
            refine lv_ladd hx hb dX3_step_109 ?_
            refine sg_last hx hb hK hP hD hS 4 2 rfl rfl (j := xt) rfl (by omega) (Nat.le_of_ble_eq_true rfl) dX3_step_110 (fun H locs hP hD hS => ?_)
            replace hP : va_P D vwCl (sg_Pl cI cJ pa U (sg_ul V 4 xt ((V 4 xf) + (V 3 ((xf * 5) + xt))))) H := hP
            replace hD : va_D A (sg_Pl cI cJ pa U (sg_ul V 4 xt ((V 4 xf) + (V 3 ((xf * 5) + xt))))) := hD
            refine lv_aload_n hx hb dX3_step_111 rfl (lv_at hl 2 rfl) ?_
            refine va_get (D := D) (ci := 3) (v := .ref (pa 5)) (C := RX3) (T := TX3) (N := 7) hx hb hts in3 hown hK hP 0 rfl rfl 5 (by decide) (hts (.fieldLink RX3 25 "Granary$Plan" "ahead" "[I") (by decide +kernel)) (fun _ h9 => h9) rfl dX3_step_112 ?_
            refine lv_iload_n hx hb dX3_step_115 rfl (lv_at hl 4 rfl) ?_
            refine lv_iload_n hx hb dX3_step_116 rfl (lv_at hl 3 rfl) ?_
            refine sg_iast hx hb hK hP hD hS 5 0 rfl rfl (j := xt) rfl (by omega) (Nat.le_of_ble_eq_true rfl) dX3_step_117 (fun H locs hP hD hS => ?_)
            replace hP : va_P D vwCl (sg_Pl cI cJ pa (sg_up U 5 xt (nI xf)) (sg_ul V 4 xt ((V 4 xf) + (V 3 ((xf * 5) + xt))))) H := hP
            replace hD : va_D A (sg_Pl cI cJ pa (sg_up U 5 xt (nI xf)) (sg_ul V 4 xt ((V 4 xf) + (V 3 ((xf * 5) + xt))))) := hD
            refine W.widen (k := 0) (n := 0) (by omega) (by omega) ?_
            have e90 : sg_step_U U V xf xt = sg_up U 5 xt (nI xf) := by rw [sg_step_U, if_neg c_1, if_neg c_6, if_neg c_7, if_neg c_8, if_neg c_9]
            have e91 : sg_step_V U V xf xt = sg_ul V 4 xt ((V 4 xf) + (V 3 ((xf * 5) + xt))) := by rw [sg_step_V, if_neg c_1, if_neg c_6, if_neg c_7, if_neg c_8, if_neg c_9]
            have hP9 : va_P D vwCl (sg_Pl cI cJ pa (sg_step_U U V xf xt) (sg_step_V U V xf xt)) H := by rw [e91]; rw [e90]; exact hP
            have hD9 : va_D A (sg_Pl cI cJ pa (sg_step_U U V xf xt) (sg_step_V U V xf xt)) := by rw [e91]; rw [e90]; exact hD
            exact W.vret hx hb hr (fun t ht hW => ⟨⟨(), rfl, trivial, by rw [ht]; exact hP9, hD9⟩, hS.F ht⟩) hS.2.2 dX3_step_118
    · refine lv_aload_n hx hb dX3_step_39 rfl (lv_at hl 2 rfl) ?_
      refine va_get (D := D) (ci := 3) (v := .ref (pa 6)) (C := RX3) (T := TX3) (N := 7) hx hb hts in3 hown hK hP 0 rfl rfl 6 (by decide) (hts (.fieldLink RX3 28 "Granary$Plan" "units" "[I") (by decide +kernel)) (fun _ h9 => h9) rfl dX3_step_40 ?_
      refine lv_iload_n hx hb dX3_step_43 rfl (lv_at hl 1 rfl) ?_
      refine sg_iald hx hb hK hP 6 0 rfl rfl (j := (xt * 5) + xf) rfl (by omega) (Nat.le_of_ble_eq_true rfl) dX3_step_44 ?_
      refine lv_toi (y := U 6 ((xt * 5) + xf)) rfl ?_
      refine lv_if_le (tgt := 57) hx hb dX3_step_45 (by decide) (fun c_10 => ?_) (fun c_10 => ?_)
      · refine lv_lload hx hb dX3_step_57 (lv_at hl 0 rfl) ?_
        refine lv_lconst (v := 0) hx hb dX3_step_59 (by decide) ?_
        refine W.lcmp hx hb dX3_step_60 ?_
        refine lv_toi (y := lg_cmp (V 3 ((xf * 5) + xt)) 0) rfl ?_
        refine lv_if_eq (tgt := 118) hx hb dX3_step_61 (by decide) (fun c_11 => ?_) (fun c_11 => ?_)
        · refine W.widen (k := 0) (n := 0) (by omega) (by omega) ?_
          have e90 : sg_step_U U V xf xt = U := by rw [sg_step_U, if_neg c_1, if_pos c_6, if_pos c_10, if_pos c_11]
          have e91 : sg_step_V U V xf xt = V := by rw [sg_step_V, if_neg c_1, if_pos c_6, if_pos c_10, if_pos c_11]
          have hP9 : va_P D vwCl (sg_Pl cI cJ pa (sg_step_U U V xf xt) (sg_step_V U V xf xt)) s.heap := by rw [e91]; rw [e90]; exact hP
          have hD9 : va_D A (sg_Pl cI cJ pa (sg_step_U U V xf xt) (sg_step_V U V xf xt)) := by rw [e91]; rw [e90]; exact hD
          exact W.vret hx hb hr (fun t ht hW => ⟨⟨(), rfl, trivial, by rw [ht]; exact hP9, hD9⟩, hS.F ht⟩) hS.2.2 dX3_step_118
        · refine lv_aload_n hx hb dX3_step_64 rfl (lv_at hl 2 rfl) ?_
          refine va_get (D := D) (ci := 3) (v := .ref (pa 4)) (C := RX3) (T := TX3) (N := 7) hx hb hts in3 hown hK hP 0 rfl rfl 4 (by decide) (hts (.fieldLink RX3 22 "Granary$Plan" "reach" "[J") (by decide +kernel)) (fun _ h9 => h9) rfl dX3_step_65 ?_
          refine lv_iload_n hx hb dX3_step_68 rfl (lv_at hl 4 rfl) ?_
          refine sg_lald hx hb hK hP 4 2 rfl rfl (j := xt) rfl (by omega) (Nat.le_of_ble_eq_true rfl) dX3_step_69 ?_
          refine lv_tol (y := V 4 xt) rfl ?_
          refine lv_ldc2 hx hb (v := 1152921504606846976) hown (hts (.constantLong RX3 74 (1152921504606846976)) (by decide +kernel)) dX3_step_70 ?_
          refine W.lcmp hx hb dX3_step_73 ?_
          refine lv_toi (y := lg_cmp (V 4 xt) 1152921504606846976) rfl ?_
          refine lv_if_eq (tgt := 96) hx hb dX3_step_74 (by decide) (fun c_12 => ?_) (fun c_12 => ?_)
          · refine lv_aload_n hx hb dX3_step_96 rfl (lv_at hl 2 rfl) ?_
            refine va_get (D := D) (ci := 3) (v := .ref (pa 4)) (C := RX3) (T := TX3) (N := 7) hx hb hts in3 hown hK hP 0 rfl rfl 4 (by decide) (hts (.fieldLink RX3 22 "Granary$Plan" "reach" "[J") (by decide +kernel)) (fun _ h9 => h9) rfl dX3_step_97 ?_
            refine lv_iload_n hx hb dX3_step_100 rfl (lv_at hl 4 rfl) ?_
            refine lv_aload_n hx hb dX3_step_101 rfl (lv_at hl 2 rfl) ?_
            refine va_get (D := D) (ci := 3) (v := .ref (pa 4)) (C := RX3) (T := TX3) (N := 7) hx hb hts in3 hown hK hP 0 rfl rfl 4 (by decide) (hts (.fieldLink RX3 22 "Granary$Plan" "reach" "[J") (by decide +kernel)) (fun _ h9 => h9) rfl dX3_step_102 ?_
            refine lv_iload_n hx hb dX3_step_105 rfl (lv_at hl 3 rfl) ?_
            refine sg_lald hx hb hK hP 4 2 rfl rfl (j := xf) rfl (by omega) (Nat.le_of_ble_eq_true rfl) dX3_step_106 ?_
            refine lv_tol (y := V 4 xf) rfl ?_
            refine lv_lload hx hb dX3_step_107 (lv_at hl 0 rfl) ?_
            refine lv_ladd hx hb dX3_step_109 ?_
            refine sg_last hx hb hK hP hD hS 4 2 rfl rfl (j := xt) rfl (by omega) (Nat.le_of_ble_eq_true rfl) dX3_step_110 (fun H locs hP hD hS => ?_)
            replace hP : va_P D vwCl (sg_Pl cI cJ pa U (sg_ul V 4 xt ((V 4 xf) + (V 3 ((xf * 5) + xt))))) H := hP
            replace hD : va_D A (sg_Pl cI cJ pa U (sg_ul V 4 xt ((V 4 xf) + (V 3 ((xf * 5) + xt))))) := hD
            refine lv_aload_n hx hb dX3_step_111 rfl (lv_at hl 2 rfl) ?_
            refine va_get (D := D) (ci := 3) (v := .ref (pa 5)) (C := RX3) (T := TX3) (N := 7) hx hb hts in3 hown hK hP 0 rfl rfl 5 (by decide) (hts (.fieldLink RX3 25 "Granary$Plan" "ahead" "[I") (by decide +kernel)) (fun _ h9 => h9) rfl dX3_step_112 ?_
            refine lv_iload_n hx hb dX3_step_115 rfl (lv_at hl 4 rfl) ?_
            refine lv_iload_n hx hb dX3_step_116 rfl (lv_at hl 3 rfl) ?_
            refine sg_iast hx hb hK hP hD hS 5 0 rfl rfl (j := xt) rfl (by omega) (Nat.le_of_ble_eq_true rfl) dX3_step_117 (fun H locs hP hD hS => ?_)
            replace hP : va_P D vwCl (sg_Pl cI cJ pa (sg_up U 5 xt (nI xf)) (sg_ul V 4 xt ((V 4 xf) + (V 3 ((xf * 5) + xt))))) H := hP
            replace hD : va_D A (sg_Pl cI cJ pa (sg_up U 5 xt (nI xf)) (sg_ul V 4 xt ((V 4 xf) + (V 3 ((xf * 5) + xt))))) := hD
            refine W.widen (k := 0) (n := 0) (by omega) (by omega) ?_
            have e90 : sg_step_U U V xf xt = sg_up U 5 xt (nI xf) := by rw [sg_step_U, if_neg c_1, if_pos c_6, if_pos c_10, if_neg c_11, if_pos c_12]
            have e91 : sg_step_V U V xf xt = sg_ul V 4 xt ((V 4 xf) + (V 3 ((xf * 5) + xt))) := by rw [sg_step_V, if_neg c_1, if_pos c_6, if_pos c_10, if_neg c_11, if_pos c_12]
            have hP9 : va_P D vwCl (sg_Pl cI cJ pa (sg_step_U U V xf xt) (sg_step_V U V xf xt)) H := by rw [e91]; rw [e90]; exact hP
            have hD9 : va_D A (sg_Pl cI cJ pa (sg_step_U U V xf xt) (sg_step_V U V xf xt)) := by rw [e91]; rw [e90]; exact hD
            exact W.vret hx hb hr (fun t ht hW => ⟨⟨(), rfl, trivial, by rw [ht]; exact hP9, hD9⟩, hS.F ht⟩) hS.2.2 dX3_step_118
          · refine lv_aload_n hx hb dX3_step_77 rfl (lv_at hl 2 rfl) ?_
            refine va_get (D := D) (ci := 3) (v := .ref (pa 4)) (C := RX3) (T := TX3) (N := 7) hx hb hts in3 hown hK hP 0 rfl rfl 4 (by decide) (hts (.fieldLink RX3 22 "Granary$Plan" "reach" "[J") (by decide +kernel)) (fun _ h9 => h9) rfl dX3_step_78 ?_
            refine lv_iload_n hx hb dX3_step_81 rfl (lv_at hl 3 rfl) ?_
            refine sg_lald hx hb hK hP 4 2 rfl rfl (j := xf) rfl (by omega) (Nat.le_of_ble_eq_true rfl) dX3_step_82 ?_
            refine lv_tol (y := V 4 xf) rfl ?_
            refine lv_lload hx hb dX3_step_83 (lv_at hl 0 rfl) ?_
            refine lv_ladd hx hb dX3_step_85 ?_
            refine lv_aload_n hx hb dX3_step_86 rfl (lv_at hl 2 rfl) ?_
            refine va_get (D := D) (ci := 3) (v := .ref (pa 4)) (C := RX3) (T := TX3) (N := 7) hx hb hts in3 hown hK hP 0 rfl rfl 4 (by decide) (hts (.fieldLink RX3 22 "Granary$Plan" "reach" "[J") (by decide +kernel)) (fun _ h9 => h9) rfl dX3_step_87 ?_
            refine lv_iload_n hx hb dX3_step_90 rfl (lv_at hl 4 rfl) ?_
            refine sg_lald hx hb hK hP 4 2 rfl rfl (j := xt) rfl (by omega) (Nat.le_of_ble_eq_true rfl) dX3_step_91 ?_
            refine lv_tol (y := V 4 xt) rfl ?_
            refine W.lcmp hx hb dX3_step_92 ?_
            refine lv_toi (y := lg_cmp ((V 4 xf) + (V 3 ((xf * 5) + xt))) (V 4 xt)) rfl ?_
            refine lv_if_ge (tgt := 118) hx hb dX3_step_93 (by decide) (fun c_13 => ?_) (fun c_13 => ?_)
            · refine W.widen (k := 0) (n := 0) (by omega) (by omega) ?_
              have e90 : sg_step_U U V xf xt = U := by rw [sg_step_U, if_neg c_1, if_pos c_6, if_pos c_10, if_neg c_11, if_neg c_12, if_pos c_13]
              have e91 : sg_step_V U V xf xt = V := by rw [sg_step_V, if_neg c_1, if_pos c_6, if_pos c_10, if_neg c_11, if_neg c_12, if_pos c_13]
              have hP9 : va_P D vwCl (sg_Pl cI cJ pa (sg_step_U U V xf xt) (sg_step_V U V xf xt)) s.heap := by rw [e91]; rw [e90]; exact hP
              have hD9 : va_D A (sg_Pl cI cJ pa (sg_step_U U V xf xt) (sg_step_V U V xf xt)) := by rw [e91]; rw [e90]; exact hD
              exact W.vret hx hb hr (fun t ht hW => ⟨⟨(), rfl, trivial, by rw [ht]; exact hP9, hD9⟩, hS.F ht⟩) hS.2.2 dX3_step_118
            · refine lv_aload_n hx hb dX3_step_96 rfl (lv_at hl 2 rfl) ?_
              refine va_get (D := D) (ci := 3) (v := .ref (pa 4)) (C := RX3) (T := TX3) (N := 7) hx hb hts in3 hown hK hP 0 rfl rfl 4 (by decide) (hts (.fieldLink RX3 22 "Granary$Plan" "reach" "[J") (by decide +kernel)) (fun _ h9 => h9) rfl dX3_step_97 ?_
              refine lv_iload_n hx hb dX3_step_100 rfl (lv_at hl 4 rfl) ?_
              refine lv_aload_n hx hb dX3_step_101 rfl (lv_at hl 2 rfl) ?_
              refine va_get (D := D) (ci := 3) (v := .ref (pa 4)) (C := RX3) (T := TX3) (N := 7) hx hb hts in3 hown hK hP 0 rfl rfl 4 (by decide) (hts (.fieldLink RX3 22 "Granary$Plan" "reach" "[J") (by decide +kernel)) (fun _ h9 => h9) rfl dX3_step_102 ?_
              refine lv_iload_n hx hb dX3_step_105 rfl (lv_at hl 3 rfl) ?_
              refine sg_lald hx hb hK hP 4 2 rfl rfl (j := xf) rfl (by omega) (Nat.le_of_ble_eq_true rfl) dX3_step_106 ?_
              refine lv_tol (y := V 4 xf) rfl ?_
              refine lv_lload hx hb dX3_step_107 (lv_at hl 0 rfl) ?_
              refine lv_ladd hx hb dX3_step_109 ?_
              refine sg_last hx hb hK hP hD hS 4 2 rfl rfl (j := xt) rfl (by omega) (Nat.le_of_ble_eq_true rfl) dX3_step_110 (fun H locs hP hD hS => ?_)
              replace hP : va_P D vwCl (sg_Pl cI cJ pa U (sg_ul V 4 xt ((V 4 xf) + (V 3 ((xf * 5) + xt))))) H := hP
              replace hD : va_D A (sg_Pl cI cJ pa U (sg_ul V 4 xt ((V 4 xf) + (V 3 ((xf * 5) + xt))))) := hD
              refine lv_aload_n hx hb dX3_step_111 rfl (lv_at hl 2 rfl) ?_
              refine va_get (D := D) (ci := 3) (v := .ref (pa 5)) (C := RX3) (T := TX3) (N := 7) hx hb hts in3 hown hK hP 0 rfl rfl 5 (by decide) (hts (.fieldLink RX3 25 "Granary$Plan" "ahead" "[I") (by decide +kernel)) (fun _ h9 => h9) rfl dX3_step_112 ?_
              refine lv_iload_n hx hb dX3_step_115 rfl (lv_at hl 4 rfl) ?_
              refine lv_iload_n hx hb dX3_step_116 rfl (lv_at hl 3 rfl) ?_
              refine sg_iast hx hb hK hP hD hS 5 0 rfl rfl (j := xt) rfl (by omega) (Nat.le_of_ble_eq_true rfl) dX3_step_117 (fun H locs hP hD hS => ?_)
              replace hP : va_P D vwCl (sg_Pl cI cJ pa (sg_up U 5 xt (nI xf)) (sg_ul V 4 xt ((V 4 xf) + (V 3 ((xf * 5) + xt))))) H := hP
              replace hD : va_D A (sg_Pl cI cJ pa (sg_up U 5 xt (nI xf)) (sg_ul V 4 xt ((V 4 xf) + (V 3 ((xf * 5) + xt))))) := hD
              refine W.widen (k := 0) (n := 0) (by omega) (by omega) ?_
              have e90 : sg_step_U U V xf xt = sg_up U 5 xt (nI xf) := by rw [sg_step_U, if_neg c_1, if_pos c_6, if_pos c_10, if_neg c_11, if_neg c_12, if_neg c_13]
              have e91 : sg_step_V U V xf xt = sg_ul V 4 xt ((V 4 xf) + (V 3 ((xf * 5) + xt))) := by rw [sg_step_V, if_neg c_1, if_pos c_6, if_pos c_10, if_neg c_11, if_neg c_12, if_neg c_13]
              have hP9 : va_P D vwCl (sg_Pl cI cJ pa (sg_step_U U V xf xt) (sg_step_V U V xf xt)) H := by rw [e91]; rw [e90]; exact hP
              have hD9 : va_D A (sg_Pl cI cJ pa (sg_step_U U V xf xt) (sg_step_V U V xf xt)) := by rw [e91]; rw [e90]; exact hD
              exact W.vret hx hb hr (fun t ht hW => ⟨⟨(), rfl, trivial, by rw [ht]; exact hP9, hD9⟩, hS.F ht⟩) hS.2.2 dX3_step_118
      · refine lv_aload_n hx hb dX3_step_48 rfl (lv_at hl 2 rfl) ?_
        refine va_get (D := D) (ci := 3) (v := .ref (pa 3)) (C := RX3) (T := TX3) (N := 7) hx hb hts in3 hown hK hP 0 rfl rfl 3 (by decide) (hts (.fieldLink RX3 18 "Granary$Plan" "cost" "[J") (by decide +kernel)) (fun _ h9 => h9) rfl dX3_step_49 ?_
        refine lv_iload_n hx hb dX3_step_52 rfl (lv_at hl 1 rfl) ?_
        refine sg_lald hx hb hK hP 3 2 rfl rfl (j := (xt * 5) + xf) rfl (by omega) (Nat.le_of_ble_eq_true rfl) dX3_step_53 ?_
        refine lv_tol (y := V 3 ((xt * 5) + xf)) rfl ?_
        refine lv_lneg hx hb dX3_step_54 ?_
        refine lv_lstore (lv' := [(4, .long (-(V 3 ((xt * 5) + xf)))), (3, .int (nI ((xt * 5) + xf))), (0, .ref (pa 0)), (1, .int (nI xf)), (2, .int (nI xt))]) hx hb dX3_step_55 hl (by decide) rfl (fun ls hl => ?_)
        refine lv_lload hx hb dX3_step_57 (lv_at hl 0 rfl) ?_
        refine lv_lconst (v := 0) hx hb dX3_step_59 (by decide) ?_
        refine W.lcmp hx hb dX3_step_60 ?_
        refine lv_toi (y := lg_cmp (-(V 3 ((xt * 5) + xf))) 0) rfl ?_
        refine lv_if_eq (tgt := 118) hx hb dX3_step_61 (by decide) (fun c_14 => ?_) (fun c_14 => ?_)
        · refine W.widen (k := 0) (n := 0) (by omega) (by omega) ?_
          have e90 : sg_step_U U V xf xt = U := by rw [sg_step_U, if_neg c_1, if_pos c_6, if_neg c_10, if_pos c_14]
          have e91 : sg_step_V U V xf xt = V := by rw [sg_step_V, if_neg c_1, if_pos c_6, if_neg c_10, if_pos c_14]
          have hP9 : va_P D vwCl (sg_Pl cI cJ pa (sg_step_U U V xf xt) (sg_step_V U V xf xt)) s.heap := by rw [e91]; rw [e90]; exact hP
          have hD9 : va_D A (sg_Pl cI cJ pa (sg_step_U U V xf xt) (sg_step_V U V xf xt)) := by rw [e91]; rw [e90]; exact hD
          exact W.vret hx hb hr (fun t ht hW => ⟨⟨(), rfl, trivial, by rw [ht]; exact hP9, hD9⟩, hS.F ht⟩) hS.2.2 dX3_step_118
        · refine lv_aload_n hx hb dX3_step_64 rfl (lv_at hl 2 rfl) ?_
          refine va_get (D := D) (ci := 3) (v := .ref (pa 4)) (C := RX3) (T := TX3) (N := 7) hx hb hts in3 hown hK hP 0 rfl rfl 4 (by decide) (hts (.fieldLink RX3 22 "Granary$Plan" "reach" "[J") (by decide +kernel)) (fun _ h9 => h9) rfl dX3_step_65 ?_
          refine lv_iload_n hx hb dX3_step_68 rfl (lv_at hl 4 rfl) ?_
          refine sg_lald hx hb hK hP 4 2 rfl rfl (j := xt) rfl (by omega) (Nat.le_of_ble_eq_true rfl) dX3_step_69 ?_
          refine lv_tol (y := V 4 xt) rfl ?_
          refine lv_ldc2 hx hb (v := 1152921504606846976) hown (hts (.constantLong RX3 74 (1152921504606846976)) (by decide +kernel)) dX3_step_70 ?_
          refine W.lcmp hx hb dX3_step_73 ?_
          refine lv_toi (y := lg_cmp (V 4 xt) 1152921504606846976) rfl ?_
          refine lv_if_eq (tgt := 96) hx hb dX3_step_74 (by decide) (fun c_15 => ?_) (fun c_15 => ?_)
          · refine lv_aload_n hx hb dX3_step_96 rfl (lv_at hl 2 rfl) ?_
            refine va_get (D := D) (ci := 3) (v := .ref (pa 4)) (C := RX3) (T := TX3) (N := 7) hx hb hts in3 hown hK hP 0 rfl rfl 4 (by decide) (hts (.fieldLink RX3 22 "Granary$Plan" "reach" "[J") (by decide +kernel)) (fun _ h9 => h9) rfl dX3_step_97 ?_
            refine lv_iload_n hx hb dX3_step_100 rfl (lv_at hl 4 rfl) ?_
            refine lv_aload_n hx hb dX3_step_101 rfl (lv_at hl 2 rfl) ?_
            refine va_get (D := D) (ci := 3) (v := .ref (pa 4)) (C := RX3) (T := TX3) (N := 7) hx hb hts in3 hown hK hP 0 rfl rfl 4 (by decide) (hts (.fieldLink RX3 22 "Granary$Plan" "reach" "[J") (by decide +kernel)) (fun _ h9 => h9) rfl dX3_step_102 ?_
            refine lv_iload_n hx hb dX3_step_105 rfl (lv_at hl 3 rfl) ?_
            refine sg_lald hx hb hK hP 4 2 rfl rfl (j := xf) rfl (by omega) (Nat.le_of_ble_eq_true rfl) dX3_step_106 ?_
            refine lv_tol (y := V 4 xf) rfl ?_
            refine lv_lload hx hb dX3_step_107 (lv_at hl 0 rfl) ?_
            refine lv_ladd hx hb dX3_step_109 ?_
            refine sg_last hx hb hK hP hD hS 4 2 rfl rfl (j := xt) rfl (by omega) (Nat.le_of_ble_eq_true rfl) dX3_step_110 (fun H locs hP hD hS => ?_)
            replace hP : va_P D vwCl (sg_Pl cI cJ pa U (sg_ul V 4 xt ((V 4 xf) + (-(V 3 ((xt * 5) + xf)))))) H := hP
            replace hD : va_D A (sg_Pl cI cJ pa U (sg_ul V 4 xt ((V 4 xf) + (-(V 3 ((xt * 5) + xf)))))) := hD
            refine lv_aload_n hx hb dX3_step_111 rfl (lv_at hl 2 rfl) ?_
            refine va_get (D := D) (ci := 3) (v := .ref (pa 5)) (C := RX3) (T := TX3) (N := 7) hx hb hts in3 hown hK hP 0 rfl rfl 5 (by decide) (hts (.fieldLink RX3 25 "Granary$Plan" "ahead" "[I") (by decide +kernel)) (fun _ h9 => h9) rfl dX3_step_112 ?_
            refine lv_iload_n hx hb dX3_step_115 rfl (lv_at hl 4 rfl) ?_
            refine lv_iload_n hx hb dX3_step_116 rfl (lv_at hl 3 rfl) ?_
            refine sg_iast hx hb hK hP hD hS 5 0 rfl rfl (j := xt) rfl (by omega) (Nat.le_of_ble_eq_true rfl) dX3_step_117 (fun H locs hP hD hS => ?_)
            replace hP : va_P D vwCl (sg_Pl cI cJ pa (sg_up U 5 xt (nI xf)) (sg_ul V 4 xt ((V 4 xf) + (-(V 3 ((xt * 5) + xf)))))) H := hP
            replace hD : va_D A (sg_Pl cI cJ pa (sg_up U 5 xt (nI xf)) (sg_ul V 4 xt ((V 4 xf) + (-(V 3 ((xt * 5) + xf)))))) := hD
            refine W.widen (k := 0) (n := 0) (by omega) (by omega) ?_
            have e90 : sg_step_U U V xf xt = sg_up U 5 xt (nI xf) := by rw [sg_step_U, if_neg c_1, if_pos c_6, if_neg c_10, if_neg c_14, if_pos c_15]
            have e91 : sg_step_V U V xf xt = sg_ul V 4 xt ((V 4 xf) + (-(V 3 ((xt * 5) + xf)))) := by rw [sg_step_V, if_neg c_1, if_pos c_6, if_neg c_10, if_neg c_14, if_pos c_15]
            have hP9 : va_P D vwCl (sg_Pl cI cJ pa (sg_step_U U V xf xt) (sg_step_V U V xf xt)) H := by rw [e91]; rw [e90]; exact hP
            have hD9 : va_D A (sg_Pl cI cJ pa (sg_step_U U V xf xt) (sg_step_V U V xf xt)) := by rw [e91]; rw [e90]; exact hD
            exact W.vret hx hb hr (fun t ht hW => ⟨⟨(), rfl, trivial, by rw [ht]; exact hP9, hD9⟩, hS.F ht⟩) hS.2.2 dX3_step_118
          · refine lv_aload_n hx hb dX3_step_77 rfl (lv_at hl 2 rfl) ?_
            refine va_get (D := D) (ci := 3) (v := .ref (pa 4)) (C := RX3) (T := TX3) (N := 7) hx hb hts in3 hown hK hP 0 rfl rfl 4 (by decide) (hts (.fieldLink RX3 22 "Granary$Plan" "reach" "[J") (by decide +kernel)) (fun _ h9 => h9) rfl dX3_step_78 ?_
            refine lv_iload_n hx hb dX3_step_81 rfl (lv_at hl 3 rfl) ?_
            refine sg_lald hx hb hK hP 4 2 rfl rfl (j := xf) rfl (by omega) (Nat.le_of_ble_eq_true rfl) dX3_step_82 ?_
            refine lv_tol (y := V 4 xf) rfl ?_
            refine lv_lload hx hb dX3_step_83 (lv_at hl 0 rfl) ?_
            refine lv_ladd hx hb dX3_step_85 ?_
            refine lv_aload_n hx hb dX3_step_86 rfl (lv_at hl 2 rfl) ?_
            refine va_get (D := D) (ci := 3) (v := .ref (pa 4)) (C := RX3) (T := TX3) (N := 7) hx hb hts in3 hown hK hP 0 rfl rfl 4 (by decide) (hts (.fieldLink RX3 22 "Granary$Plan" "reach" "[J") (by decide +kernel)) (fun _ h9 => h9) rfl dX3_step_87 ?_
            refine lv_iload_n hx hb dX3_step_90 rfl (lv_at hl 4 rfl) ?_
            refine sg_lald hx hb hK hP 4 2 rfl rfl (j := xt) rfl (by omega) (Nat.le_of_ble_eq_true rfl) dX3_step_91 ?_
            refine lv_tol (y := V 4 xt) rfl ?_
            refine W.lcmp hx hb dX3_step_92 ?_
            refine lv_toi (y := lg_cmp ((V 4 xf) + (-(V 3 ((xt * 5) + xf)))) (V 4 xt)) rfl ?_
            refine lv_if_ge (tgt := 118) hx hb dX3_step_93 (by decide) (fun c_16 => ?_) (fun c_16 => ?_)
            · refine W.widen (k := 0) (n := 0) (by omega) (by omega) ?_
              have e90 : sg_step_U U V xf xt = U := by rw [sg_step_U, if_neg c_1, if_pos c_6, if_neg c_10, if_neg c_14, if_neg c_15, if_pos c_16]
              have e91 : sg_step_V U V xf xt = V := by rw [sg_step_V, if_neg c_1, if_pos c_6, if_neg c_10, if_neg c_14, if_neg c_15, if_pos c_16]
              have hP9 : va_P D vwCl (sg_Pl cI cJ pa (sg_step_U U V xf xt) (sg_step_V U V xf xt)) s.heap := by rw [e91]; rw [e90]; exact hP
              have hD9 : va_D A (sg_Pl cI cJ pa (sg_step_U U V xf xt) (sg_step_V U V xf xt)) := by rw [e91]; rw [e90]; exact hD
              exact W.vret hx hb hr (fun t ht hW => ⟨⟨(), rfl, trivial, by rw [ht]; exact hP9, hD9⟩, hS.F ht⟩) hS.2.2 dX3_step_118
            · refine lv_aload_n hx hb dX3_step_96 rfl (lv_at hl 2 rfl) ?_
              refine va_get (D := D) (ci := 3) (v := .ref (pa 4)) (C := RX3) (T := TX3) (N := 7) hx hb hts in3 hown hK hP 0 rfl rfl 4 (by decide) (hts (.fieldLink RX3 22 "Granary$Plan" "reach" "[J") (by decide +kernel)) (fun _ h9 => h9) rfl dX3_step_97 ?_
              refine lv_iload_n hx hb dX3_step_100 rfl (lv_at hl 4 rfl) ?_
              refine lv_aload_n hx hb dX3_step_101 rfl (lv_at hl 2 rfl) ?_
              refine va_get (D := D) (ci := 3) (v := .ref (pa 4)) (C := RX3) (T := TX3) (N := 7) hx hb hts in3 hown hK hP 0 rfl rfl 4 (by decide) (hts (.fieldLink RX3 22 "Granary$Plan" "reach" "[J") (by decide +kernel)) (fun _ h9 => h9) rfl dX3_step_102 ?_
              refine lv_iload_n hx hb dX3_step_105 rfl (lv_at hl 3 rfl) ?_
              refine sg_lald hx hb hK hP 4 2 rfl rfl (j := xf) rfl (by omega) (Nat.le_of_ble_eq_true rfl) dX3_step_106 ?_
              refine lv_tol (y := V 4 xf) rfl ?_
              refine lv_lload hx hb dX3_step_107 (lv_at hl 0 rfl) ?_
              refine lv_ladd hx hb dX3_step_109 ?_
              refine sg_last hx hb hK hP hD hS 4 2 rfl rfl (j := xt) rfl (by omega) (Nat.le_of_ble_eq_true rfl) dX3_step_110 (fun H locs hP hD hS => ?_)
              replace hP : va_P D vwCl (sg_Pl cI cJ pa U (sg_ul V 4 xt ((V 4 xf) + (-(V 3 ((xt * 5) + xf)))))) H := hP
              replace hD : va_D A (sg_Pl cI cJ pa U (sg_ul V 4 xt ((V 4 xf) + (-(V 3 ((xt * 5) + xf)))))) := hD
              refine lv_aload_n hx hb dX3_step_111 rfl (lv_at hl 2 rfl) ?_
              refine va_get (D := D) (ci := 3) (v := .ref (pa 5)) (C := RX3) (T := TX3) (N := 7) hx hb hts in3 hown hK hP 0 rfl rfl 5 (by decide) (hts (.fieldLink RX3 25 "Granary$Plan" "ahead" "[I") (by decide +kernel)) (fun _ h9 => h9) rfl dX3_step_112 ?_
              refine lv_iload_n hx hb dX3_step_115 rfl (lv_at hl 4 rfl) ?_
              refine lv_iload_n hx hb dX3_step_116 rfl (lv_at hl 3 rfl) ?_
              refine sg_iast hx hb hK hP hD hS 5 0 rfl rfl (j := xt) rfl (by omega) (Nat.le_of_ble_eq_true rfl) dX3_step_117 (fun H locs hP hD hS => ?_)
              replace hP : va_P D vwCl (sg_Pl cI cJ pa (sg_up U 5 xt (nI xf)) (sg_ul V 4 xt ((V 4 xf) + (-(V 3 ((xt * 5) + xf)))))) H := hP
              replace hD : va_D A (sg_Pl cI cJ pa (sg_up U 5 xt (nI xf)) (sg_ul V 4 xt ((V 4 xf) + (-(V 3 ((xt * 5) + xf)))))) := hD
              refine W.widen (k := 0) (n := 0) (by omega) (by omega) ?_
              have e90 : sg_step_U U V xf xt = sg_up U 5 xt (nI xf) := by rw [sg_step_U, if_neg c_1, if_pos c_6, if_neg c_10, if_neg c_14, if_neg c_15, if_neg c_16]
              have e91 : sg_step_V U V xf xt = sg_ul V 4 xt ((V 4 xf) + (-(V 3 ((xt * 5) + xf)))) := by rw [sg_step_V, if_neg c_1, if_pos c_6, if_neg c_10, if_neg c_14, if_neg c_15, if_neg c_16]
              have hP9 : va_P D vwCl (sg_Pl cI cJ pa (sg_step_U U V xf xt) (sg_step_V U V xf xt)) H := by rw [e91]; rw [e90]; exact hP
              have hD9 : va_D A (sg_Pl cI cJ pa (sg_step_U U V xf xt) (sg_step_V U V xf xt)) := by rw [e91]; rw [e90]; exact hD
              exact W.vret hx hb hr (fun t ht hW => ⟨⟨(), rfl, trivial, by rw [ht]; exact hP9, hD9⟩, hS.F ht⟩) hS.2.2 dX3_step_118
  · refine W.widen (k := 0) (n := 0) (by omega) (by omega) ?_
    have e90 : sg_step_U U V xf xt = U := by rw [sg_step_U, if_pos c_1]
    have e91 : sg_step_V U V xf xt = V := by rw [sg_step_V, if_pos c_1]
    have hP9 : va_P D vwCl (sg_Pl cI cJ pa (sg_step_U U V xf xt) (sg_step_V U V xf xt)) s.heap := by rw [e91]; rw [e90]; exact hP
    have hD9 : va_D A (sg_Pl cI cJ pa (sg_step_U U V xf xt) (sg_step_V U V xf xt)) := by rw [e91]; rw [e90]; exact hD
    exact W.vret hx hb hr (fun t ht hW => ⟨⟨(), rfl, trivial, by rw [ht]; exact hP9, hD9⟩, hS.F ht⟩) hS.2.2 dX3_step_13

def sg_findWays_2 (U : sg_Pic) (V : sg_PiL) : Nat → sg_Pic × sg_PiL
  | 0 => (U, V)
  | j2 + 1 => (if (((sg_findWays_2 U V j2).1) 1 j2) ≤ 0 then (sg_up ((sg_findWays_2 U V j2).1) 5 j2 (-1), sg_ul ((sg_findWays_2 U V j2).2) 4 j2 1152921504606846976) else (sg_up ((sg_findWays_2 U V j2).1) 5 j2 (-1), sg_ul ((sg_findWays_2 U V j2).2) 4 j2 0))
theorem sg_findWays_2_KU (U : sg_Pic) (V : sg_PiL) : ∀ j : Nat, sg_KU ((sg_findWays_2 U V j).1) U
  | 0 => by exact rfl
  | j + 1 => by
    have h := sg_findWays_2_KU U V j
    rw [sg_findWays_2]
    repeat' split
    all_goals first | exact h

def sg_findWays_67 (U : sg_Pic) (V : sg_PiL) (j47 : Nat) (U47 : sg_Pic) (V47 : sg_PiL) (j57 : Nat) (U57 : sg_Pic) (V57 : sg_PiL) : Nat → sg_Pic × sg_PiL
  | 0 => (U57, V57)
  | j67 + 1 => (sg_step_U ((sg_findWays_67 U V j47 U47 V47 j57 U57 V57 j67).1) ((sg_findWays_67 U V j47 U47 V47 j57 U57 V57 j67).2) j57 j67, sg_step_V ((sg_findWays_67 U V j47 U47 V47 j57 U57 V57 j67).1) ((sg_findWays_67 U V j47 U47 V47 j57 U57 V57 j67).2) j57 j67)
theorem sg_findWays_67_KU (U : sg_Pic) (V : sg_PiL) (j47 : Nat) (U47 : sg_Pic) (V47 : sg_PiL) (j57 : Nat) (U57 : sg_Pic) (V57 : sg_PiL) : ∀ j : Nat, sg_KU ((sg_findWays_67 U V j47 U47 V47 j57 U57 V57 j).1) U57
  | 0 => by exact rfl
  | j + 1 => by
    have h := sg_findWays_67_KU U V j47 U47 V47 j57 U57 V57 j
    rw [sg_findWays_67]
    repeat' split
    all_goals first | exact h | (refine Eq.trans ?_ h; exact sg_step_KU _ _ _ _)

def sg_findWays_57 (U : sg_Pic) (V : sg_PiL) (j47 : Nat) (U47 : sg_Pic) (V47 : sg_PiL) : Nat → sg_Pic × sg_PiL
  | 0 => (U47, V47)
  | j57 + 1 => ((sg_findWays_67 U V j47 U47 V47 j57 ((sg_findWays_57 U V j47 U47 V47 j57).1) ((sg_findWays_57 U V j47 U47 V47 j57).2) (sg_cn U 0)).1, (sg_findWays_67 U V j47 U47 V47 j57 ((sg_findWays_57 U V j47 U47 V47 j57).1) ((sg_findWays_57 U V j47 U47 V47 j57).2) (sg_cn U 0)).2)
theorem sg_findWays_57_KU (U : sg_Pic) (V : sg_PiL) (j47 : Nat) (U47 : sg_Pic) (V47 : sg_PiL) : ∀ j : Nat, sg_KU ((sg_findWays_57 U V j47 U47 V47 j).1) U47
  | 0 => by exact rfl
  | j + 1 => by
    have h := sg_findWays_57_KU U V j47 U47 V47 j
    rw [sg_findWays_57]
    repeat' split
    all_goals first | exact h | (refine Eq.trans ?_ h; exact sg_findWays_67_KU _ _ _ _ _ _ _ _ _)

def sg_findWays_47 (U : sg_Pic) (V : sg_PiL) : Nat → sg_Pic × sg_PiL
  | 0 => ((sg_findWays_2 U V (sg_cn U 0)).1, (sg_findWays_2 U V (sg_cn U 0)).2)
  | j47 + 1 => ((sg_findWays_57 U V j47 ((sg_findWays_47 U V j47).1) ((sg_findWays_47 U V j47).2) (sg_cn U 0)).1, (sg_findWays_57 U V j47 ((sg_findWays_47 U V j47).1) ((sg_findWays_47 U V j47).2) (sg_cn U 0)).2)
theorem sg_findWays_47_KU (U : sg_Pic) (V : sg_PiL) : ∀ j : Nat, sg_KU ((sg_findWays_47 U V j).1) ((sg_findWays_2 U V (sg_cn U 0)).1)
  | 0 => by exact rfl
  | j + 1 => by
    have h := sg_findWays_47_KU U V j
    rw [sg_findWays_47]
    repeat' split
    all_goals first | exact h | (refine Eq.trans ?_ h; exact sg_findWays_57_KU _ _ _ _ _ _)

def sg_findWays_U (U : sg_Pic) (V : sg_PiL) : sg_Pic := ((sg_findWays_47 U V (sg_cn U 0)).1)

theorem sg_findWays_KU (U : sg_Pic) (V : sg_PiL) : sg_KU (sg_findWays_U U V) U := by
  unfold sg_findWays_U
  repeat' split
  all_goals first | exact rfl | exact Eq.trans (sg_findWays_47_KU _ _ _) (sg_findWays_2_KU _ _ _)

def sg_findWays_V (U : sg_Pic) (V : sg_PiL) : sg_PiL := ((sg_findWays_47 U V (sg_cn U 0)).2)

set_option maxHeartbeats 4000000 in
set_option maxRecDepth 100000 in
/-- X3_findWays -/
theorem c_findWays (l : Launch) (D : va_G) (cI cZ cJ : ClassId) (lo sz : Nat) (pa : Nat → Nat) (U : sg_Pic) (V : sg_PiL) (hU : sg_UN U) : Met l yX3_findWays wsX3_findWays ({ frames := 2, cells := 0, slots := 0, locals := 46 }) (Pre lo D cI cZ cJ [.ref (pa 0)] sz (sg_Pl cI cJ pa U V)) (va_Qv (fun _ : Unit => True) (fun _ t => va_P D vwCl (sg_Pl cI cJ pa (sg_findWays_U U V) (sg_findWays_V U V)) t.heap ∧ va_D (va_A (sg_Pl cI cJ pa U V) sz) (sg_Pl cI cJ pa (sg_findWays_U U V) (sg_findWays_V U V))) (va_A (sg_Pl cI cJ pa U V) sz)) 0 0 (va_A (sg_Pl cI cJ pa U V) sz) := by
  refine Met.ofW (cc := cX3_findWays) (maxL := 4) (ret := none) (by decide) rfl ?_
  intro p e s m args below meth c s₁ B hml hv
  obtain ⟨rfl, hsz, hP, hD0, hC⟩ := hv
  have hx := B.exec
  have hb := B.bytes
  have hr := B.returns
  have hts := atoms_spec (ws := wsX3_findWays) B.pre
  have hown : s.vm.findClass RX3 = some m.cls := findClass_of_methodNamed B.named
  have hlocks := B.notSynchronized
  subst hsz
  have hnU : sg_cn U 0 ≤ 5 := hU.n
  have hK := hC.K
  have hD := hD0.self (sz := s.heap.size)
  have hAlo0 := va_A_lo hD0 hC.1
  generalize hAe : va_A (sg_Pl cI cJ pa U V) s.heap.size = A at hD hAlo0 ⊢
  have hA : ∀ q : Nat, s.heap.size ≤ q → A q := fun q h => by rw [← hAe]; exact Or.inr h
  have hAlo : ∀ q, A q → lo ≤ q := hAlo0
  have hS : va_S A s.heap s.heap [] := va_S.rf
  have hP : va_P D vwCl (sg_Pl cI cJ pa U V) s.heap := hP
  have hl := lv_entry ([.ref (pa 0)]) (n := 4) (Nat.le_of_ble_eq_true rfl)
  rw [lg_entry_eq]
  generalize (lg_sl ([.ref (pa 0)]) ++ List.replicate (4 - (lg_sl ([.ref (pa 0)])).length) Slot.unset).toArray = ls at hl ⊢
  have hl : lv_has ls 4 [(0, .ref (pa 0))] := hl
  have in3 : ∀ w ∈ u_ws RX3 TX3 7, w ∈ wsX3_findWays := by decide +kernel
  refine lv_iconst (v := 0) hx hb dX3_findWays_0 (by decide) ?_
  refine lv_istore_n (lv' := [(1, .int 0), (0, .ref (pa 0))]) hx hb dX3_findWays_1 rfl hl (by decide) rfl (fun ls hl => ?_)
  obtain ⟨H, hH9⟩ : ∃ z : Heap, z = s.heap := ⟨_, rfl⟩
  replace hS : va_S A s.heap H [] := by rw [hH9]; exact va_S.rf
  replace hP : va_P D vwCl (sg_Pl cI cJ pa U V) H := by rw [hH9]; exact hP
  rw [← hH9]
  clear hH9
  generalize ([] : List Loc) = locs at hS ⊢
  obtain ⟨j2, h0j2⟩ : ∃ j : Nat, j = 0 := ⟨_, rfl⟩
  obtain ⟨U2, hU2⟩ : ∃ z9 : sg_Pic, z9 = (sg_findWays_2 U V j2).1 := ⟨_, rfl⟩
  obtain ⟨V2, hV2⟩ : ∃ z9 : sg_PiL, z9 = (sg_findWays_2 U V j2).2 := ⟨_, rfl⟩
  replace hl : lv_has ls 4 [(1, .int (nI j2)), (0, .ref (pa 0))] := by rw [h0j2]; exact hl
  replace hP : va_P D vwCl (sg_Pl cI cJ pa U2 V2) H := by rw [hU2, hV2, h0j2]; exact hP
  replace hD : va_D A (sg_Pl cI cJ pa U2 V2) := by rw [hU2, hV2, h0j2]; exact hD
  have hjj2 : j2 ≤ sg_cn U 0 := by omega
  clear h0j2
  obtain ⟨n2, hn2⟩ : ∃ n : Nat, sg_cn U 0 < j2 + n := ⟨sg_cn U 0 + 1, by omega⟩
  revert hP
  revert hD
  revert hS
  revert hl
  revert hn2
  revert hjj2
  revert hU2
  revert hV2
  revert ls
  revert locs
  revert H
  revert U2
  revert V2
  revert j2
  induction n2 with
  | zero =>
    intro j2 V2 U2 H locs ls hV2 hU2 hjj2 hn2 hl hS hD hP
    exact absurd hn2 (by omega)
  | succ n2 ih2 =>
    intro j2 V2 U2 H locs ls hV2 hU2 hjj2 hn2 hl hS hD hP
    refine lv_iload_n hx hb dX3_findWays_2 rfl (lv_at hl 0 rfl) ?_
    refine lv_aload_n hx hb dX3_findWays_3 rfl (lv_at hl 1 rfl) ?_
    refine va_get (D := D) (ci := 3) (v := .int (U2 0 0)) (C := RX3) (T := TX3) (N := 7) hx hb hts in3 hown hK hP 0 rfl rfl 0 (by decide) (hts (.fieldLink RX3 43 "Granary$Plan" "sites" "I") (by decide +kernel)) (fun _ h9 => h9) rfl dX3_findWays_4 ?_
    have hkU2 : sg_KU U2 U := by rw [hU2]; exact sg_findWays_2_KU U V j2
    have hB2 : ((U2 0 0) : Int32) = nI (sg_cn U 0) := (hkU2.e.trans (hU.e))
    refine lv_icmp_ge (tgt := 45) hx hb dX3_findWays_7 (by decide) (fun c_1 => ?_) (fun c_1 => ?_)
    · have hE2 : sg_cn U 0 = j2 := (sg_eq hB2 c_1 hjj2 (by omega)).symm
      clear ih2 hn2
      subst hE2
      subst hU2
      subst hV2
      refine lv_iconst (v := 0) hx hb dX3_findWays_45 (by decide) ?_
      refine lv_istore_n (lv' := [(1, .int 0), (0, .ref (pa 0))]) hx hb dX3_findWays_46 rfl hl (by decide) rfl (fun ls hl => ?_)
      obtain ⟨j47, h0j47⟩ : ∃ j : Nat, j = 0 := ⟨_, rfl⟩
      obtain ⟨U47, hU47⟩ : ∃ z9 : sg_Pic, z9 = (sg_findWays_47 U V j47).1 := ⟨_, rfl⟩
      obtain ⟨V47, hV47⟩ : ∃ z9 : sg_PiL, z9 = (sg_findWays_47 U V j47).2 := ⟨_, rfl⟩
      replace hl : lv_has ls 4 [(1, .int (nI j47)), (0, .ref (pa 0))] := by rw [h0j47]; exact hl
      replace hP : va_P D vwCl (sg_Pl cI cJ pa U47 V47) H := by rw [hU47, hV47, h0j47]; exact hP
      replace hD : va_D A (sg_Pl cI cJ pa U47 V47) := by rw [hU47, hV47, h0j47]; exact hD
      have hjj47 : j47 ≤ sg_cn U 0 := by omega
      clear h0j47
      obtain ⟨n47, hn47⟩ : ∃ n : Nat, sg_cn U 0 < j47 + n := ⟨sg_cn U 0 + 1, by omega⟩
      revert hP
      revert hD
      revert hS
      revert hl
      revert hn47
      revert hjj47
      revert hU47
      revert hV47
      revert ls
      revert locs
      revert H
      revert U47
      revert V47
      revert j47
      induction n47 with
      | zero =>
        intro j47 V47 U47 H locs ls hV47 hU47 hjj47 hn47 hl hS hD hP
        exact absurd hn47 (by omega)
      | succ n47 ih47 =>
        intro j47 V47 U47 H locs ls hV47 hU47 hjj47 hn47 hl hS hD hP
        refine lv_iload_n hx hb dX3_findWays_47 rfl (lv_at hl 0 rfl) ?_
        refine lv_aload_n hx hb dX3_findWays_48 rfl (lv_at hl 1 rfl) ?_
        refine va_get (D := D) (ci := 3) (v := .int (U47 0 0)) (C := RX3) (T := TX3) (N := 7) hx hb hts in3 hown hK hP 0 rfl rfl 0 (by decide) (hts (.fieldLink RX3 43 "Granary$Plan" "sites" "I") (by decide +kernel)) (fun _ h9 => h9) rfl dX3_findWays_49 ?_
        have hkU47 : sg_KU U47 ((sg_findWays_2 U V (sg_cn U 0)).1) := by rw [hU47]; exact sg_findWays_47_KU U V j47
        have hB47 : ((U47 0 0) : Int32) = nI (sg_cn U 0) := (hkU47.e.trans (hkU2.e.trans (hU.e)))
        refine lv_icmp_ge (tgt := 99) hx hb dX3_findWays_52 (by decide) (fun c_2 => ?_) (fun c_2 => ?_)
        · have hE47 : sg_cn U 0 = j47 := (sg_eq hB47 c_2 hjj47 (by omega)).symm
          clear ih47 hn47
          subst hE47
          subst hU47
          subst hV47
          refine W.widen (k := 0) (n := 0) (by omega) (by omega) ?_
          have hP9 : va_P D vwCl (sg_Pl cI cJ pa (sg_findWays_U U V) (sg_findWays_V U V)) H := by exact hP
          have hD9 : va_D A (sg_Pl cI cJ pa (sg_findWays_U U V) (sg_findWays_V U V)) := by exact hD
          exact W.vret hx hb hr (fun t ht hW => ⟨⟨(), rfl, trivial, by rw [ht]; exact hP9, hD9⟩, hS.F ht⟩) hS.2.2 dX3_findWays_99
        · have hL47 : j47 < sg_cn U 0 := sg_lt hB47 c_2 (by omega)
          refine lv_iconst (v := 0) hx hb dX3_findWays_55 (by decide) ?_
          refine lv_istore_n (lv' := [(2, .int 0), (1, .int (nI j47)), (0, .ref (pa 0))]) hx hb dX3_findWays_56 rfl hl (by decide) rfl (fun ls hl => ?_)
          obtain ⟨j57, h0j57⟩ : ∃ j : Nat, j = 0 := ⟨_, rfl⟩
          obtain ⟨U57, hU57⟩ : ∃ z9 : sg_Pic, z9 = (sg_findWays_57 U V j47 U47 V47 j57).1 := ⟨_, rfl⟩
          obtain ⟨V57, hV57⟩ : ∃ z9 : sg_PiL, z9 = (sg_findWays_57 U V j47 U47 V47 j57).2 := ⟨_, rfl⟩
          replace hl : lv_has ls 4 [(2, .int (nI j57)), (1, .int (nI j47)), (0, .ref (pa 0))] := by rw [h0j57]; exact hl
          replace hP : va_P D vwCl (sg_Pl cI cJ pa U57 V57) H := by rw [hU57, hV57, h0j57]; exact hP
          replace hD : va_D A (sg_Pl cI cJ pa U57 V57) := by rw [hU57, hV57, h0j57]; exact hD
          have hjj57 : j57 ≤ sg_cn U 0 := by omega
          clear h0j57
          obtain ⟨n57, hn57⟩ : ∃ n : Nat, sg_cn U 0 < j57 + n := ⟨sg_cn U 0 + 1, by omega⟩
          revert hP
          revert hD
          revert hS
          revert hl
          revert hn57
          revert hjj57
          revert hU57
          revert hV57
          revert ls
          revert locs
          revert H
          revert U57
          revert V57
          revert j57
          induction n57 with
          | zero =>
            intro j57 V57 U57 H locs ls hV57 hU57 hjj57 hn57 hl hS hD hP
            exact absurd hn57 (by omega)
          | succ n57 ih57 =>
            intro j57 V57 U57 H locs ls hV57 hU57 hjj57 hn57 hl hS hD hP
            refine lv_iload_n hx hb dX3_findWays_57 rfl (lv_at hl 0 rfl) ?_
            refine lv_aload_n hx hb dX3_findWays_58 rfl (lv_at hl 2 rfl) ?_
            refine va_get (D := D) (ci := 3) (v := .int (U57 0 0)) (C := RX3) (T := TX3) (N := 7) hx hb hts in3 hown hK hP 0 rfl rfl 0 (by decide) (hts (.fieldLink RX3 43 "Granary$Plan" "sites" "I") (by decide +kernel)) (fun _ h9 => h9) rfl dX3_findWays_59 ?_
            have hkU57 : sg_KU U57 U47 := by rw [hU57]; exact sg_findWays_57_KU U V j47 U47 V47 j57
            have hB57 : ((U57 0 0) : Int32) = nI (sg_cn U 0) := (hkU57.e.trans (hkU47.e.trans (hkU2.e.trans (hU.e))))
            refine lv_icmp_ge (tgt := 93) hx hb dX3_findWays_62 (by decide) (fun c_3 => ?_) (fun c_3 => ?_)
            · have hE57 : sg_cn U 0 = j57 := (sg_eq hB57 c_3 hjj57 (by omega)).symm
              clear ih57 hn57
              subst hE57
              subst hU57
              subst hV57
              refine lv_iinc (v := nI (j47 + 1)) (lv' := [(1, .int (nI (j47 + 1))), (2, .int (nI (sg_cn U 0))), (0, .ref (pa 0))]) hx hb dX3_findWays_93 hl (k := 1) rfl (nI_1 j47) (by decide) rfl (fun ls hl => ?_)
              refine lv_goto (tgt := 47) hx hb dX3_findWays_96 (by decide) ?_
              have hl8 := hl; have hS8 := hS; have hD8 := hD; have hP8 := hP
              subst hU47
              subst hV47
              exact ih47 (j47 + 1) ((sg_findWays_57 U V j47 ((sg_findWays_47 U V j47).1) ((sg_findWays_47 U V j47).2) (sg_cn U 0)).2) ((sg_findWays_57 U V j47 ((sg_findWays_47 U V j47).1) ((sg_findWays_47 U V j47).2) (sg_cn U 0)).1) _ _ _ rfl rfl (by omega) (by omega) (lv_sub hl8 [0, 2] rfl) hS8 hD8 hP8
            · have hL57 : j57 < sg_cn U 0 := sg_lt hB57 c_3 (by omega)
              refine lv_iconst (v := 0) hx hb dX3_findWays_65 (by decide) ?_
              refine lv_istore_n (lv' := [(3, .int 0), (2, .int (nI j57)), (1, .int (nI j47)), (0, .ref (pa 0))]) hx hb dX3_findWays_66 rfl hl (by decide) rfl (fun ls hl => ?_)
              obtain ⟨j67, h0j67⟩ : ∃ j : Nat, j = 0 := ⟨_, rfl⟩
              obtain ⟨U67, hU67⟩ : ∃ z9 : sg_Pic, z9 = (sg_findWays_67 U V j47 U47 V47 j57 U57 V57 j67).1 := ⟨_, rfl⟩
              obtain ⟨V67, hV67⟩ : ∃ z9 : sg_PiL, z9 = (sg_findWays_67 U V j47 U47 V47 j57 U57 V57 j67).2 := ⟨_, rfl⟩
              replace hl : lv_has ls 4 [(3, .int (nI j67)), (2, .int (nI j57)), (1, .int (nI j47)), (0, .ref (pa 0))] := by rw [h0j67]; exact hl
              replace hP : va_P D vwCl (sg_Pl cI cJ pa U67 V67) H := by rw [hU67, hV67, h0j67]; exact hP
              replace hD : va_D A (sg_Pl cI cJ pa U67 V67) := by rw [hU67, hV67, h0j67]; exact hD
              have hjj67 : j67 ≤ sg_cn U 0 := by omega
              clear h0j67
              obtain ⟨n67, hn67⟩ : ∃ n : Nat, sg_cn U 0 < j67 + n := ⟨sg_cn U 0 + 1, by omega⟩
              revert hP
              revert hD
              revert hS
              revert hl
              revert hn67
              revert hjj67
              revert hU67
              revert hV67
              revert ls
              revert locs
              revert H
              revert U67
              revert V67
              revert j67
              induction n67 with
              | zero =>
                intro j67 V67 U67 H locs ls hV67 hU67 hjj67 hn67 hl hS hD hP
                exact absurd hn67 (by omega)
              | succ n67 ih67 =>
                intro j67 V67 U67 H locs ls hV67 hU67 hjj67 hn67 hl hS hD hP
                refine lv_iload_n hx hb dX3_findWays_67 rfl (lv_at hl 0 rfl) ?_
                refine lv_aload_n hx hb dX3_findWays_68 rfl (lv_at hl 3 rfl) ?_
                refine va_get (D := D) (ci := 3) (v := .int (U67 0 0)) (C := RX3) (T := TX3) (N := 7) hx hb hts in3 hown hK hP 0 rfl rfl 0 (by decide) (hts (.fieldLink RX3 43 "Granary$Plan" "sites" "I") (by decide +kernel)) (fun _ h9 => h9) rfl dX3_findWays_69 ?_
                have hkU67 : sg_KU U67 U57 := by rw [hU67]; exact sg_findWays_67_KU U V j47 U47 V47 j57 U57 V57 j67
                have hB67 : ((U67 0 0) : Int32) = nI (sg_cn U 0) := (hkU67.e.trans (hkU57.e.trans (hkU47.e.trans (hkU2.e.trans (hU.e)))))
                refine lv_icmp_ge (tgt := 87) hx hb dX3_findWays_72 (by decide) (fun c_4 => ?_) (fun c_4 => ?_)
                · have hE67 : sg_cn U 0 = j67 := (sg_eq hB67 c_4 hjj67 (by omega)).symm
                  clear ih67 hn67
                  subst hE67
                  subst hU67
                  subst hV67
                  refine lv_iinc (v := nI (j57 + 1)) (lv' := [(2, .int (nI (j57 + 1))), (3, .int (nI (sg_cn U 0))), (1, .int (nI j47)), (0, .ref (pa 0))]) hx hb dX3_findWays_87 hl (k := 1) rfl (nI_1 j57) (by decide) rfl (fun ls hl => ?_)
                  refine lv_goto (tgt := 57) hx hb dX3_findWays_90 (by decide) ?_
                  have hl8 := hl; have hS8 := hS; have hD8 := hD; have hP8 := hP
                  subst hU57
                  subst hV57
                  exact ih57 (j57 + 1) ((sg_findWays_67 U V j47 U47 V47 j57 ((sg_findWays_57 U V j47 U47 V47 j57).1) ((sg_findWays_57 U V j47 U47 V47 j57).2) (sg_cn U 0)).2) ((sg_findWays_67 U V j47 U47 V47 j57 ((sg_findWays_57 U V j47 U47 V47 j57).1) ((sg_findWays_57 U V j47 U47 V47 j57).2) (sg_cn U 0)).1) _ _ _ rfl rfl (by omega) (by omega) (lv_sub hl8 [0, 2, 3] rfl) hS8 hD8 hP8
                · have hL67 : j67 < sg_cn U 0 := sg_lt hB67 c_4 (by omega)
                  refine lv_aload_n hx hb dX3_findWays_75 rfl (lv_at hl 3 rfl) ?_
                  refine lv_iload_n hx hb dX3_findWays_76 rfl (lv_at hl 1 rfl) ?_
                  refine lv_iload_n hx hb dX3_findWays_77 rfl (lv_at hl 0 rfl) ?_
                  have hPc : va_P D vwCl (sg_Pl cI cJ pa U67 V67) H := hP
                  have hDc : va_D A (sg_Pl cI cJ pa U67 V67) := hD
                  have hFc := va_free (wc := (sg_Pl cI cJ pa U67 V67)) hD hS hA [0, 1, 2, 3, 4, 5, 6] rfl
                  refine va_callv (va_runV (As := [.int (nI j57), .int (nI j67)]) (rest := []) ⟨hx, hb, hml, hown, hts⟩ (c_step l D cI cZ cJ lo H.size pa U67 V67 j57 j67 (hkU67.N (hkU57.N (hkU47.N (hkU2.N hU)))) (by omega) (by omega)) (cwV 2 hts gX3_findWays_X3_step rfl rfl rfl (by decide +kernel) ⟨(Nat.le_of_ble_eq_true rfl), (Nat.le_of_ble_eq_true rfl)⟩) ⟨Pre.blind, va_recv hK hP (ci := 3) (q0 := 0) rfl rfl, Pre.mk hPc (hDc.weaken (fun _ _ _ h => hAlo _ h)) hC hS hAlo⟩ rfl rfl hl.1 rfl (lv_room (Nat.le_of_ble_eq_true rfl)) dX3_findWays_78 ⟨(Nat.le_of_ble_eq_true rfl), (Nat.le_of_ble_eq_true rfl)⟩) hS (fun q _ h => hFc q h) hFc (fun u t H1 locs1 ht hvm e_5 hB hz1 hk1 hS1 => ?_)
                  have hS := hS1
                  obtain ⟨hP1, hD1⟩ := hB
                  rw [ht] at hP1
                  obtain ⟨hP, hD⟩ := va_join (wr := []) (w1 := (sg_Pl cI cJ pa (sg_step_U U67 V67 j57 j67) (sg_step_V U67 V67 j57 j67))) hP hD [0, 1, 2, 3, 4, 5, 6] [] rfl rfl (by decide) (by decide) hk1 hFc hP1 hD1
                  have e_5 : True := e_5
                  clear hFc hPc hDc ht hvm hz1 hk1 hS1 hP1 hD1
                  generalize H1 = H at hP hS ⊢
                  replace hP : va_P D vwCl (sg_Pl cI cJ pa (sg_step_U U67 V67 j57 j67) (sg_step_V U67 V67 j57 j67)) H := hP
                  replace hD : va_D A (sg_Pl cI cJ pa (sg_step_U U67 V67 j57 j67) (sg_step_V U67 V67 j57 j67)) := hD
                  refine lv_iinc (v := nI (j67 + 1)) (lv' := [(3, .int (nI (j67 + 1))), (2, .int (nI j57)), (1, .int (nI j47)), (0, .ref (pa 0))]) hx hb dX3_findWays_81 hl (k := 0) rfl (nI_1 j67) (by decide) rfl (fun ls hl => ?_)
                  refine lv_goto (tgt := 67) hx hb dX3_findWays_84 (by decide) ?_
                  have hl8 := hl; have hS8 := hS; have hD8 := hD; have hP8 := hP
                  subst hU67
                  subst hV67
                  exact ih67 (j67 + 1) (sg_step_V ((sg_findWays_67 U V j47 U47 V47 j57 U57 V57 j67).1) ((sg_findWays_67 U V j47 U47 V47 j57 U57 V57 j67).2) j57 j67) (sg_step_U ((sg_findWays_67 U V j47 U47 V47 j57 U57 V57 j67).1) ((sg_findWays_67 U V j47 U47 V47 j57 U57 V57 j67).2) j57 j67) _ _ _ rfl rfl (by omega) (by omega) (lv_sub hl8 [0, 1, 2, 3] rfl) hS8 hD8 hP8
    · have hL2 : j2 < sg_cn U 0 := sg_lt hB2 c_1 (by omega)
      refine lv_aload_n hx hb dX3_findWays_10 rfl (lv_at hl 1 rfl) ?_
      refine va_get (D := D) (ci := 3) (v := .ref (pa 4)) (C := RX3) (T := TX3) (N := 7) hx hb hts in3 hown hK hP 0 rfl rfl 4 (by decide) (hts (.fieldLink RX3 22 "Granary$Plan" "reach" "[J") (by decide +kernel)) (fun _ h9 => h9) rfl dX3_findWays_11 ?_
      refine lv_iload_n hx hb dX3_findWays_14 rfl (lv_at hl 0 rfl) ?_
      refine lv_aload_n hx hb dX3_findWays_15 rfl (lv_at hl 1 rfl) ?_
      refine va_get (D := D) (ci := 3) (v := .ref (pa 1)) (C := RX3) (T := TX3) (N := 7) hx hb hts in3 hown hK hP 0 rfl rfl 1 (by decide) (hts (.fieldLink RX3 9 "Granary$Plan" "spare" "[I") (by decide +kernel)) (fun _ h9 => h9) rfl dX3_findWays_16 ?_
      refine lv_iload_n hx hb dX3_findWays_19 rfl (lv_at hl 0 rfl) ?_
      refine sg_iald hx hb hK hP 1 0 rfl rfl (j := j2) rfl (by omega) (Nat.le_of_ble_eq_true rfl) dX3_findWays_20 ?_
      refine lv_toi (y := U2 1 j2) rfl ?_
      refine lv_if_le (tgt := 28) hx hb dX3_findWays_21 (by decide) (fun c_6 => ?_) (fun c_6 => ?_)
      · refine lv_ldc2 hx hb (v := 1152921504606846976) hown (hts (.constantLong RX3 74 (1152921504606846976)) (by decide +kernel)) dX3_findWays_28 ?_
        refine sg_last hx hb hK hP hD hS 4 2 rfl rfl (j := j2) rfl (by omega) (Nat.le_of_ble_eq_true rfl) dX3_findWays_31 (fun H locs hP hD hS => ?_)
        replace hP : va_P D vwCl (sg_Pl cI cJ pa U2 (sg_ul V2 4 j2 1152921504606846976)) H := hP
        replace hD : va_D A (sg_Pl cI cJ pa U2 (sg_ul V2 4 j2 1152921504606846976)) := hD
        refine lv_aload_n hx hb dX3_findWays_32 rfl (lv_at hl 1 rfl) ?_
        refine va_get (D := D) (ci := 3) (v := .ref (pa 5)) (C := RX3) (T := TX3) (N := 7) hx hb hts in3 hown hK hP 0 rfl rfl 5 (by decide) (hts (.fieldLink RX3 25 "Granary$Plan" "ahead" "[I") (by decide +kernel)) (fun _ h9 => h9) rfl dX3_findWays_33 ?_
        refine lv_iload_n hx hb dX3_findWays_36 rfl (lv_at hl 0 rfl) ?_
        refine lv_iconst (v := (-1)) hx hb dX3_findWays_37 (by decide) ?_
        refine sg_iast hx hb hK hP hD hS 5 0 rfl rfl (j := j2) rfl (by omega) (Nat.le_of_ble_eq_true rfl) dX3_findWays_38 (fun H locs hP hD hS => ?_)
        replace hP : va_P D vwCl (sg_Pl cI cJ pa (sg_up U2 5 j2 (-1)) (sg_ul V2 4 j2 1152921504606846976)) H := hP
        replace hD : va_D A (sg_Pl cI cJ pa (sg_up U2 5 j2 (-1)) (sg_ul V2 4 j2 1152921504606846976)) := hD
        refine lv_iinc (v := nI (j2 + 1)) (lv' := [(1, .int (nI (j2 + 1))), (0, .ref (pa 0))]) hx hb dX3_findWays_39 hl (k := 0) rfl (nI_1 j2) (by decide) rfl (fun ls hl => ?_)
        refine lv_goto (tgt := 2) hx hb dX3_findWays_42 (by decide) ?_
        have hl8 := hl; have hS8 := hS; have hD8 := hD; have hP8 := hP
        subst hU2
        subst hV2
        exact ih2 (j2 + 1) (sg_ul ((sg_findWays_2 U V j2).2) 4 j2 1152921504606846976) (sg_up ((sg_findWays_2 U V j2).1) 5 j2 (-1)) _ _ _ (show (sg_ul ((sg_findWays_2 U V j2).2) 4 j2 1152921504606846976 : sg_PiL) = (sg_findWays_2 U V (j2 + 1)).2 from by rw [sg_findWays_2, if_pos c_6]) (show (sg_up ((sg_findWays_2 U V j2).1) 5 j2 (-1) : sg_Pic) = (sg_findWays_2 U V (j2 + 1)).1 from by rw [sg_findWays_2, if_pos c_6]) (by omega) (by omega) (lv_sub hl8 [0, 1] rfl) hS8 hD8 hP8
      · refine lv_lconst (v := 0) hx hb dX3_findWays_24 (by decide) ?_
        refine lv_goto (tgt := 31) hx hb dX3_findWays_25 (by decide) ?_
        refine sg_last hx hb hK hP hD hS 4 2 rfl rfl (j := j2) rfl (by omega) (Nat.le_of_ble_eq_true rfl) dX3_findWays_31 (fun H locs hP hD hS => ?_)
        replace hP : va_P D vwCl (sg_Pl cI cJ pa U2 (sg_ul V2 4 j2 0)) H := hP
        replace hD : va_D A (sg_Pl cI cJ pa U2 (sg_ul V2 4 j2 0)) := hD
        refine lv_aload_n hx hb dX3_findWays_32 rfl (lv_at hl 1 rfl) ?_
        refine va_get (D := D) (ci := 3) (v := .ref (pa 5)) (C := RX3) (T := TX3) (N := 7) hx hb hts in3 hown hK hP 0 rfl rfl 5 (by decide) (hts (.fieldLink RX3 25 "Granary$Plan" "ahead" "[I") (by decide +kernel)) (fun _ h9 => h9) rfl dX3_findWays_33 ?_
        refine lv_iload_n hx hb dX3_findWays_36 rfl (lv_at hl 0 rfl) ?_
        refine lv_iconst (v := (-1)) hx hb dX3_findWays_37 (by decide) ?_
        refine sg_iast hx hb hK hP hD hS 5 0 rfl rfl (j := j2) rfl (by omega) (Nat.le_of_ble_eq_true rfl) dX3_findWays_38 (fun H locs hP hD hS => ?_)
        replace hP : va_P D vwCl (sg_Pl cI cJ pa (sg_up U2 5 j2 (-1)) (sg_ul V2 4 j2 0)) H := hP
        replace hD : va_D A (sg_Pl cI cJ pa (sg_up U2 5 j2 (-1)) (sg_ul V2 4 j2 0)) := hD
        refine lv_iinc (v := nI (j2 + 1)) (lv' := [(1, .int (nI (j2 + 1))), (0, .ref (pa 0))]) hx hb dX3_findWays_39 hl (k := 0) rfl (nI_1 j2) (by decide) rfl (fun ls hl => ?_)
        refine lv_goto (tgt := 2) hx hb dX3_findWays_42 (by decide) ?_
        have hl8 := hl; have hS8 := hS; have hD8 := hD; have hP8 := hP
        subst hU2
        subst hV2
        exact ih2 (j2 + 1) (sg_ul ((sg_findWays_2 U V j2).2) 4 j2 0) (sg_up ((sg_findWays_2 U V j2).1) 5 j2 (-1)) _ _ _ (show (sg_ul ((sg_findWays_2 U V j2).2) 4 j2 0 : sg_PiL) = (sg_findWays_2 U V (j2 + 1)).2 from by rw [sg_findWays_2, if_neg c_6]) (show (sg_up ((sg_findWays_2 U V j2).1) 5 j2 (-1) : sg_Pic) = (sg_findWays_2 U V (j2 + 1)).1 from by rw [sg_findWays_2, if_neg c_6]) (by omega) (by omega) (lv_sub hl8 [0, 1] rfl) hS8 hD8 hP8

def sg_cheapestEnd_4 (U : sg_Pic) (V : sg_PiL) : Nat → Int32
  | 0 => (-1)
  | j4 + 1 => (if (U 2 j4) ≤ 0 then (sg_cheapestEnd_4 U V j4) else (if (lg_cmp (V 4 j4) 1152921504606846976) = 0 then (sg_cheapestEnd_4 U V j4) else (if (sg_cheapestEnd_4 U V j4) = (-1) then (nI j4) else (if 0 ≤ (lg_cmp (V 4 j4) ((V 4) (Int32.toNatClampNeg (sg_cheapestEnd_4 U V j4)))) then (sg_cheapestEnd_4 U V j4) else (nI j4)))))

def sg_cheapestEnd (U : sg_Pic) (V : sg_PiL) : Int32 := (sg_cheapestEnd_4 U V (sg_cn U 0))

theorem sg_ce_R (U : sg_Pic) (V : sg_PiL) : ∀ j, sg_cheapestEnd_4 U V j = -1 ∨ ∃ f, f < j ∧ sg_cheapestEnd_4 U V j = nI f
  | 0 => Or.inl rfl
  | j + 1 => by
    have h := sg_ce_R U V j
    have h1 : sg_cheapestEnd_4 U V j = -1 ∨ ∃ f, f < j + 1 ∧ sg_cheapestEnd_4 U V j = nI f := by
      rcases h with h | ⟨f, hf, h⟩
      · exact Or.inl h
      · exact Or.inr ⟨f, by omega, h⟩
    rw [sg_cheapestEnd_4]
    repeat' split
    all_goals first | exact h1 | exact Or.inr ⟨j, by omega, rfl⟩
theorem sg_cein {U : sg_Pic} {V : sg_PiL} {v : Int32} {j : Nat} (h : v = sg_cheapestEnd_4 U V j) (hj : j ≤ 5) (c : ¬ (v = -1)) : vp_in v 5 := by
  rcases sg_ce_R U V j with q | ⟨f, hf, q⟩
  · exact absurd (h.trans q) c
  · rw [h, q]
    exact vp_in_nI (by omega) (by decide)

set_option maxHeartbeats 4000000 in
set_option maxRecDepth 100000 in
/-- X3_cheapestEnd -/
theorem c_cheapestEnd (l : Launch) (D : va_G) (cI cZ cJ : ClassId) (lo sz : Nat) (pa : Nat → Nat) (U : sg_Pic) (V : sg_PiL) (hU : sg_UN U) : Met l yX3_cheapestEnd wsX3_cheapestEnd ({ frames := 0, cells := 0, slots := 0, locals := 0 }) (Pre lo D cI cZ cJ [.ref (pa 0)] sz (sg_Pl cI cJ pa U V)) (vp_Si (fun r => r = sg_cheapestEnd U V)) 0 0 (fun _ => False) := by
  refine Met.ofW (cc := cX3_cheapestEnd) (maxL := 3) (ret := (some .int)) (by decide) rfl ?_
  intro p e s m args below meth c s₁ B hml hv
  obtain ⟨rfl, hsz, hP, hD0, hC⟩ := hv
  have hx := B.exec
  have hb := B.bytes
  have hr := B.returns
  have hts := atoms_spec (ws := wsX3_cheapestEnd) B.pre
  have hown : s.vm.findClass RX3 = some m.cls := findClass_of_methodNamed B.named
  have hlocks := B.notSynchronized
  subst hsz
  have hnU : sg_cn U 0 ≤ 5 := hU.n
  have hK := hC.K
  have hD := hD0
  have hS : va_S (fun q => lo ≤ q) s.heap s.heap [] := va_S.rf
  have hAlo : ∀ q, (fun q => lo ≤ q) q → lo ≤ q := fun _ h => h
  have hL : ∀ q ∈ ([] : List Loc), (fun _ : Addr => False) q.base := fun q h => by cases h
  have hP : va_P D vwCl (sg_Pl cI cJ pa U V) s.heap := hP
  have hl := lv_entry ([.ref (pa 0)]) (n := 3) (Nat.le_of_ble_eq_true rfl)
  rw [lg_entry_eq]
  generalize (lg_sl ([.ref (pa 0)]) ++ List.replicate (3 - (lg_sl ([.ref (pa 0)])).length) Slot.unset).toArray = ls at hl ⊢
  have hl : lv_has ls 3 [(0, .ref (pa 0))] := hl
  have in3 : ∀ w ∈ u_ws RX3 TX3 7, w ∈ wsX3_cheapestEnd := by decide +kernel
  refine lv_iconst (v := (-1)) hx hb dX3_cheapestEnd_0 (by decide) ?_
  refine lv_istore_n (lv' := [(1, .int (-1)), (0, .ref (pa 0))]) hx hb dX3_cheapestEnd_1 rfl hl (by decide) rfl (fun ls hl => ?_)
  refine lv_iconst (v := 0) hx hb dX3_cheapestEnd_2 (by decide) ?_
  refine lv_istore_n (lv' := [(2, .int 0), (1, .int (-1)), (0, .ref (pa 0))]) hx hb dX3_cheapestEnd_3 rfl hl (by decide) rfl (fun ls hl => ?_)
  obtain ⟨j4, h0j4⟩ : ∃ j : Nat, j = 0 := ⟨_, rfl⟩
  obtain ⟨x4_1, hx4_1⟩ : ∃ z9 : Int32, z9 = sg_cheapestEnd_4 U V j4 := ⟨_, rfl⟩
  replace hl : lv_has ls 3 [(2, .int (nI j4)), (1, .int x4_1), (0, .ref (pa 0))] := by rw [hx4_1, h0j4]; exact hl
  have hjj4 : j4 ≤ sg_cn U 0 := by omega
  clear h0j4
  obtain ⟨n4, hn4⟩ : ∃ n : Nat, sg_cn U 0 < j4 + n := ⟨sg_cn U 0 + 1, by omega⟩
  revert hl
  revert hn4
  revert hjj4
  revert hx4_1
  revert ls
  revert x4_1
  revert j4
  induction n4 with
  | zero =>
    intro j4 x4_1 ls hx4_1 hjj4 hn4 hl
    exact absurd hn4 (by omega)
  | succ n4 ih4 =>
    intro j4 x4_1 ls hx4_1 hjj4 hn4 hl
    refine lv_iload_n hx hb dX3_cheapestEnd_4 rfl (lv_at hl 0 rfl) ?_
    refine lv_aload_n hx hb dX3_cheapestEnd_5 rfl (lv_at hl 2 rfl) ?_
    refine va_get (D := D) (ci := 3) (v := .int (U 0 0)) (C := RX3) (T := TX3) (N := 7) hx hb hts in3 hown hK hP 0 rfl rfl 0 (by decide) (hts (.fieldLink RX3 43 "Granary$Plan" "sites" "I") (by decide +kernel)) (fun _ h9 => h9) rfl dX3_cheapestEnd_6 ?_
    have hB4 : ((U 0 0) : Int32) = nI (sg_cn U 0) := hU.e
    refine lv_icmp_ge (tgt := 63) hx hb dX3_cheapestEnd_9 (by decide) (fun c_1 => ?_) (fun c_1 => ?_)
    · have hE4 : sg_cn U 0 = j4 := (sg_eq hB4 c_1 hjj4 (by omega)).symm
      clear ih4 hn4
      subst hE4
      subst hx4_1
      refine lv_iload_n hx hb dX3_cheapestEnd_63 rfl (lv_at hl 1 rfl) ?_
      exact W.iret (v := (sg_cheapestEnd_4 U V (sg_cn U 0))) hx hb hr (fun t ht hW => ⟨(sg_cheapestEnd_4 U V (sg_cn U 0)), rfl, rfl, ht⟩) hL dX3_cheapestEnd_64
    · have hL4 : j4 < sg_cn U 0 := sg_lt hB4 c_1 (by omega)
      refine lv_aload_n hx hb dX3_cheapestEnd_12 rfl (lv_at hl 2 rfl) ?_
      refine va_get (D := D) (ci := 3) (v := .ref (pa 2)) (C := RX3) (T := TX3) (N := 7) hx hb hts in3 hown hK hP 0 rfl rfl 2 (by decide) (hts (.fieldLink RX3 15 "Granary$Plan" "lack" "[I") (by decide +kernel)) (fun _ h9 => h9) rfl dX3_cheapestEnd_13 ?_
      refine lv_iload_n hx hb dX3_cheapestEnd_16 rfl (lv_at hl 0 rfl) ?_
      refine sg_iald hx hb hK hP 2 0 rfl rfl (j := j4) rfl (by omega) (Nat.le_of_ble_eq_true rfl) dX3_cheapestEnd_17 ?_
      refine lv_toi (y := U 2 j4) rfl ?_
      refine lv_if_le (tgt := 57) hx hb dX3_cheapestEnd_18 (by decide) (fun c_2 => ?_) (fun c_2 => ?_)
      · refine lv_iinc (v := nI (j4 + 1)) (lv' := [(2, .int (nI (j4 + 1))), (1, .int x4_1), (0, .ref (pa 0))]) hx hb dX3_cheapestEnd_57 hl (k := 0) rfl (nI_1 j4) (by decide) rfl (fun ls hl => ?_)
        refine lv_goto (tgt := 4) hx hb dX3_cheapestEnd_60 (by decide) ?_
        have hl8 := hl
        subst hx4_1
        exact ih4 (j4 + 1) (sg_cheapestEnd_4 U V j4) _ (show ((sg_cheapestEnd_4 U V j4) : Int32) = sg_cheapestEnd_4 U V (j4 + 1) from by rw [sg_cheapestEnd_4, if_pos c_2]) (by omega) (by omega) (lv_sub hl8 [0, 1, 2] rfl)
      · refine lv_aload_n hx hb dX3_cheapestEnd_21 rfl (lv_at hl 2 rfl) ?_
        refine va_get (D := D) (ci := 3) (v := .ref (pa 4)) (C := RX3) (T := TX3) (N := 7) hx hb hts in3 hown hK hP 0 rfl rfl 4 (by decide) (hts (.fieldLink RX3 22 "Granary$Plan" "reach" "[J") (by decide +kernel)) (fun _ h9 => h9) rfl dX3_cheapestEnd_22 ?_
        refine lv_iload_n hx hb dX3_cheapestEnd_25 rfl (lv_at hl 0 rfl) ?_
        refine sg_lald hx hb hK hP 4 2 rfl rfl (j := j4) rfl (by omega) (Nat.le_of_ble_eq_true rfl) dX3_cheapestEnd_26 ?_
        refine lv_tol (y := V 4 j4) rfl ?_
        refine lv_ldc2 hx hb (v := 1152921504606846976) hown (hts (.constantLong RX3 74 (1152921504606846976)) (by decide +kernel)) dX3_cheapestEnd_27 ?_
        refine W.lcmp hx hb dX3_cheapestEnd_30 ?_
        refine lv_toi (y := lg_cmp (V 4 j4) 1152921504606846976) rfl ?_
        refine lv_if_eq (tgt := 57) hx hb dX3_cheapestEnd_31 (by decide) (fun c_3 => ?_) (fun c_3 => ?_)
        · refine lv_iinc (v := nI (j4 + 1)) (lv' := [(2, .int (nI (j4 + 1))), (1, .int x4_1), (0, .ref (pa 0))]) hx hb dX3_cheapestEnd_57 hl (k := 0) rfl (nI_1 j4) (by decide) rfl (fun ls hl => ?_)
          refine lv_goto (tgt := 4) hx hb dX3_cheapestEnd_60 (by decide) ?_
          have hl8 := hl
          subst hx4_1
          exact ih4 (j4 + 1) (sg_cheapestEnd_4 U V j4) _ (show ((sg_cheapestEnd_4 U V j4) : Int32) = sg_cheapestEnd_4 U V (j4 + 1) from by rw [sg_cheapestEnd_4, if_neg c_2, if_pos c_3]) (by omega) (by omega) (lv_sub hl8 [0, 1, 2] rfl)
        · refine lv_iload_n hx hb dX3_cheapestEnd_34 rfl (lv_at hl 1 rfl) ?_
          refine lv_iconst (v := (-1)) hx hb dX3_cheapestEnd_35 (by decide) ?_
          refine lv_icmp_eq (tgt := 55) hx hb dX3_cheapestEnd_36 (by decide) (fun c_4 => ?_) (fun c_4 => ?_)
          · refine lv_iload_n hx hb dX3_cheapestEnd_55 rfl (lv_at hl 0 rfl) ?_
            refine lv_istore_n (lv' := [(1, .int (nI j4)), (2, .int (nI j4)), (0, .ref (pa 0))]) hx hb dX3_cheapestEnd_56 rfl hl (by decide) rfl (fun ls hl => ?_)
            refine lv_iinc (v := nI (j4 + 1)) (lv' := [(2, .int (nI (j4 + 1))), (1, .int (nI j4)), (0, .ref (pa 0))]) hx hb dX3_cheapestEnd_57 hl (k := 1) rfl (nI_1 j4) (by decide) rfl (fun ls hl => ?_)
            refine lv_goto (tgt := 4) hx hb dX3_cheapestEnd_60 (by decide) ?_
            have hl8 := hl
            subst hx4_1
            exact ih4 (j4 + 1) (nI j4) _ (show (nI j4 : Int32) = sg_cheapestEnd_4 U V (j4 + 1) from by rw [sg_cheapestEnd_4, if_neg c_2, if_neg c_3, if_pos c_4]) (by omega) (by omega) (lv_sub hl8 [0, 1, 2] rfl)
          · refine lv_aload_n hx hb dX3_cheapestEnd_39 rfl (lv_at hl 2 rfl) ?_
            refine va_get (D := D) (ci := 3) (v := .ref (pa 4)) (C := RX3) (T := TX3) (N := 7) hx hb hts in3 hown hK hP 0 rfl rfl 4 (by decide) (hts (.fieldLink RX3 22 "Granary$Plan" "reach" "[J") (by decide +kernel)) (fun _ h9 => h9) rfl dX3_cheapestEnd_40 ?_
            refine lv_iload_n hx hb dX3_cheapestEnd_43 rfl (lv_at hl 0 rfl) ?_
            refine sg_lald hx hb hK hP 4 2 rfl rfl (j := j4) rfl (by omega) (Nat.le_of_ble_eq_true rfl) dX3_cheapestEnd_44 ?_
            refine lv_tol (y := V 4 j4) rfl ?_
            refine lv_aload_n hx hb dX3_cheapestEnd_45 rfl (lv_at hl 2 rfl) ?_
            refine va_get (D := D) (ci := 3) (v := .ref (pa 4)) (C := RX3) (T := TX3) (N := 7) hx hb hts in3 hown hK hP 0 rfl rfl 4 (by decide) (hts (.fieldLink RX3 22 "Granary$Plan" "reach" "[J") (by decide +kernel)) (fun _ h9 => h9) rfl dX3_cheapestEnd_46 ?_
            refine lv_iload_n hx hb dX3_cheapestEnd_49 rfl (lv_at hl 1 rfl) ?_
            refine va_lald hx hb hK hP 4 2 rfl rfl (sg_cein hx4_1 (by omega) c_4) dX3_cheapestEnd_50 ?_
            refine W.lcmp hx hb dX3_cheapestEnd_51 ?_
            refine lv_toi (y := lg_cmp (V 4 j4) ((V 4) (Int32.toNatClampNeg x4_1))) rfl ?_
            refine lv_if_ge (tgt := 57) hx hb dX3_cheapestEnd_52 (by decide) (fun c_5 => ?_) (fun c_5 => ?_)
            · refine lv_iinc (v := nI (j4 + 1)) (lv' := [(2, .int (nI (j4 + 1))), (1, .int x4_1), (0, .ref (pa 0))]) hx hb dX3_cheapestEnd_57 hl (k := 0) rfl (nI_1 j4) (by decide) rfl (fun ls hl => ?_)
              refine lv_goto (tgt := 4) hx hb dX3_cheapestEnd_60 (by decide) ?_
              have hl8 := hl
              subst hx4_1
              exact ih4 (j4 + 1) (sg_cheapestEnd_4 U V j4) _ (show ((sg_cheapestEnd_4 U V j4) : Int32) = sg_cheapestEnd_4 U V (j4 + 1) from by rw [sg_cheapestEnd_4, if_neg c_2, if_neg c_3, if_neg c_4, if_pos c_5]) (by omega) (by omega) (lv_sub hl8 [0, 1, 2] rfl)
            · refine lv_iload_n hx hb dX3_cheapestEnd_55 rfl (lv_at hl 0 rfl) ?_
              refine lv_istore_n (lv' := [(1, .int (nI j4)), (2, .int (nI j4)), (0, .ref (pa 0))]) hx hb dX3_cheapestEnd_56 rfl hl (by decide) rfl (fun ls hl => ?_)
              refine lv_iinc (v := nI (j4 + 1)) (lv' := [(2, .int (nI (j4 + 1))), (1, .int (nI j4)), (0, .ref (pa 0))]) hx hb dX3_cheapestEnd_57 hl (k := 1) rfl (nI_1 j4) (by decide) rfl (fun ls hl => ?_)
              refine lv_goto (tgt := 4) hx hb dX3_cheapestEnd_60 (by decide) ?_
              have hl8 := hl
              subst hx4_1
              exact ih4 (j4 + 1) (nI j4) _ (show (nI j4 : Int32) = sg_cheapestEnd_4 U V (j4 + 1) from by rw [sg_cheapestEnd_4, if_neg c_2, if_neg c_3, if_neg c_4, if_neg c_5]) (by omega) (by omega) (lv_sub hl8 [0, 1, 2] rfl)

theorem sg_ce {U : sg_Pic} {V : sg_PiL} (hU : sg_UN U) (c : ¬ (sg_cheapestEnd U V = -1)) : sg_cheapestEnd U V = nI (Int32.toNatClampNeg (sg_cheapestEnd U V)) ∧ Int32.toNatClampNeg (sg_cheapestEnd U V) < sg_cn U 0 := by
  have h5 := hU.n
  unfold sg_cheapestEnd at c ⊢
  rcases sg_ce_R U V (sg_cn U 0) with q | ⟨f, hf, q⟩
  · exact absurd q c
  · rw [q, nI_clamp (by omega)]
    exact ⟨rfl, hf⟩

theorem sg_step_A {ns xf xt : Nat} {U : sg_Pic} {V : sg_PiL} (h : sg_UA ns U) (hf : xf < ns) : sg_UA ns (sg_step_U U V xf xt) := by
  unfold sg_step_U
  repeat' split
  all_goals first | exact h | exact h.up hf
theorem sg_fw67_A {ns : Nat} {U : sg_Pic} {V : sg_PiL} {j47 j57 : Nat} {U47 U57 : sg_Pic} {V47 V57 : sg_PiL} (h : sg_UA ns U57) (hf : j57 < ns) : ∀ j, sg_UA ns (sg_findWays_67 U V j47 U47 V47 j57 U57 V57 j).1
  | 0 => h
  | j + 1 => sg_step_A (sg_fw67_A h hf j) hf
theorem sg_fw57_A {ns : Nat} {U : sg_Pic} {V : sg_PiL} {j47 : Nat} {U47 : sg_Pic} {V47 : sg_PiL} (h : sg_UA ns U47) : ∀ j, j ≤ ns → sg_UA ns (sg_findWays_57 U V j47 U47 V47 j).1
  | 0, _ => h
  | j + 1, hj => sg_fw67_A (sg_fw57_A h j (by omega)) (by omega) _
theorem sg_fw47_A {U : sg_Pic} {V : sg_PiL} (h : sg_UA (sg_cn U 0) (sg_findWays_2 U V (sg_cn U 0)).1) : ∀ j, sg_UA (sg_cn U 0) (sg_findWays_47 U V j).1
  | 0 => h
  | j + 1 => sg_fw57_A (sg_fw47_A h j) _ (Nat.le_refl _)
theorem sg_fw2_A (U : sg_Pic) (V : sg_PiL) : ∀ j, ∀ i, i < j → (sg_findWays_2 U V j).1 5 i = -1
  | 0, i, hi => absurd hi (Nat.not_lt_zero _)
  | j + 1, i, hi => by
    have e : (sg_findWays_2 U V (j + 1)).1 = sg_up (sg_findWays_2 U V j).1 5 j (-1) := by
      rw [sg_findWays_2]
      split <;> rfl
    rw [e]
    show upd ((sg_findWays_2 U V j).1 5) j (-1) i = -1
    by_cases c : i = j
    · subst c
      exact pk_us
    · rw [pk_un c]
      exact sg_fw2_A U V j i (by omega)
theorem sg_fw_A {U : sg_Pic} {V : sg_PiL} (hU : sg_UN U) : sg_UA (sg_cn (sg_findWays_U U V) 0) (sg_findWays_U U V) := by
  have e : sg_cn (sg_findWays_U U V) 0 = sg_cn U 0 := by
    unfold sg_cn
    rw [show (sg_findWays_U U V) 0 = U 0 from sg_findWays_KU U V]
  rw [e]
  exact sg_fw47_A (fun i hi => Or.inl (sg_fw2_A U V _ i hi)) _

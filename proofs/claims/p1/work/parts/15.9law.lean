set_option maxHeartbeats 4000000 in
set_option maxRecDepth 100000 in
/-- the law's addItem on a fresh object -/
theorem h_addItem (l : Launch) (hl9 : l.stackTraces = false) (D : va_G) (cI cZ cJ : ClassId) (lo sz : Nat) (g : Nat) (nw : Nat) (la : Nat) (pn : Nat) (dy : Int32) (aI : Nat) (aS : Nat) (aP : Nat) (aL : Nat) (aO : Nat) (aT : Nat) (aA : Nat) (aQ : Nat) (aI1 : Nat) (aI2 : Nat) (aI3 : Nat) (aI4 : Nat) (p0 : Int32) (p1 : Int32) (p2 : Int32) (ou : Nat) : Met l yL_addItem wsL_addItem ({ frames := 9, cells := 4, slots := 24, locals := 147 }) (Pre lo D cI cZ cJ [.ref g, .int p0, .int p1, .int p2, .ref ou] sz [(g, .inr (8, [.ref nw, .ref la, .ref pn])), (nw, .inr (6, [.int dy, .ref aI, .ref aS, .ref aP, .ref aL, .ref aO, .ref aT, .ref aA, .ref aQ])), (aI, .inr (0, [.int 0, .ref aI1, .ref aI2, .ref aI3, .ref aI4])), (aI1, .inl (cI, 6, .inl (fun _ => 0))), (aI2, .inl (cI, 6, .inl (fun _ => 0))), (aI3, .inl (cI, 6, .inl (fun _ => 0))), (aI4, .inl (cI, 6, .inl (fun _ => 0))), (ou, .inl (cJ, 1, .inr (.inl (fun _ => 0))))]) (va_Qi (fun (r : Int32) (_ : Unit) => (r = 0 ∧ ((1 ≤ p0 ∧ p0 ≤ 99) ∧ (1 ≤ p1 ∧ p1 ≤ 99) ∧ (1 ≤ p2 ∧ p2 ≤ 20))) ∨ (r = 1 ∧ ¬ ((1 ≤ p0 ∧ p0 ≤ 99) ∧ (1 ≤ p1 ∧ p1 ≤ 99) ∧ (1 ≤ p2 ∧ p2 ≤ 20)))) (fun _ t => ∃ (fo : Nat → Int64), va_P D vwCl [(ou, .inl (cJ, 1, .inr (.inl (fo))))] t.heap ∧ va_D (va_A [(g, .inr (8, [.ref nw, .ref la, .ref pn])), (nw, .inr (6, [.int dy, .ref aI, .ref aS, .ref aP, .ref aL, .ref aO, .ref aT, .ref aA, .ref aQ])), (aI, .inr (0, [.int 0, .ref aI1, .ref aI2, .ref aI3, .ref aI4])), (aI1, .inl (cI, 6, .inl (fun _ => 0))), (aI2, .inl (cI, 6, .inl (fun _ => 0))), (aI3, .inl (cI, 6, .inl (fun _ => 0))), (aI4, .inl (cI, 6, .inl (fun _ => 0))), (ou, .inl (cJ, 1, .inr (.inl (fun _ => 0))))] sz) [(ou, .inl (cJ, 1, .inr (.inl (fo))))] ∧ fo 0 = 0) (va_A [(g, .inr (8, [.ref nw, .ref la, .ref pn])), (nw, .inr (6, [.int dy, .ref aI, .ref aS, .ref aP, .ref aL, .ref aO, .ref aT, .ref aA, .ref aQ])), (aI, .inr (0, [.int 0, .ref aI1, .ref aI2, .ref aI3, .ref aI4])), (aI1, .inl (cI, 6, .inl (fun _ => 0))), (aI2, .inl (cI, 6, .inl (fun _ => 0))), (aI3, .inl (cI, 6, .inl (fun _ => 0))), (aI4, .inl (cI, 6, .inl (fun _ => 0))), (ou, .inl (cJ, 1, .inr (.inl (fun _ => 0))))] sz)) 4 24 (va_A [(g, .inr (8, [.ref nw, .ref la, .ref pn])), (nw, .inr (6, [.int dy, .ref aI, .ref aS, .ref aP, .ref aL, .ref aO, .ref aT, .ref aA, .ref aQ])), (aI, .inr (0, [.int 0, .ref aI1, .ref aI2, .ref aI3, .ref aI4])), (aI1, .inl (cI, 6, .inl (fun _ => 0))), (aI2, .inl (cI, 6, .inl (fun _ => 0))), (aI3, .inl (cI, 6, .inl (fun _ => 0))), (aI4, .inl (cI, 6, .inl (fun _ => 0))), (ou, .inl (cJ, 1, .inr (.inl (fun _ => 0))))] sz) := by
  refine va_MetW (cc := cL_addItem) (maxL := 6) (ret := (some .int)) (hh := [(0, 12, 15, 13), (0, 12, 19, 15)]) (by decide) rfl ?_
  intro p e s m args below meth c s₁ B hml hv
  obtain ⟨rfl, hsz, hP, hD0, hC⟩ := hv
  have hx := B.exec
  have hb := B.bytes
  have hr := B.returns
  have hts := atoms_spec (ws := wsL_addItem) B.pre
  have hown : s.vm.findClass RL = some m.cls := findClass_of_methodNamed B.named
  have hlocks := B.notSynchronized
  have htab := vx_table (x := yL_addItem) B (hts (.codeWith yL_addItem cL_addItem 6 (some .int) [(0, 12, 15, 13), (0, 12, 19, 15)]) List.mem_cons_self)
  subst hsz
  have hK := hC.K
  have hD := hD0.self (sz := s.heap.size)
  have hAlo0 := va_A_lo hD0 hC.1
  generalize hAe : va_A [(g, .inr (8, [.ref nw, .ref la, .ref pn])), (nw, .inr (6, [.int dy, .ref aI, .ref aS, .ref aP, .ref aL, .ref aO, .ref aT, .ref aA, .ref aQ])), (aI, .inr (0, [.int 0, .ref aI1, .ref aI2, .ref aI3, .ref aI4])), (aI1, .inl (cI, 6, .inl (fun _ => 0))), (aI2, .inl (cI, 6, .inl (fun _ => 0))), (aI3, .inl (cI, 6, .inl (fun _ => 0))), (aI4, .inl (cI, 6, .inl (fun _ => 0))), (ou, .inl (cJ, 1, .inr (.inl (fun _ => 0))))] s.heap.size = A at hD hAlo0 ⊢
  have hA : ∀ q : Nat, s.heap.size ≤ q → A q := fun q h => by rw [← hAe]; exact Or.inr h
  have hAlo : ∀ q, A q → lo ≤ q := hAlo0
  have hS : va_S A s.heap s.heap [] := va_S.rf
  have hP : va_P D vwCl [(g, .inr (8, [.ref nw, .ref la, .ref pn])), (nw, .inr (6, [.int dy, .ref aI, .ref aS, .ref aP, .ref aL, .ref aO, .ref aT, .ref aA, .ref aQ])), (aI, .inr (0, [.int 0, .ref aI1, .ref aI2, .ref aI3, .ref aI4])), (aI1, .inl (cI, 6, .inl (fun _ => 0))), (aI2, .inl (cI, 6, .inl (fun _ => 0))), (aI3, .inl (cI, 6, .inl (fun _ => 0))), (aI4, .inl (cI, 6, .inl (fun _ => 0))), (ou, .inl (cJ, 1, .inr (.inl (fun _ => 0))))] s.heap := hP
  have hl := lv_entry ([.ref g, .int p0, .int p1, .int p2, .ref ou]) (n := 6) (Nat.le_of_ble_eq_true rfl)
  rw [lg_entry_eq]
  generalize (lg_sl ([.ref g, .int p0, .int p1, .int p2, .ref ou]) ++ List.replicate (6 - (lg_sl ([.ref g, .int p0, .int p1, .int p2, .ref ou])).length) Slot.unset).toArray = ls at hl ⊢
  have hl : lv_has ls 6 [(0, .ref g), (1, .int p0), (2, .int p1), (3, .int p2), (4, .ref ou)] := hl
  refine lv_aload hx hb dL_addItem_0 (lv_at hl 4 rfl) ?_
  refine lv_iconst (v := 0) hx hb dL_addItem_2 (by decide) ?_
  refine lv_aload_n hx hb dL_addItem_3 rfl (lv_at hl 0 rfl) ?_
  refine lv_iload_n hx hb dL_addItem_4 rfl (lv_at hl 1 rfl) ?_
  refine lv_iload_n hx hb dL_addItem_5 rfl (lv_at hl 2 rfl) ?_
  refine lv_iload_n hx hb dL_addItem_6 rfl (lv_at hl 3 rfl) ?_
  have hPc := hP.sub (ws' := [(g, .inr (8, [.ref nw, .ref la, .ref pn])), (nw, .inr (6, [.int dy, .ref aI, .ref aS, .ref aP, .ref aL, .ref aO, .ref aT, .ref aA, .ref aQ])), (aI, .inr (0, [.int 0, .ref aI1, .ref aI2, .ref aI3, .ref aI4])), (aI1, .inl (cI, 6, .inl (fun _ => 0))), (aI2, .inl (cI, 6, .inl (fun _ => 0))), (aI3, .inl (cI, 6, .inl (fun _ => 0))), (aI4, .inl (cI, 6, .inl (fun _ => 0)))]) [0, 1, 2, 3, 4, 5, 6] rfl
  have hDc := hD.sub (ws' := [(g, .inr (8, [.ref nw, .ref la, .ref pn])), (nw, .inr (6, [.int dy, .ref aI, .ref aS, .ref aP, .ref aL, .ref aO, .ref aT, .ref aA, .ref aQ])), (aI, .inr (0, [.int 0, .ref aI1, .ref aI2, .ref aI3, .ref aI4])), (aI1, .inl (cI, 6, .inl (fun _ => 0))), (aI2, .inl (cI, 6, .inl (fun _ => 0))), (aI3, .inl (cI, 6, .inl (fun _ => 0))), (aI4, .inl (cI, 6, .inl (fun _ => 0)))]) [0, 1, 2, 3, 4, 5, 6] (by decide) rfl
  have hFc := va_free (wc := [(g, .inr (8, [.ref nw, .ref la, .ref pn])), (nw, .inr (6, [.int dy, .ref aI, .ref aS, .ref aP, .ref aL, .ref aO, .ref aT, .ref aA, .ref aQ])), (aI, .inr (0, [.int 0, .ref aI1, .ref aI2, .ref aI3, .ref aI4])), (aI1, .inl (cI, 6, .inl (fun _ => 0))), (aI2, .inl (cI, 6, .inl (fun _ => 0))), (aI3, .inl (cI, 6, .inl (fun _ => 0))), (aI4, .inl (cI, 6, .inl (fun _ => 0)))]) hD hS hA [0, 1, 2, 3, 4, 5, 6] rfl
  refine vx_calli (vx_runV (As := [.int p0, .int p1, .int p2]) (rest := [.int 0, .ref ou]) ⟨hx, hb, hml, hown, hts⟩ (c_addItem l hl9 D cI cZ cJ lo s.heap.size g nw la pn dy aI aS aP aL aO aT aA aQ aI1 aI2 aI3 aI4 p0 p1 p2) (cwV 3 hts gL_addItem_X8_addItem rfl rfl rfl (by decide +kernel) ⟨(Nat.le_of_ble_eq_true rfl), (Nat.le_of_ble_eq_true rfl)⟩) ⟨Pre.blind, va_recv hK hP (ci := 8) (q0 := 0) rfl rfl, Pre.mk hPc (hDc.weaken (fun _ _ _ h => hAlo _ h)) hC hS hAlo⟩ rfl rfl hl.1 rfl (lv_room (Nat.le_of_ble_eq_true rfl)) dL_addItem_7 ⟨(Nat.le_of_ble_eq_true rfl), (Nat.le_of_ble_eq_true rfl)⟩) hS (fun q _ h => hFc q h) hFc (fun q _ h => hFc q h) (fun E ce q9 u t H1 locs1 ht hvm hpx hbx hz1 hk1 hS1 hce hcv hcl => ?_) (fun r_1 u t H1 locs1 ht hvm e_2 hB hz1 hk1 hS1 => ?_)
  · have px_3 : ¬ ((1 ≤ p0 ∧ p0 ≤ 99) ∧ (1 ≤ p1 ∧ p1 ≤ 99) ∧ (1 ≤ p2 ∧ p2 ≤ 20)) := hpx
    have hE : E = "java/lang/IllegalArgumentException" := hbx
    subst hE
    have hS := hS1
    refine W_widenX (k := 4) (n := 24) (by omega) (by omega) ?_
    refine vx_catch (own := RL) (name := "java/lang/IllegalArgumentException") hown [] { startPc := 0, endPc := 12, handlerPc := 15, catchType := 13 } [{ startPc := 0, endPc := 12, handlerPc := 19, catchType := 15 }] (by rw [htab]; rfl) (fun z hz => nomatch hz) (by decide) (by decide) (hts (.classLink RL 13 "java/lang/IllegalArgumentException") (by decide +kernel)) (va_Nw.use rfl hC.cIAE) hce hcv hcl ?_
    obtain ⟨hP, hD⟩ := va_rest (wr := [(ou, .inl (cJ, 1, .inr (.inl (fun _ => 0))))]) hP hD [0, 1, 2, 3, 4, 5, 6] [7] rfl rfl (by decide) (by decide) hk1 hFc
    clear ht hvm hz1 hk1 hS1
    generalize H1 = H at hP hS hce ⊢
    replace hP : va_P D vwCl [(ou, .inl (cJ, 1, .inr (.inl (fun _ => 0))))] H := hP
    replace hD : va_D A [(ou, .inl (cJ, 1, .inr (.inl (fun _ => 0))))] := hD
    refine lv_astore (lv' := [(5, .ref q9), (0, .ref g), (1, .int p0), (2, .int p1), (3, .int p2), (4, .ref ou)]) hx hb dL_addItem_15 hl (by decide) rfl (fun ls hl => ?_)
    refine lv_iconst (v := 1) hx hb dL_addItem_17 (by decide) ?_
    refine W.widen (k := 4) (n := 24) (by omega) (by omega) ?_
    have hP9 := hP.sub (ws' := [(ou, .inl (cJ, 1, .inr (.inl (fun _ => 0))))]) [0] rfl
    have hD9 := hD.sub (ws' := [(ou, .inl (cJ, 1, .inr (.inl (fun _ => 0))))]) [0] (by decide) rfl
    exact W.iret (v := 1) hx hb hr (fun t ht hW => ⟨⟨1, (), rfl, Or.inr ⟨rfl, px_3⟩, (fun _ => 0), by rw [ht]; exact hP9, hD9, rfl⟩, hS.F ht⟩) hS.2.2 dL_addItem_18
  · skip
    have hS := hS1
    refine W.widen (k := 4) (n := 24) (by omega) (by omega) ?_
    obtain ⟨hP, hD⟩ := va_rest (wr := [(ou, .inl (cJ, 1, .inr (.inl (fun _ => 0))))]) hP hD [0, 1, 2, 3, 4, 5, 6] [7] rfl rfl (by decide) (by decide) hk1 hFc
    have e_2 : r_1 = 0 ∧ ((1 ≤ p0 ∧ p0 ≤ 99) ∧ (1 ≤ p1 ∧ p1 ≤ 99) ∧ (1 ≤ p2 ∧ p2 ≤ 20)) := e_2
    obtain ⟨h_4, g_5⟩ := e_2
    have h_4 := Eq.symm h_4
    subst h_4
    clear ht hvm hz1 hk1 hS1 hB
    generalize H1 = H at hP hS ⊢
    replace hP : va_P D vwCl [(ou, .inl (cJ, 1, .inr (.inl (fun _ => 0))))] H := hP
    replace hD : va_D A [(ou, .inl (cJ, 1, .inr (.inl (fun _ => 0))))] := hD
    refine lv_i2l (v := 0) hx hb dL_addItem_10 (by decide) ?_
    refine va_last hx hb hK hP hD hS 0 2 rfl rfl (by unfold vp_in; decide) dL_addItem_11 (fun H locs hP hD hS => ?_)
    replace hP : va_P D vwCl [(ou, .inl (cJ, 1, .inr (.inl (vp_updL (fun _ => 0) (Int32.toNatClampNeg 0) 0))))] H := hP
    replace hD : va_D A [(ou, .inl (cJ, 1, .inr (.inl (vp_updL (fun _ => 0) (Int32.toNatClampNeg 0) 0))))] := hD
    refine lv_goto (tgt := 23) hx hb dL_addItem_12 (by decide) ?_
    refine lv_iconst (v := 0) hx hb dL_addItem_23 (by decide) ?_
    refine W.widen (k := 4) (n := 24) (by omega) (by omega) ?_
    have hP9 := hP.sub (ws' := [(ou, .inl (cJ, 1, .inr (.inl (vp_updL (fun _ => 0) (Int32.toNatClampNeg 0) 0))))]) [0] rfl
    have hD9 := hD.sub (ws' := [(ou, .inl (cJ, 1, .inr (.inl (vp_updL (fun _ => 0) (Int32.toNatClampNeg 0) 0))))]) [0] (by decide) rfl
    exact W.iret (v := 0) hx hb hr (fun t ht hW => ⟨⟨0, (), rfl, Or.inl ⟨rfl, g_5⟩, (vp_updL (fun _ => 0) (Int32.toNatClampNeg 0) 0), by rw [ht]; exact hP9, hD9, rfl⟩, hS.F ht⟩) hS.2.2 dL_addItem_24

set_option maxHeartbeats 4000000 in
set_option maxRecDepth 100000 in
/-- the law's addSite on a fresh object -/
theorem h_addSite (l : Launch) (hl9 : l.stackTraces = false) (D : va_G) (cI cZ cJ : ClassId) (lo sz : Nat) (g : Nat) (nw : Nat) (la : Nat) (pn : Nat) (dy : Int32) (aI : Nat) (aS : Nat) (aP : Nat) (aL : Nat) (aO : Nat) (aT : Nat) (aA : Nat) (aQ : Nat) (aS1 : Nat) (aS2 : Nat) (p0 : Int32) (ou : Nat) : Met l yL_addSite wsL_addSite ({ frames := 9, cells := 2, slots := 12, locals := 145 }) (Pre lo D cI cZ cJ [.ref g, .int p0, .ref ou] sz [(g, .inr (8, [.ref nw, .ref la, .ref pn])), (nw, .inr (6, [.int dy, .ref aI, .ref aS, .ref aP, .ref aL, .ref aO, .ref aT, .ref aA, .ref aQ])), (aS, .inr (5, [.int 0, .ref aS1, .ref aS2])), (aS1, .inl (cI, 5, .inl (fun _ => 0))), (aS2, .inl (cI, 25, .inl (fun _ => 0))), (ou, .inl (cJ, 1, .inr (.inl (fun _ => 0))))]) (va_Qi (fun (r : Int32) (_ : Unit) => (r = 0 ∧ (1 ≤ p0 ∧ p0 ≤ 9999)) ∨ (r = 1 ∧ ¬ (1 ≤ p0 ∧ p0 ≤ 9999))) (fun _ t => ∃ (fo : Nat → Int64), va_P D vwCl [(ou, .inl (cJ, 1, .inr (.inl (fo))))] t.heap ∧ va_D (va_A [(g, .inr (8, [.ref nw, .ref la, .ref pn])), (nw, .inr (6, [.int dy, .ref aI, .ref aS, .ref aP, .ref aL, .ref aO, .ref aT, .ref aA, .ref aQ])), (aS, .inr (5, [.int 0, .ref aS1, .ref aS2])), (aS1, .inl (cI, 5, .inl (fun _ => 0))), (aS2, .inl (cI, 25, .inl (fun _ => 0))), (ou, .inl (cJ, 1, .inr (.inl (fun _ => 0))))] sz) [(ou, .inl (cJ, 1, .inr (.inl (fo))))] ∧ fo 0 = 0) (va_A [(g, .inr (8, [.ref nw, .ref la, .ref pn])), (nw, .inr (6, [.int dy, .ref aI, .ref aS, .ref aP, .ref aL, .ref aO, .ref aT, .ref aA, .ref aQ])), (aS, .inr (5, [.int 0, .ref aS1, .ref aS2])), (aS1, .inl (cI, 5, .inl (fun _ => 0))), (aS2, .inl (cI, 25, .inl (fun _ => 0))), (ou, .inl (cJ, 1, .inr (.inl (fun _ => 0))))] sz)) 2 12 (va_A [(g, .inr (8, [.ref nw, .ref la, .ref pn])), (nw, .inr (6, [.int dy, .ref aI, .ref aS, .ref aP, .ref aL, .ref aO, .ref aT, .ref aA, .ref aQ])), (aS, .inr (5, [.int 0, .ref aS1, .ref aS2])), (aS1, .inl (cI, 5, .inl (fun _ => 0))), (aS2, .inl (cI, 25, .inl (fun _ => 0))), (ou, .inl (cJ, 1, .inr (.inl (fun _ => 0))))] sz) := by
  refine va_MetW (cc := cL_addSite) (maxL := 4) (ret := (some .int)) (hh := [(0, 9, 12, 13), (0, 9, 15, 15)]) (by decide) rfl ?_
  intro p e s m args below meth c s₁ B hml hv
  obtain ⟨rfl, hsz, hP, hD0, hC⟩ := hv
  have hx := B.exec
  have hb := B.bytes
  have hr := B.returns
  have hts := atoms_spec (ws := wsL_addSite) B.pre
  have hown : s.vm.findClass RL = some m.cls := findClass_of_methodNamed B.named
  have hlocks := B.notSynchronized
  have htab := vx_table (x := yL_addSite) B (hts (.codeWith yL_addSite cL_addSite 4 (some .int) [(0, 9, 12, 13), (0, 9, 15, 15)]) List.mem_cons_self)
  subst hsz
  have hK := hC.K
  have hD := hD0.self (sz := s.heap.size)
  have hAlo0 := va_A_lo hD0 hC.1
  generalize hAe : va_A [(g, .inr (8, [.ref nw, .ref la, .ref pn])), (nw, .inr (6, [.int dy, .ref aI, .ref aS, .ref aP, .ref aL, .ref aO, .ref aT, .ref aA, .ref aQ])), (aS, .inr (5, [.int 0, .ref aS1, .ref aS2])), (aS1, .inl (cI, 5, .inl (fun _ => 0))), (aS2, .inl (cI, 25, .inl (fun _ => 0))), (ou, .inl (cJ, 1, .inr (.inl (fun _ => 0))))] s.heap.size = A at hD hAlo0 ⊢
  have hA : ∀ q : Nat, s.heap.size ≤ q → A q := fun q h => by rw [← hAe]; exact Or.inr h
  have hAlo : ∀ q, A q → lo ≤ q := hAlo0
  have hS : va_S A s.heap s.heap [] := va_S.rf
  have hP : va_P D vwCl [(g, .inr (8, [.ref nw, .ref la, .ref pn])), (nw, .inr (6, [.int dy, .ref aI, .ref aS, .ref aP, .ref aL, .ref aO, .ref aT, .ref aA, .ref aQ])), (aS, .inr (5, [.int 0, .ref aS1, .ref aS2])), (aS1, .inl (cI, 5, .inl (fun _ => 0))), (aS2, .inl (cI, 25, .inl (fun _ => 0))), (ou, .inl (cJ, 1, .inr (.inl (fun _ => 0))))] s.heap := hP
  have hl := lv_entry ([.ref g, .int p0, .ref ou]) (n := 4) (Nat.le_of_ble_eq_true rfl)
  rw [lg_entry_eq]
  generalize (lg_sl ([.ref g, .int p0, .ref ou]) ++ List.replicate (4 - (lg_sl ([.ref g, .int p0, .ref ou])).length) Slot.unset).toArray = ls at hl ⊢
  have hl : lv_has ls 4 [(0, .ref g), (1, .int p0), (2, .ref ou)] := hl
  refine lv_aload_n hx hb dL_addSite_0 rfl (lv_at hl 2 rfl) ?_
  refine lv_iconst (v := 0) hx hb dL_addSite_1 (by decide) ?_
  refine lv_aload_n hx hb dL_addSite_2 rfl (lv_at hl 0 rfl) ?_
  refine lv_iload_n hx hb dL_addSite_3 rfl (lv_at hl 1 rfl) ?_
  have hPc := hP.sub (ws' := [(g, .inr (8, [.ref nw, .ref la, .ref pn])), (nw, .inr (6, [.int dy, .ref aI, .ref aS, .ref aP, .ref aL, .ref aO, .ref aT, .ref aA, .ref aQ])), (aS, .inr (5, [.int 0, .ref aS1, .ref aS2])), (aS1, .inl (cI, 5, .inl (fun _ => 0))), (aS2, .inl (cI, 25, .inl (fun _ => 0)))]) [0, 1, 2, 3, 4] rfl
  have hDc := hD.sub (ws' := [(g, .inr (8, [.ref nw, .ref la, .ref pn])), (nw, .inr (6, [.int dy, .ref aI, .ref aS, .ref aP, .ref aL, .ref aO, .ref aT, .ref aA, .ref aQ])), (aS, .inr (5, [.int 0, .ref aS1, .ref aS2])), (aS1, .inl (cI, 5, .inl (fun _ => 0))), (aS2, .inl (cI, 25, .inl (fun _ => 0)))]) [0, 1, 2, 3, 4] (by decide) rfl
  have hFc := va_free (wc := [(g, .inr (8, [.ref nw, .ref la, .ref pn])), (nw, .inr (6, [.int dy, .ref aI, .ref aS, .ref aP, .ref aL, .ref aO, .ref aT, .ref aA, .ref aQ])), (aS, .inr (5, [.int 0, .ref aS1, .ref aS2])), (aS1, .inl (cI, 5, .inl (fun _ => 0))), (aS2, .inl (cI, 25, .inl (fun _ => 0)))]) hD hS hA [0, 1, 2, 3, 4] rfl
  refine vx_calli (vx_runV (As := [.int p0]) (rest := [.int 0, .ref ou]) ⟨hx, hb, hml, hown, hts⟩ (c_addSite l hl9 D cI cZ cJ lo s.heap.size g nw la pn dy aI aS aP aL aO aT aA aQ aS1 aS2 p0) (cwV 1 hts gL_addSite_X8_addSite rfl rfl rfl (by decide +kernel) ⟨(Nat.le_of_ble_eq_true rfl), (Nat.le_of_ble_eq_true rfl)⟩) ⟨Pre.blind, va_recv hK hP (ci := 8) (q0 := 0) rfl rfl, Pre.mk hPc (hDc.weaken (fun _ _ _ h => hAlo _ h)) hC hS hAlo⟩ rfl rfl hl.1 rfl (lv_room (Nat.le_of_ble_eq_true rfl)) dL_addSite_4 ⟨(Nat.le_of_ble_eq_true rfl), (Nat.le_of_ble_eq_true rfl)⟩) hS (fun q _ h => hFc q h) hFc (fun q _ h => hFc q h) (fun E ce q9 u t H1 locs1 ht hvm hpx hbx hz1 hk1 hS1 hce hcv hcl => ?_) (fun r_1 u t H1 locs1 ht hvm e_2 hB hz1 hk1 hS1 => ?_)
  · have px_3 : ¬ (1 ≤ p0 ∧ p0 ≤ 9999) := hpx
    have hE : E = "java/lang/IllegalArgumentException" := hbx
    subst hE
    have hS := hS1
    refine W_widenX (k := 2) (n := 12) (by omega) (by omega) ?_
    refine vx_catch (own := RL) (name := "java/lang/IllegalArgumentException") hown [] { startPc := 0, endPc := 9, handlerPc := 12, catchType := 13 } [{ startPc := 0, endPc := 9, handlerPc := 15, catchType := 15 }] (by rw [htab]; rfl) (fun z hz => nomatch hz) (by decide) (by decide) (hts (.classLink RL 13 "java/lang/IllegalArgumentException") (by decide +kernel)) (va_Nw.use rfl hC.cIAE) hce hcv hcl ?_
    obtain ⟨hP, hD⟩ := va_rest (wr := [(ou, .inl (cJ, 1, .inr (.inl (fun _ => 0))))]) hP hD [0, 1, 2, 3, 4] [5] rfl rfl (by decide) (by decide) hk1 hFc
    clear ht hvm hz1 hk1 hS1
    generalize H1 = H at hP hS hce ⊢
    replace hP : va_P D vwCl [(ou, .inl (cJ, 1, .inr (.inl (fun _ => 0))))] H := hP
    replace hD : va_D A [(ou, .inl (cJ, 1, .inr (.inl (fun _ => 0))))] := hD
    refine lv_astore_n (lv' := [(3, .ref q9), (0, .ref g), (1, .int p0), (2, .ref ou)]) hx hb dL_addSite_12 rfl hl (by decide) rfl (fun ls hl => ?_)
    refine lv_iconst (v := 1) hx hb dL_addSite_13 (by decide) ?_
    refine W.widen (k := 2) (n := 12) (by omega) (by omega) ?_
    have hP9 := hP.sub (ws' := [(ou, .inl (cJ, 1, .inr (.inl (fun _ => 0))))]) [0] rfl
    have hD9 := hD.sub (ws' := [(ou, .inl (cJ, 1, .inr (.inl (fun _ => 0))))]) [0] (by decide) rfl
    exact W.iret (v := 1) hx hb hr (fun t ht hW => ⟨⟨1, (), rfl, Or.inr ⟨rfl, px_3⟩, (fun _ => 0), by rw [ht]; exact hP9, hD9, rfl⟩, hS.F ht⟩) hS.2.2 dL_addSite_14
  · skip
    have hS := hS1
    refine W.widen (k := 2) (n := 12) (by omega) (by omega) ?_
    obtain ⟨hP, hD⟩ := va_rest (wr := [(ou, .inl (cJ, 1, .inr (.inl (fun _ => 0))))]) hP hD [0, 1, 2, 3, 4] [5] rfl rfl (by decide) (by decide) hk1 hFc
    have e_2 : r_1 = 0 ∧ (1 ≤ p0 ∧ p0 ≤ 9999) := e_2
    obtain ⟨h_4, g_5⟩ := e_2
    have h_4 := Eq.symm h_4
    subst h_4
    clear ht hvm hz1 hk1 hS1 hB
    generalize H1 = H at hP hS ⊢
    replace hP : va_P D vwCl [(ou, .inl (cJ, 1, .inr (.inl (fun _ => 0))))] H := hP
    replace hD : va_D A [(ou, .inl (cJ, 1, .inr (.inl (fun _ => 0))))] := hD
    refine lv_i2l (v := 0) hx hb dL_addSite_7 (by decide) ?_
    refine va_last hx hb hK hP hD hS 0 2 rfl rfl (by unfold vp_in; decide) dL_addSite_8 (fun H locs hP hD hS => ?_)
    replace hP : va_P D vwCl [(ou, .inl (cJ, 1, .inr (.inl (vp_updL (fun _ => 0) (Int32.toNatClampNeg 0) 0))))] H := hP
    replace hD : va_D A [(ou, .inl (cJ, 1, .inr (.inl (vp_updL (fun _ => 0) (Int32.toNatClampNeg 0) 0))))] := hD
    refine lv_goto (tgt := 18) hx hb dL_addSite_9 (by decide) ?_
    refine lv_iconst (v := 0) hx hb dL_addSite_18 (by decide) ?_
    refine W.widen (k := 2) (n := 12) (by omega) (by omega) ?_
    have hP9 := hP.sub (ws' := [(ou, .inl (cJ, 1, .inr (.inl (vp_updL (fun _ => 0) (Int32.toNatClampNeg 0) 0))))]) [0] rfl
    have hD9 := hD.sub (ws' := [(ou, .inl (cJ, 1, .inr (.inl (vp_updL (fun _ => 0) (Int32.toNatClampNeg 0) 0))))]) [0] (by decide) rfl
    exact W.iret (v := 0) hx hb hr (fun t ht hW => ⟨⟨0, (), rfl, Or.inl ⟨rfl, g_5⟩, (vp_updL (fun _ => 0) (Int32.toNatClampNeg 0) 0), by rw [ht]; exact hP9, hD9, rfl⟩, hS.F ht⟩) hS.2.2 dL_addSite_19

set_option maxHeartbeats 4000000 in
set_option maxRecDepth 100000 in
/-- the law's account on a fresh object -/
theorem h_account (l : Launch) (hl9 : l.stackTraces = false) (D : va_G) (cI cZ cJ : ClassId) (lo sz : Nat) (g : Nat) (nw : Nat) (la : Nat) (pn : Nat) (dy : Int32) (aI : Nat) (aS : Nat) (aP : Nat) (aL : Nat) (aO : Nat) (aT : Nat) (aA : Nat) (aQ : Nat) (p0 : Int32) (ou : Nat) : Met l yL_account wsL_account ({ frames := 9, cells := 1, slots := 6, locals := 145 }) (Pre lo D cI cZ cJ [.ref g, .int p0, .ref ou] sz [(g, .inr (8, [.ref nw, .ref la, .ref pn])), (nw, .inr (6, [.int dy, .ref aI, .ref aS, .ref aP, .ref aL, .ref aO, .ref aT, .ref aA, .ref aQ])), (aA, .inl (cI, 5, .inl (fun _ => 0))), (ou, .inl (cJ, 1, .inr (.inl (fun _ => 0))))]) (va_Qi (fun (r : Int32) (_ : Unit) => (r = 0 ∧ (0 ≤ p0 ∧ p0 ≤ 4)) ∨ (r = 1 ∧ ¬ (0 ≤ p0 ∧ p0 ≤ 4))) (fun _ t => ∃ (fo : Nat → Int64), va_P D vwCl [(ou, .inl (cJ, 1, .inr (.inl (fo))))] t.heap ∧ va_D (va_A [(g, .inr (8, [.ref nw, .ref la, .ref pn])), (nw, .inr (6, [.int dy, .ref aI, .ref aS, .ref aP, .ref aL, .ref aO, .ref aT, .ref aA, .ref aQ])), (aA, .inl (cI, 5, .inl (fun _ => 0))), (ou, .inl (cJ, 1, .inr (.inl (fun _ => 0))))] sz) [(ou, .inl (cJ, 1, .inr (.inl (fo))))] ∧ fo 0 = 0) (va_A [(g, .inr (8, [.ref nw, .ref la, .ref pn])), (nw, .inr (6, [.int dy, .ref aI, .ref aS, .ref aP, .ref aL, .ref aO, .ref aT, .ref aA, .ref aQ])), (aA, .inl (cI, 5, .inl (fun _ => 0))), (ou, .inl (cJ, 1, .inr (.inl (fun _ => 0))))] sz)) 1 6 (va_A [(g, .inr (8, [.ref nw, .ref la, .ref pn])), (nw, .inr (6, [.int dy, .ref aI, .ref aS, .ref aP, .ref aL, .ref aO, .ref aT, .ref aA, .ref aQ])), (aA, .inl (cI, 5, .inl (fun _ => 0))), (ou, .inl (cJ, 1, .inr (.inl (fun _ => 0))))] sz) := by
  refine va_MetW (cc := cL_account) (maxL := 4) (ret := (some .int)) (hh := [(0, 9, 12, 13)]) (by decide) rfl ?_
  intro p e s m args below meth c s₁ B hml hv
  obtain ⟨rfl, hsz, hP, hD0, hC⟩ := hv
  have hx := B.exec
  have hb := B.bytes
  have hr := B.returns
  have hts := atoms_spec (ws := wsL_account) B.pre
  have hown : s.vm.findClass RL = some m.cls := findClass_of_methodNamed B.named
  have hlocks := B.notSynchronized
  have htab := vx_table (x := yL_account) B (hts (.codeWith yL_account cL_account 4 (some .int) [(0, 9, 12, 13)]) List.mem_cons_self)
  subst hsz
  have hK := hC.K
  have hD := hD0.self (sz := s.heap.size)
  have hAlo0 := va_A_lo hD0 hC.1
  generalize hAe : va_A [(g, .inr (8, [.ref nw, .ref la, .ref pn])), (nw, .inr (6, [.int dy, .ref aI, .ref aS, .ref aP, .ref aL, .ref aO, .ref aT, .ref aA, .ref aQ])), (aA, .inl (cI, 5, .inl (fun _ => 0))), (ou, .inl (cJ, 1, .inr (.inl (fun _ => 0))))] s.heap.size = A at hD hAlo0 ⊢
  have hA : ∀ q : Nat, s.heap.size ≤ q → A q := fun q h => by rw [← hAe]; exact Or.inr h
  have hAlo : ∀ q, A q → lo ≤ q := hAlo0
  have hS : va_S A s.heap s.heap [] := va_S.rf
  have hP : va_P D vwCl [(g, .inr (8, [.ref nw, .ref la, .ref pn])), (nw, .inr (6, [.int dy, .ref aI, .ref aS, .ref aP, .ref aL, .ref aO, .ref aT, .ref aA, .ref aQ])), (aA, .inl (cI, 5, .inl (fun _ => 0))), (ou, .inl (cJ, 1, .inr (.inl (fun _ => 0))))] s.heap := hP
  have hl := lv_entry ([.ref g, .int p0, .ref ou]) (n := 4) (Nat.le_of_ble_eq_true rfl)
  rw [lg_entry_eq]
  generalize (lg_sl ([.ref g, .int p0, .ref ou]) ++ List.replicate (4 - (lg_sl ([.ref g, .int p0, .ref ou])).length) Slot.unset).toArray = ls at hl ⊢
  have hl : lv_has ls 4 [(0, .ref g), (1, .int p0), (2, .ref ou)] := hl
  refine lv_aload_n hx hb dL_account_0 rfl (lv_at hl 2 rfl) ?_
  refine lv_iconst (v := 0) hx hb dL_account_1 (by decide) ?_
  refine lv_aload_n hx hb dL_account_2 rfl (lv_at hl 0 rfl) ?_
  refine lv_iload_n hx hb dL_account_3 rfl (lv_at hl 1 rfl) ?_
  have hPc := hP.sub (ws' := [(g, .inr (8, [.ref nw, .ref la, .ref pn])), (nw, .inr (6, [.int dy, .ref aI, .ref aS, .ref aP, .ref aL, .ref aO, .ref aT, .ref aA, .ref aQ])), (aA, .inl (cI, 5, .inl (fun _ => 0)))]) [0, 1, 2] rfl
  have hDc := hD.sub (ws' := [(g, .inr (8, [.ref nw, .ref la, .ref pn])), (nw, .inr (6, [.int dy, .ref aI, .ref aS, .ref aP, .ref aL, .ref aO, .ref aT, .ref aA, .ref aQ])), (aA, .inl (cI, 5, .inl (fun _ => 0)))]) [0, 1, 2] (by decide) rfl
  have hFc := va_free (wc := [(g, .inr (8, [.ref nw, .ref la, .ref pn])), (nw, .inr (6, [.int dy, .ref aI, .ref aS, .ref aP, .ref aL, .ref aO, .ref aT, .ref aA, .ref aQ])), (aA, .inl (cI, 5, .inl (fun _ => 0)))]) hD hS hA [0, 1, 2] rfl
  refine vx_calli (vx_runV (As := [.int p0]) (rest := [.int 0, .ref ou]) ⟨hx, hb, hml, hown, hts⟩ (c_account l hl9 D cI cZ cJ lo s.heap.size g nw la pn dy aI aS aP aL aO aT aA aQ p0) (cwV 1 hts gL_account_X8_account rfl rfl rfl (by decide +kernel) ⟨(Nat.le_of_ble_eq_true rfl), (Nat.le_of_ble_eq_true rfl)⟩) ⟨Pre.blind, va_recv hK hP (ci := 8) (q0 := 0) rfl rfl, Pre.mk hPc (hDc.weaken (fun _ _ _ h => hAlo _ h)) hC hS hAlo⟩ rfl rfl hl.1 rfl (lv_room (Nat.le_of_ble_eq_true rfl)) dL_account_4 ⟨(Nat.le_of_ble_eq_true rfl), (Nat.le_of_ble_eq_true rfl)⟩) hS (fun q _ h => hFc q h) hFc (fun q _ h => hFc q h) (fun E ce q9 u t H1 locs1 ht hvm hpx hbx hz1 hk1 hS1 hce hcv hcl => ?_) (fun r_1 u t H1 locs1 ht hvm e_2 hB hz1 hk1 hS1 => ?_)
  · have px_3 : ¬ (0 ≤ p0 ∧ p0 ≤ 4) := hpx
    have hE : E = "java/lang/IllegalArgumentException" := hbx
    subst hE
    have hS := hS1
    refine W_widenX (k := 1) (n := 6) (by omega) (by omega) ?_
    refine vx_catch (own := RL) (name := "java/lang/IllegalArgumentException") hown [] { startPc := 0, endPc := 9, handlerPc := 12, catchType := 13 } [] (by rw [htab]; rfl) (fun z hz => nomatch hz) (by decide) (by decide) (hts (.classLink RL 13 "java/lang/IllegalArgumentException") (by decide +kernel)) (va_Nw.use rfl hC.cIAE) hce hcv hcl ?_
    obtain ⟨hP, hD⟩ := va_rest (wr := [(ou, .inl (cJ, 1, .inr (.inl (fun _ => 0))))]) hP hD [0, 1, 2] [3] rfl rfl (by decide) (by decide) hk1 hFc
    clear ht hvm hz1 hk1 hS1
    generalize H1 = H at hP hS hce ⊢
    replace hP : va_P D vwCl [(ou, .inl (cJ, 1, .inr (.inl (fun _ => 0))))] H := hP
    replace hD : va_D A [(ou, .inl (cJ, 1, .inr (.inl (fun _ => 0))))] := hD
    refine lv_astore_n (lv' := [(3, .ref q9), (0, .ref g), (1, .int p0), (2, .ref ou)]) hx hb dL_account_12 rfl hl (by decide) rfl (fun ls hl => ?_)
    refine lv_iconst (v := 1) hx hb dL_account_13 (by decide) ?_
    refine W.widen (k := 1) (n := 6) (by omega) (by omega) ?_
    have hP9 := hP.sub (ws' := [(ou, .inl (cJ, 1, .inr (.inl (fun _ => 0))))]) [0] rfl
    have hD9 := hD.sub (ws' := [(ou, .inl (cJ, 1, .inr (.inl (fun _ => 0))))]) [0] (by decide) rfl
    exact W.iret (v := 1) hx hb hr (fun t ht hW => ⟨⟨1, (), rfl, Or.inr ⟨rfl, px_3⟩, (fun _ => 0), by rw [ht]; exact hP9, hD9, rfl⟩, hS.F ht⟩) hS.2.2 dL_account_14
  · skip
    have hS := hS1
    refine W.widen (k := 1) (n := 6) (by omega) (by omega) ?_
    obtain ⟨hP, hD⟩ := va_rest (wr := [(ou, .inl (cJ, 1, .inr (.inl (fun _ => 0))))]) hP hD [0, 1, 2] [3] rfl rfl (by decide) (by decide) hk1 hFc
    have e_2 : r_1 = 0 ∧ (0 ≤ p0 ∧ p0 ≤ 4) := e_2
    obtain ⟨h_4, g_5⟩ := e_2
    have h_4 := Eq.symm h_4
    subst h_4
    clear ht hvm hz1 hk1 hS1 hB
    generalize H1 = H at hP hS ⊢
    replace hP : va_P D vwCl [(ou, .inl (cJ, 1, .inr (.inl (fun _ => 0))))] H := hP
    replace hD : va_D A [(ou, .inl (cJ, 1, .inr (.inl (fun _ => 0))))] := hD
    refine lv_i2l (v := 0) hx hb dL_account_7 (by decide) ?_
    refine va_last hx hb hK hP hD hS 0 2 rfl rfl (by unfold vp_in; decide) dL_account_8 (fun H locs hP hD hS => ?_)
    replace hP : va_P D vwCl [(ou, .inl (cJ, 1, .inr (.inl (vp_updL (fun _ => 0) (Int32.toNatClampNeg 0) 0))))] H := hP
    replace hD : va_D A [(ou, .inl (cJ, 1, .inr (.inl (vp_updL (fun _ => 0) (Int32.toNatClampNeg 0) 0))))] := hD
    refine lv_goto (tgt := 15) hx hb dL_account_9 (by decide) ?_
    refine lv_iconst (v := 0) hx hb dL_account_15 (by decide) ?_
    refine W.widen (k := 1) (n := 6) (by omega) (by omega) ?_
    have hP9 := hP.sub (ws' := [(ou, .inl (cJ, 1, .inr (.inl (vp_updL (fun _ => 0) (Int32.toNatClampNeg 0) 0))))]) [0] rfl
    have hD9 := hD.sub (ws' := [(ou, .inl (cJ, 1, .inr (.inl (vp_updL (fun _ => 0) (Int32.toNatClampNeg 0) 0))))]) [0] (by decide) rfl
    exact W.iret (v := 0) hx hb hr (fun t ht hW => ⟨⟨0, (), rfl, Or.inl ⟨rfl, g_5⟩, (vp_updL (fun _ => 0) (Int32.toNatClampNeg 0) 0), by rw [ht]; exact hP9, hD9, rfl⟩, hS.F ht⟩) hS.2.2 dL_account_16

set_option maxHeartbeats 4000000 in
set_option maxRecDepth 100000 in
/-- the law's pass on a fresh object -/
theorem h_pass (l : Launch) (hl9 : l.stackTraces = false) (D : va_G) (cI cZ cJ : ClassId) (lo sz : Nat) (g : Nat) (nw : Nat) (la : Nat) (pn : Nat) (aI : Nat) (aS : Nat) (aP : Nat) (aL : Nat) (aO : Nat) (aT : Nat) (aA : Nat) (aQ : Nat) (aI1 : Nat) (aI2 : Nat) (aI3 : Nat) (aI4 : Nat) (aS1 : Nat) (aS2 : Nat) (aL1 : Nat) (aL2 : Nat) (aL3 : Nat) (aL4 : Nat) (aL5 : Nat) (aO1 : Nat) (aO2 : Nat) (aO3 : Nat) (aO4 : Nat) (aO5 : Nat) (aO6 : Nat) (aO7 : Nat) (aO8 : Nat) (aO9 : Nat) (aO10 : Nat) (aT1 : Nat) (aT2 : Nat) (aT3 : Nat) (aT4 : Nat) (aT5 : Nat) (aT6 : Nat) (p0 : Int32) (ou : Nat) : Met l yL_pass wsL_pass ({ frames := 9, cells := 1, slots := 6, locals := 145 }) (Pre lo D cI cZ cJ [.ref g, .int p0, .ref ou] sz [(g, .inr (8, [.ref nw, .ref la, .ref pn])), (nw, .inr (6, [.int 0, .ref aI, .ref aS, .ref aP, .ref aL, .ref aO, .ref aT, .ref aA, .ref aQ])), (aI, .inr (0, [.int 0, .ref aI1, .ref aI2, .ref aI3, .ref aI4])), (aS, .inr (5, [.int 0, .ref aS1, .ref aS2])), (aL, .inr (1, [.int 0, .ref aL1, .ref aL2, .ref aL3, .ref aL4, .ref aL5])), (aO, .inr (2, [.int 0, .ref aO1, .ref aO2, .ref aO3, .ref aO4, .ref aO5, .ref aO6, .ref aO7, .ref aO8, .ref aO9, .ref aO10])), (aT, .inr (7, [.int 0, .ref aT1, .ref aT2, .ref aT3, .ref aT4, .ref aT5, .ref aT6])), (ou, .inl (cJ, 1, .inr (.inl (fun _ => 0))))]) (va_Qi (fun (r : Int32) (_ : Unit) => (r = 0 ∧ (1 ≤ p0 ∧ p0 ≤ 30)) ∨ (r = 1 ∧ ¬ (1 ≤ p0 ∧ p0 ≤ 30))) (fun _ t => ∃ (fo : Nat → Int64), va_P D vwCl [(ou, .inl (cJ, 1, .inr (.inl (fo))))] t.heap ∧ va_D (va_A [(g, .inr (8, [.ref nw, .ref la, .ref pn])), (nw, .inr (6, [.int 0, .ref aI, .ref aS, .ref aP, .ref aL, .ref aO, .ref aT, .ref aA, .ref aQ])), (aI, .inr (0, [.int 0, .ref aI1, .ref aI2, .ref aI3, .ref aI4])), (aS, .inr (5, [.int 0, .ref aS1, .ref aS2])), (aL, .inr (1, [.int 0, .ref aL1, .ref aL2, .ref aL3, .ref aL4, .ref aL5])), (aO, .inr (2, [.int 0, .ref aO1, .ref aO2, .ref aO3, .ref aO4, .ref aO5, .ref aO6, .ref aO7, .ref aO8, .ref aO9, .ref aO10])), (aT, .inr (7, [.int 0, .ref aT1, .ref aT2, .ref aT3, .ref aT4, .ref aT5, .ref aT6])), (ou, .inl (cJ, 1, .inr (.inl (fun _ => 0))))] sz) [(ou, .inl (cJ, 1, .inr (.inl (fo))))] ∧ ((1 ≤ p0 ∧ p0 ≤ 30) → fo 0 = p0.toInt64)) (va_A [(g, .inr (8, [.ref nw, .ref la, .ref pn])), (nw, .inr (6, [.int 0, .ref aI, .ref aS, .ref aP, .ref aL, .ref aO, .ref aT, .ref aA, .ref aQ])), (aI, .inr (0, [.int 0, .ref aI1, .ref aI2, .ref aI3, .ref aI4])), (aS, .inr (5, [.int 0, .ref aS1, .ref aS2])), (aL, .inr (1, [.int 0, .ref aL1, .ref aL2, .ref aL3, .ref aL4, .ref aL5])), (aO, .inr (2, [.int 0, .ref aO1, .ref aO2, .ref aO3, .ref aO4, .ref aO5, .ref aO6, .ref aO7, .ref aO8, .ref aO9, .ref aO10])), (aT, .inr (7, [.int 0, .ref aT1, .ref aT2, .ref aT3, .ref aT4, .ref aT5, .ref aT6])), (ou, .inl (cJ, 1, .inr (.inl (fun _ => 0))))] sz)) 1 6 (va_A [(g, .inr (8, [.ref nw, .ref la, .ref pn])), (nw, .inr (6, [.int 0, .ref aI, .ref aS, .ref aP, .ref aL, .ref aO, .ref aT, .ref aA, .ref aQ])), (aI, .inr (0, [.int 0, .ref aI1, .ref aI2, .ref aI3, .ref aI4])), (aS, .inr (5, [.int 0, .ref aS1, .ref aS2])), (aL, .inr (1, [.int 0, .ref aL1, .ref aL2, .ref aL3, .ref aL4, .ref aL5])), (aO, .inr (2, [.int 0, .ref aO1, .ref aO2, .ref aO3, .ref aO4, .ref aO5, .ref aO6, .ref aO7, .ref aO8, .ref aO9, .ref aO10])), (aT, .inr (7, [.int 0, .ref aT1, .ref aT2, .ref aT3, .ref aT4, .ref aT5, .ref aT6])), (ou, .inl (cJ, 1, .inr (.inl (fun _ => 0))))] sz) := by
  refine va_MetW (cc := cL_pass) (maxL := 4) (ret := (some .int)) (hh := [(0, 9, 12, 13)]) (by decide) rfl ?_
  intro p e s m args below meth c s₁ B hml hv
  obtain ⟨rfl, hsz, hP, hD0, hC⟩ := hv
  have hx := B.exec
  have hb := B.bytes
  have hr := B.returns
  have hts := atoms_spec (ws := wsL_pass) B.pre
  have hown : s.vm.findClass RL = some m.cls := findClass_of_methodNamed B.named
  have hlocks := B.notSynchronized
  have htab := vx_table (x := yL_pass) B (hts (.codeWith yL_pass cL_pass 4 (some .int) [(0, 9, 12, 13)]) List.mem_cons_self)
  subst hsz
  have hK := hC.K
  have hD := hD0.self (sz := s.heap.size)
  have hAlo0 := va_A_lo hD0 hC.1
  generalize hAe : va_A [(g, .inr (8, [.ref nw, .ref la, .ref pn])), (nw, .inr (6, [.int 0, .ref aI, .ref aS, .ref aP, .ref aL, .ref aO, .ref aT, .ref aA, .ref aQ])), (aI, .inr (0, [.int 0, .ref aI1, .ref aI2, .ref aI3, .ref aI4])), (aS, .inr (5, [.int 0, .ref aS1, .ref aS2])), (aL, .inr (1, [.int 0, .ref aL1, .ref aL2, .ref aL3, .ref aL4, .ref aL5])), (aO, .inr (2, [.int 0, .ref aO1, .ref aO2, .ref aO3, .ref aO4, .ref aO5, .ref aO6, .ref aO7, .ref aO8, .ref aO9, .ref aO10])), (aT, .inr (7, [.int 0, .ref aT1, .ref aT2, .ref aT3, .ref aT4, .ref aT5, .ref aT6])), (ou, .inl (cJ, 1, .inr (.inl (fun _ => 0))))] s.heap.size = A at hD hAlo0 ⊢
  have hA : ∀ q : Nat, s.heap.size ≤ q → A q := fun q h => by rw [← hAe]; exact Or.inr h
  have hAlo : ∀ q, A q → lo ≤ q := hAlo0
  have hS : va_S A s.heap s.heap [] := va_S.rf
  have hP : va_P D vwCl [(g, .inr (8, [.ref nw, .ref la, .ref pn])), (nw, .inr (6, [.int 0, .ref aI, .ref aS, .ref aP, .ref aL, .ref aO, .ref aT, .ref aA, .ref aQ])), (aI, .inr (0, [.int 0, .ref aI1, .ref aI2, .ref aI3, .ref aI4])), (aS, .inr (5, [.int 0, .ref aS1, .ref aS2])), (aL, .inr (1, [.int 0, .ref aL1, .ref aL2, .ref aL3, .ref aL4, .ref aL5])), (aO, .inr (2, [.int 0, .ref aO1, .ref aO2, .ref aO3, .ref aO4, .ref aO5, .ref aO6, .ref aO7, .ref aO8, .ref aO9, .ref aO10])), (aT, .inr (7, [.int 0, .ref aT1, .ref aT2, .ref aT3, .ref aT4, .ref aT5, .ref aT6])), (ou, .inl (cJ, 1, .inr (.inl (fun _ => 0))))] s.heap := hP
  have hl := lv_entry ([.ref g, .int p0, .ref ou]) (n := 4) (Nat.le_of_ble_eq_true rfl)
  rw [lg_entry_eq]
  generalize (lg_sl ([.ref g, .int p0, .ref ou]) ++ List.replicate (4 - (lg_sl ([.ref g, .int p0, .ref ou])).length) Slot.unset).toArray = ls at hl ⊢
  have hl : lv_has ls 4 [(0, .ref g), (1, .int p0), (2, .ref ou)] := hl
  refine lv_aload_n hx hb dL_pass_0 rfl (lv_at hl 2 rfl) ?_
  refine lv_iconst (v := 0) hx hb dL_pass_1 (by decide) ?_
  refine lv_aload_n hx hb dL_pass_2 rfl (lv_at hl 0 rfl) ?_
  refine lv_iload_n hx hb dL_pass_3 rfl (lv_at hl 1 rfl) ?_
  have hPc := hP.sub (ws' := [(g, .inr (8, [.ref nw, .ref la, .ref pn])), (nw, .inr (6, [.int 0, .ref aI, .ref aS, .ref aP, .ref aL, .ref aO, .ref aT, .ref aA, .ref aQ])), (aI, .inr (0, [.int 0, .ref aI1, .ref aI2, .ref aI3, .ref aI4])), (aS, .inr (5, [.int 0, .ref aS1, .ref aS2])), (aL, .inr (1, [.int 0, .ref aL1, .ref aL2, .ref aL3, .ref aL4, .ref aL5])), (aO, .inr (2, [.int 0, .ref aO1, .ref aO2, .ref aO3, .ref aO4, .ref aO5, .ref aO6, .ref aO7, .ref aO8, .ref aO9, .ref aO10])), (aT, .inr (7, [.int 0, .ref aT1, .ref aT2, .ref aT3, .ref aT4, .ref aT5, .ref aT6]))]) [0, 1, 2, 3, 4, 5, 6] rfl
  have hDc := hD.sub (ws' := [(g, .inr (8, [.ref nw, .ref la, .ref pn])), (nw, .inr (6, [.int 0, .ref aI, .ref aS, .ref aP, .ref aL, .ref aO, .ref aT, .ref aA, .ref aQ])), (aI, .inr (0, [.int 0, .ref aI1, .ref aI2, .ref aI3, .ref aI4])), (aS, .inr (5, [.int 0, .ref aS1, .ref aS2])), (aL, .inr (1, [.int 0, .ref aL1, .ref aL2, .ref aL3, .ref aL4, .ref aL5])), (aO, .inr (2, [.int 0, .ref aO1, .ref aO2, .ref aO3, .ref aO4, .ref aO5, .ref aO6, .ref aO7, .ref aO8, .ref aO9, .ref aO10])), (aT, .inr (7, [.int 0, .ref aT1, .ref aT2, .ref aT3, .ref aT4, .ref aT5, .ref aT6]))]) [0, 1, 2, 3, 4, 5, 6] (by decide) rfl
  have hFc := va_free (wc := [(g, .inr (8, [.ref nw, .ref la, .ref pn])), (nw, .inr (6, [.int 0, .ref aI, .ref aS, .ref aP, .ref aL, .ref aO, .ref aT, .ref aA, .ref aQ])), (aI, .inr (0, [.int 0, .ref aI1, .ref aI2, .ref aI3, .ref aI4])), (aS, .inr (5, [.int 0, .ref aS1, .ref aS2])), (aL, .inr (1, [.int 0, .ref aL1, .ref aL2, .ref aL3, .ref aL4, .ref aL5])), (aO, .inr (2, [.int 0, .ref aO1, .ref aO2, .ref aO3, .ref aO4, .ref aO5, .ref aO6, .ref aO7, .ref aO8, .ref aO9, .ref aO10])), (aT, .inr (7, [.int 0, .ref aT1, .ref aT2, .ref aT3, .ref aT4, .ref aT5, .ref aT6]))]) hD hS hA [0, 1, 2, 3, 4, 5, 6] rfl
  refine vx_calli (vx_runV (As := [.int p0]) (rest := [.int 0, .ref ou]) ⟨hx, hb, hml, hown, hts⟩ (c_pass l hl9 D cI cZ cJ lo s.heap.size g nw la pn aI aS aP aL aO aT aA aQ aI1 aI2 aI3 aI4 aS1 aS2 aL1 aL2 aL3 aL4 aL5 aO1 aO2 aO3 aO4 aO5 aO6 aO7 aO8 aO9 aO10 aT1 aT2 aT3 aT4 aT5 aT6 p0) (cwV 1 hts gL_pass_X8_pass rfl rfl rfl (by decide +kernel) ⟨(Nat.le_of_ble_eq_true rfl), (Nat.le_of_ble_eq_true rfl)⟩) ⟨Pre.blind, va_recv hK hP (ci := 8) (q0 := 0) rfl rfl, Pre.mk hPc (hDc.weaken (fun _ _ _ h => hAlo _ h)) hC hS hAlo⟩ rfl rfl hl.1 rfl (lv_room (Nat.le_of_ble_eq_true rfl)) dL_pass_4 ⟨(Nat.le_of_ble_eq_true rfl), (Nat.le_of_ble_eq_true rfl)⟩) hS (fun q _ h => hFc q h) hFc (fun q _ h => hFc q h) (fun E ce q9 u t H1 locs1 ht hvm hpx hbx hz1 hk1 hS1 hce hcv hcl => ?_) (fun r_1 u t H1 locs1 ht hvm e_2 hB hz1 hk1 hS1 => ?_)
  · have px_3 : ¬ (1 ≤ p0 ∧ p0 ≤ 30) := hpx
    have hE : E = "java/lang/IllegalArgumentException" := hbx
    subst hE
    have hS := hS1
    refine W_widenX (k := 1) (n := 6) (by omega) (by omega) ?_
    refine vx_catch (own := RL) (name := "java/lang/IllegalArgumentException") hown [] { startPc := 0, endPc := 9, handlerPc := 12, catchType := 13 } [] (by rw [htab]; rfl) (fun z hz => nomatch hz) (by decide) (by decide) (hts (.classLink RL 13 "java/lang/IllegalArgumentException") (by decide +kernel)) (va_Nw.use rfl hC.cIAE) hce hcv hcl ?_
    obtain ⟨hP, hD⟩ := va_rest (wr := [(ou, .inl (cJ, 1, .inr (.inl (fun _ => 0))))]) hP hD [0, 1, 2, 3, 4, 5, 6] [7] rfl rfl (by decide) (by decide) hk1 hFc
    clear ht hvm hz1 hk1 hS1
    generalize H1 = H at hP hS hce ⊢
    replace hP : va_P D vwCl [(ou, .inl (cJ, 1, .inr (.inl (fun _ => 0))))] H := hP
    replace hD : va_D A [(ou, .inl (cJ, 1, .inr (.inl (fun _ => 0))))] := hD
    refine lv_astore_n (lv' := [(3, .ref q9), (0, .ref g), (1, .int p0), (2, .ref ou)]) hx hb dL_pass_12 rfl hl (by decide) rfl (fun ls hl => ?_)
    refine lv_iconst (v := 1) hx hb dL_pass_13 (by decide) ?_
    refine W.widen (k := 1) (n := 6) (by omega) (by omega) ?_
    have hP9 := hP.sub (ws' := [(ou, .inl (cJ, 1, .inr (.inl (fun _ => 0))))]) [0] rfl
    have hD9 := hD.sub (ws' := [(ou, .inl (cJ, 1, .inr (.inl (fun _ => 0))))]) [0] (by decide) rfl
    exact W.iret (v := 1) hx hb hr (fun t ht hW => ⟨⟨1, (), rfl, Or.inr ⟨rfl, px_3⟩, (fun _ => 0), by rw [ht]; exact hP9, hD9, (fun h9 => absurd h9 px_3)⟩, hS.F ht⟩) hS.2.2 dL_pass_14
  · skip
    have hS := hS1
    refine W.widen (k := 1) (n := 6) (by omega) (by omega) ?_
    obtain ⟨hP, hD⟩ := va_rest (wr := [(ou, .inl (cJ, 1, .inr (.inl (fun _ => 0))))]) hP hD [0, 1, 2, 3, 4, 5, 6] [7] rfl rfl (by decide) (by decide) hk1 hFc
    have e_2 : r_1 = p0 ∧ (1 ≤ p0 ∧ p0 ≤ 30) := e_2
    obtain ⟨h_4, g_5⟩ := e_2
    have h_4 := Eq.symm h_4
    subst h_4
    clear ht hvm hz1 hk1 hS1 hB
    generalize H1 = H at hP hS ⊢
    replace hP : va_P D vwCl [(ou, .inl (cJ, 1, .inr (.inl (fun _ => 0))))] H := hP
    replace hD : va_D A [(ou, .inl (cJ, 1, .inr (.inl (fun _ => 0))))] := hD
    refine lv_i2l (v := p0.toInt64) hx hb dL_pass_7 rfl ?_
    refine va_last hx hb hK hP hD hS 0 2 rfl rfl (by unfold vp_in; decide) dL_pass_8 (fun H locs hP hD hS => ?_)
    replace hP : va_P D vwCl [(ou, .inl (cJ, 1, .inr (.inl (vp_updL (fun _ => 0) (Int32.toNatClampNeg 0) p0.toInt64))))] H := hP
    replace hD : va_D A [(ou, .inl (cJ, 1, .inr (.inl (vp_updL (fun _ => 0) (Int32.toNatClampNeg 0) p0.toInt64))))] := hD
    refine lv_goto (tgt := 15) hx hb dL_pass_9 (by decide) ?_
    refine lv_iconst (v := 0) hx hb dL_pass_15 (by decide) ?_
    refine W.widen (k := 1) (n := 6) (by omega) (by omega) ?_
    have hP9 := hP.sub (ws' := [(ou, .inl (cJ, 1, .inr (.inl (vp_updL (fun _ => 0) (Int32.toNatClampNeg 0) p0.toInt64))))]) [0] rfl
    have hD9 := hD.sub (ws' := [(ou, .inl (cJ, 1, .inr (.inl (vp_updL (fun _ => 0) (Int32.toNatClampNeg 0) p0.toInt64))))]) [0] (by decide) rfl
    exact W.iret (v := 0) hx hb hr (fun t ht hW => ⟨⟨0, (), rfl, Or.inl ⟨rfl, g_5⟩, (vp_updL (fun _ => 0) (Int32.toNatClampNeg 0) p0.toInt64), by rw [ht]; exact hP9, hD9, (fun _ => rfl)⟩, hS.F ht⟩) hS.2.2 dL_pass_16

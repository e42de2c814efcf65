set_option maxHeartbeats 4000000 in
set_option maxRecDepth 100000 in
/-- the law at a call of addItem -/
theorem law_addItem {p : Program} {l : Launch} {e : Env} {s : State} {m : MethodId} {below : List Frame} {meth : Method} {c : Code} {Q : State → Prop} (hl9 : l.stackTraces = false) (D : va_G) (cI cZ cJ : ClassId) (b : Nat) (xs : Nat → Int32) (C0 : LC s p m c D cI cZ cJ b xs) (g : Nat) (nw : Nat) (la : Nat) (pn : Nat) (aI : Nat) (aS : Nat) (aP : Nat) (aL : Nat) (aO : Nat) (aT : Nat) (aA : Nat) (aQ : Nat) (aI1 : Nat) (aI2 : Nat) (aI3 : Nat) (aI4 : Nat) (ou : Nat) (mm : Nat) (w : Nat) (b2 : Nat) (b3 : Nat) (b4 : Nat) (b5 : Nat) (b7 : Nat) (b8 : Nat) (b9 : Nat) (b10 : Nat) (b11 : Nat) (b12 : Nat) (b14 : Nat) (b15 : Nat) (b16 : Nat) (b17 : Nat) (b19 : Nat) (b20 : Nat) (b21 : Nat) (b22 : Nat) (b23 : Nat) (b24 : Nat) (b25 : Nat) (b26 : Nat) (b27 : Nat) (b29 : Nat) (b30 : Nat) (b31 : Nat) (b32 : Nat) (b33 : Nat) (b34 : Nat) (b35 : Nat) (T : LT p l e s m below meth c b Q) {H : Heap} {locs : List Loc} {ls : Array Slot} (hP : va_P D vwCl [(g, .inr (8, [.ref nw, .ref la, .ref pn])), (nw, .inr (6, [.int 0, .ref aI, .ref aS, .ref aP, .ref aL, .ref aO, .ref aT, .ref aA, .ref aQ])), (aI, .inr (0, [.int 0, .ref aI1, .ref aI2, .ref aI3, .ref aI4])), (aI1, .inl (cI, 6, .inl (fun _ => 0))), (aI2, .inl (cI, 6, .inl (fun _ => 0))), (aI3, .inl (cI, 6, .inl (fun _ => 0))), (aI4, .inl (cI, 6, .inl (fun _ => 0))), (ou, .inl (cJ, 1, .inr (.inl (fun _ => 0)))), (mm, .inr (10, [.ref w, .int 0])), (w, .inr (9, [.int 0, .int 0, .ref b2, .ref b3, .ref b4, .ref b5, .int 0, .ref b7, .ref b8, .ref b9, .ref b10, .ref b11, .ref b12, .int 0, .ref b14, .ref b15, .ref b16, .ref b17, .int 0, .ref b19, .ref b20, .ref b21, .ref b22, .ref b23, .ref b24, .ref b25, .ref b26, .ref b27, .int 0, .ref b29, .ref b30, .ref b31, .ref b32, .ref b33, .ref b34, .ref b35])), (b2, .inl (cI, 6, .inl (fun _ => 0))), (b3, .inl (cI, 6, .inl (fun _ => 0))), (b4, .inl (cI, 6, .inl (fun _ => 0)))] H) (hD : va_D (LA s) [(g, .inr (8, [.ref nw, .ref la, .ref pn])), (nw, .inr (6, [.int 0, .ref aI, .ref aS, .ref aP, .ref aL, .ref aO, .ref aT, .ref aA, .ref aQ])), (aI, .inr (0, [.int 0, .ref aI1, .ref aI2, .ref aI3, .ref aI4])), (aI1, .inl (cI, 6, .inl (fun _ => 0))), (aI2, .inl (cI, 6, .inl (fun _ => 0))), (aI3, .inl (cI, 6, .inl (fun _ => 0))), (aI4, .inl (cI, 6, .inl (fun _ => 0))), (ou, .inl (cJ, 1, .inr (.inl (fun _ => 0)))), (mm, .inr (10, [.ref w, .int 0])), (w, .inr (9, [.int 0, .int 0, .ref b2, .ref b3, .ref b4, .ref b5, .int 0, .ref b7, .ref b8, .ref b9, .ref b10, .ref b11, .ref b12, .int 0, .ref b14, .ref b15, .ref b16, .ref b17, .int 0, .ref b19, .ref b20, .ref b21, .ref b22, .ref b23, .ref b24, .ref b25, .ref b26, .ref b27, .int 0, .ref b29, .ref b30, .ref b31, .ref b32, .ref b33, .ref b34, .ref b35])), (b2, .inl (cI, 6, .inl (fun _ => 0))), (b3, .inl (cI, 6, .inl (fun _ => 0))), (b4, .inl (cI, 6, .inl (fun _ => 0)))]) (hS : va_S (LA s) s.heap H locs) (hl : lv_has ls 9 [(0, .ref b), (1, .ref g), (2, .ref mm), (3, .ref ou), (4, .int 0)]) : W p l e room_1 s m #[Value.ref b] below meth c H locs 123 42908 Q (F0 m 228 ls []) := by
  obtain ⟨hx, hb, hml, hown, hts, hX, hbl, hC⟩ := C0
  have hK := hC.K
  have hA : ∀ q : Nat, s.heap.size ≤ q → LA s q := fun _ h => h
  have hAlo : ∀ q, LA s q → s.heap.size ≤ q := fun _ h => h
  have hbA : ¬ LA s b := Nat.not_le.mpr hbl
  refine lv_aload_n hx hb dL_law_228 rfl (lv_at hl 1 rfl) ?_
  refine lv_aload_n hx hb dL_law_229 rfl (lv_at hl 0 rfl) ?_
  refine lv_iload hx hb dL_law_230 (lv_at hl 4 rfl) ?_
  refine lv_iconst (v := 1) hx hb dL_law_232 (by decide) ?_
  refine lv_iadd hx hb dL_law_233 ?_
  refine lv_toi (y := 1) (by decide) ?_
  refine va_sld hx hb hX hbl hbA hS (by unfold vp_in; decide) dL_law_234 ?_
  refine lv_toi (y := xs 1) (congrArg xs (by decide)) ?_
  refine lv_aload_n hx hb dL_law_235 rfl (lv_at hl 0 rfl) ?_
  refine lv_iload hx hb dL_law_236 (lv_at hl 4 rfl) ?_
  refine lv_iconst (v := 2) hx hb dL_law_238 (by decide) ?_
  refine lv_iadd hx hb dL_law_239 ?_
  refine lv_toi (y := 2) (by decide) ?_
  refine va_sld hx hb hX hbl hbA hS (by unfold vp_in; decide) dL_law_240 ?_
  refine lv_toi (y := xs 2) (congrArg xs (by decide)) ?_
  refine lv_aload_n hx hb dL_law_241 rfl (lv_at hl 0 rfl) ?_
  refine lv_iload hx hb dL_law_242 (lv_at hl 4 rfl) ?_
  refine lv_iconst (v := 3) hx hb dL_law_244 (by decide) ?_
  refine lv_iadd hx hb dL_law_245 ?_
  refine lv_toi (y := 3) (by decide) ?_
  refine va_sld hx hb hX hbl hbA hS (by unfold vp_in; decide) dL_law_246 ?_
  refine lv_toi (y := xs 3) (congrArg xs (by decide)) ?_
  refine lv_aload_n hx hb dL_law_247 rfl (lv_at hl 3 rfl) ?_
  have hPc := hP.sub (ws' := [(g, .inr (8, [.ref nw, .ref la, .ref pn])), (nw, .inr (6, [.int 0, .ref aI, .ref aS, .ref aP, .ref aL, .ref aO, .ref aT, .ref aA, .ref aQ])), (aI, .inr (0, [.int 0, .ref aI1, .ref aI2, .ref aI3, .ref aI4])), (aI1, .inl (cI, 6, .inl (fun _ => 0))), (aI2, .inl (cI, 6, .inl (fun _ => 0))), (aI3, .inl (cI, 6, .inl (fun _ => 0))), (aI4, .inl (cI, 6, .inl (fun _ => 0))), (ou, .inl (cJ, 1, .inr (.inl (fun _ => 0))))]) [0, 1, 2, 3, 4, 5, 6, 7] rfl
  have hDc := hD.sub (ws' := [(g, .inr (8, [.ref nw, .ref la, .ref pn])), (nw, .inr (6, [.int 0, .ref aI, .ref aS, .ref aP, .ref aL, .ref aO, .ref aT, .ref aA, .ref aQ])), (aI, .inr (0, [.int 0, .ref aI1, .ref aI2, .ref aI3, .ref aI4])), (aI1, .inl (cI, 6, .inl (fun _ => 0))), (aI2, .inl (cI, 6, .inl (fun _ => 0))), (aI3, .inl (cI, 6, .inl (fun _ => 0))), (aI4, .inl (cI, 6, .inl (fun _ => 0))), (ou, .inl (cJ, 1, .inr (.inl (fun _ => 0))))]) [0, 1, 2, 3, 4, 5, 6, 7] (by decide) rfl
  have hFc := va_free (wc := [(g, .inr (8, [.ref nw, .ref la, .ref pn])), (nw, .inr (6, [.int 0, .ref aI, .ref aS, .ref aP, .ref aL, .ref aO, .ref aT, .ref aA, .ref aQ])), (aI, .inr (0, [.int 0, .ref aI1, .ref aI2, .ref aI3, .ref aI4])), (aI1, .inl (cI, 6, .inl (fun _ => 0))), (aI2, .inl (cI, 6, .inl (fun _ => 0))), (aI3, .inl (cI, 6, .inl (fun _ => 0))), (aI4, .inl (cI, 6, .inl (fun _ => 0))), (ou, .inl (cJ, 1, .inr (.inl (fun _ => 0))))]) hD hS hA [0, 1, 2, 3, 4, 5, 6, 7] rfl
  refine va_calli (vx_runSW (As := [.ref g, .int (xs 1), .int (xs 2), .int (xs 3), .ref ou]) (rest := []) ⟨hx, hb, hml, hown, hts⟩ (h_addItem l hl9 D cI cZ cJ s.heap.size H.size g nw la pn 0 aI aS aP aL aO aT aA aQ aI1 aI2 aI3 aI4 (xs 1) (xs 2) (xs 3) ou) (vx_cwSW 5 hts gL_law_L_addItem rfl rfl rfl (by decide +kernel) ⟨(Nat.le_of_ble_eq_true rfl), (Nat.le_of_ble_eq_true rfl)⟩) ⟨Pre.blind, Pre.mk hPc (hDc.weaken (fun _ _ _ h => hAlo _ h)) hC hS hAlo⟩ rfl rfl hl.1 rfl (lv_room (Nat.le_of_ble_eq_true rfl)) dL_law_248 ⟨(Nat.le_of_ble_eq_true rfl), (Nat.le_of_ble_eq_true rfl)⟩) hS (fun q _ h => hFc q h) hFc (fun r_1 u t H1 locs1 ht hvm e_2 hB hz1 hk1 hS1 => ?_)
  have hS := hS1
  refine W.widen (k := 127) (n := 42932) (by omega) (by omega) ?_
  obtain ⟨fo_3, hP1, hD1, b_4⟩ := hB
  rw [ht] at hP1
  obtain ⟨hP, hD⟩ := va_join (wr := [(mm, .inr (10, [.ref w, .int 0])), (w, .inr (9, [.int 0, .int 0, .ref b2, .ref b3, .ref b4, .ref b5, .int 0, .ref b7, .ref b8, .ref b9, .ref b10, .ref b11, .ref b12, .int 0, .ref b14, .ref b15, .ref b16, .ref b17, .int 0, .ref b19, .ref b20, .ref b21, .ref b22, .ref b23, .ref b24, .ref b25, .ref b26, .ref b27, .int 0, .ref b29, .ref b30, .ref b31, .ref b32, .ref b33, .ref b34, .ref b35])), (b2, .inl (cI, 6, .inl (fun _ => 0))), (b3, .inl (cI, 6, .inl (fun _ => 0))), (b4, .inl (cI, 6, .inl (fun _ => 0)))]) (w1 := [(ou, .inl (cJ, 1, .inr (.inl (fo_3))))]) hP hD [0, 1, 2, 3, 4, 5, 6, 7] [8, 9, 10, 11, 12] rfl rfl (by decide) (by decide) hk1 hFc hP1 hD1
  have e_2 : (r_1 = 0 ∧ ((1 ≤ (xs 1) ∧ (xs 1) ≤ 99) ∧ (1 ≤ (xs 2) ∧ (xs 2) ≤ 99) ∧ (1 ≤ (xs 3) ∧ (xs 3) ≤ 20))) ∨ (r_1 = 1 ∧ ¬ ((1 ≤ (xs 1) ∧ (xs 1) ≤ 99) ∧ (1 ≤ (xs 2) ∧ (xs 2) ≤ 99) ∧ (1 ≤ (xs 3) ∧ (xs 3) ≤ 20))) := e_2
  clear hFc hPc hDc ht hvm hz1 hk1 hS1 hP1 hD1
  generalize H1 = H at hP hS ⊢
  replace hP : va_P D vwCl [(mm, .inr (10, [.ref w, .int 0])), (w, .inr (9, [.int 0, .int 0, .ref b2, .ref b3, .ref b4, .ref b5, .int 0, .ref b7, .ref b8, .ref b9, .ref b10, .ref b11, .ref b12, .int 0, .ref b14, .ref b15, .ref b16, .ref b17, .int 0, .ref b19, .ref b20, .ref b21, .ref b22, .ref b23, .ref b24, .ref b25, .ref b26, .ref b27, .int 0, .ref b29, .ref b30, .ref b31, .ref b32, .ref b33, .ref b34, .ref b35])), (b2, .inl (cI, 6, .inl (fun _ => 0))), (b3, .inl (cI, 6, .inl (fun _ => 0))), (b4, .inl (cI, 6, .inl (fun _ => 0))), (ou, .inl (cJ, 1, .inr (.inl (fo_3))))] H := hP
  replace hD : va_D (LA s) [(mm, .inr (10, [.ref w, .int 0])), (w, .inr (9, [.int 0, .int 0, .ref b2, .ref b3, .ref b4, .ref b5, .int 0, .ref b7, .ref b8, .ref b9, .ref b10, .ref b11, .ref b12, .int 0, .ref b14, .ref b15, .ref b16, .ref b17, .int 0, .ref b19, .ref b20, .ref b21, .ref b22, .ref b23, .ref b24, .ref b25, .ref b26, .ref b27, .int 0, .ref b29, .ref b30, .ref b31, .ref b32, .ref b33, .ref b34, .ref b35])), (b2, .inl (cI, 6, .inl (fun _ => 0))), (b3, .inl (cI, 6, .inl (fun _ => 0))), (b4, .inl (cI, 6, .inl (fun _ => 0))), (ou, .inl (cJ, 1, .inr (.inl (fo_3))))] := hD
  rcases e_2 with ⟨hr9, h_5⟩ | ⟨hr9, h_6⟩
  · have hr9 := Eq.symm hr9
    subst hr9
    refine lv_istore (lv' := [(5, .int 0), (0, .ref b), (1, .ref g), (2, .ref mm), (3, .ref ou), (4, .int 0)]) hx hb dL_law_251 hl (by decide) rfl (fun ls hl => ?_)
    refine lv_aload_n hx hb dL_law_253 rfl (lv_at hl 3 rfl) ?_
    refine lv_aload_n hx hb dL_law_254 rfl (lv_at hl 1 rfl) ?_
    refine lv_iload hx hb dL_law_255 (lv_at hl 5 rfl) ?_
    refine lv_iconst (v := 1) hx hb dL_law_257 (by decide) ?_
    refine lv_iadd hx hb dL_law_258 ?_
    refine lv_toi (y := 1) (by decide) ?_
    refine va_sld hx hb hX hbl hbA hS (by unfold vp_in; decide) dL_law_259 ?_
    refine lv_toi (y := xs 1) (congrArg xs (by decide)) ?_
    refine lv_aload_n hx hb dL_law_260 rfl (lv_at hl 1 rfl) ?_
    refine lv_iload hx hb dL_law_261 (lv_at hl 5 rfl) ?_
    refine lv_iconst (v := 2) hx hb dL_law_263 (by decide) ?_
    refine lv_iadd hx hb dL_law_264 ?_
    refine lv_toi (y := 2) (by decide) ?_
    refine va_sld hx hb hX hbl hbA hS (by unfold vp_in; decide) dL_law_265 ?_
    refine lv_toi (y := xs 2) (congrArg xs (by decide)) ?_
    refine lv_aload_n hx hb dL_law_266 rfl (lv_at hl 1 rfl) ?_
    refine lv_iload hx hb dL_law_267 (lv_at hl 5 rfl) ?_
    refine lv_iconst (v := 3) hx hb dL_law_269 (by decide) ?_
    refine lv_iadd hx hb dL_law_270 ?_
    refine lv_toi (y := 3) (by decide) ?_
    refine va_sld hx hb hX hbl hbA hS (by unfold vp_in; decide) dL_law_271 ?_
    refine lv_toi (y := xs 3) (congrArg xs (by decide)) ?_
    have hPc := hP.sub (ws' := [(mm, .inr (10, [.ref w, .int 0])), (w, .inr (9, [.int 0, .int 0, .ref b2, .ref b3, .ref b4, .ref b5, .int 0, .ref b7, .ref b8, .ref b9, .ref b10, .ref b11, .ref b12, .int 0, .ref b14, .ref b15, .ref b16, .ref b17, .int 0, .ref b19, .ref b20, .ref b21, .ref b22, .ref b23, .ref b24, .ref b25, .ref b26, .ref b27, .int 0, .ref b29, .ref b30, .ref b31, .ref b32, .ref b33, .ref b34, .ref b35])), (b2, .inl (cI, 6, .inl (fun _ => 0))), (b3, .inl (cI, 6, .inl (fun _ => 0))), (b4, .inl (cI, 6, .inl (fun _ => 0)))]) [0, 1, 2, 3, 4] rfl
    have hDc := hD.sub (ws' := [(mm, .inr (10, [.ref w, .int 0])), (w, .inr (9, [.int 0, .int 0, .ref b2, .ref b3, .ref b4, .ref b5, .int 0, .ref b7, .ref b8, .ref b9, .ref b10, .ref b11, .ref b12, .int 0, .ref b14, .ref b15, .ref b16, .ref b17, .int 0, .ref b19, .ref b20, .ref b21, .ref b22, .ref b23, .ref b24, .ref b25, .ref b26, .ref b27, .int 0, .ref b29, .ref b30, .ref b31, .ref b32, .ref b33, .ref b34, .ref b35])), (b2, .inl (cI, 6, .inl (fun _ => 0))), (b3, .inl (cI, 6, .inl (fun _ => 0))), (b4, .inl (cI, 6, .inl (fun _ => 0)))]) [0, 1, 2, 3, 4] (by decide) rfl
    have hFc := va_free (wc := [(mm, .inr (10, [.ref w, .int 0])), (w, .inr (9, [.int 0, .int 0, .ref b2, .ref b3, .ref b4, .ref b5, .int 0, .ref b7, .ref b8, .ref b9, .ref b10, .ref b11, .ref b12, .int 0, .ref b14, .ref b15, .ref b16, .ref b17, .int 0, .ref b19, .ref b20, .ref b21, .ref b22, .ref b23, .ref b24, .ref b25, .ref b26, .ref b27, .int 0, .ref b29, .ref b30, .ref b31, .ref b32, .ref b33, .ref b34, .ref b35])), (b2, .inl (cI, 6, .inl (fun _ => 0))), (b3, .inl (cI, 6, .inl (fun _ => 0))), (b4, .inl (cI, 6, .inl (fun _ => 0)))]) hD hS hA [0, 1, 2, 3, 4] rfl
    refine va_calli (va_runV (As := [.int (xs 1), .int (xs 2), .int (xs 3)]) (rest := []) ⟨hx, hb, hml, hown, hts⟩ (m_addItem l D cI cZ cJ s.heap.size H.size mm 0 w 0 b2 b3 b4 b5 b7 b8 b9 b10 b11 b12 b14 b15 b16 b17 b19 b20 b21 b22 b23 b24 b25 b26 b27 b29 b30 b31 b32 b33 b34 b35 (xs 1) (xs 2) (xs 3)) (cwV 3 hts gL_law_X10_addItem rfl rfl rfl (by decide +kernel) ⟨(Nat.le_of_ble_eq_true rfl), (Nat.le_of_ble_eq_true rfl)⟩) ⟨Pre.blind, va_recv hK hP (ci := 10) (q0 := 0) rfl rfl, Pre.mk hPc (hDc.weaken (fun _ _ _ h => hAlo _ h)) hC hS hAlo⟩ rfl rfl hl.1 rfl (lv_room (Nat.le_of_ble_eq_true rfl)) dL_law_272 ⟨(Nat.le_of_ble_eq_true rfl), (Nat.le_of_ble_eq_true rfl)⟩) hS (fun q _ h => hFc q h) hFc (fun r_7 u t H1 locs1 ht hvm e_8 hB hz1 hk1 hS1 => ?_)
    have hS := hS1
    refine W.widen (k := 127) (n := 42932) (by omega) (by omega) ?_
    obtain ⟨tz_9, hP1, hD1, b_10⟩ := hB
    rw [ht] at hP1
    obtain ⟨hP, hD⟩ := va_join (wr := [(ou, .inl (cJ, 1, .inr (.inl (fo_3))))]) (w1 := [(mm, .inr (10, [.ref w, .int tz_9]))]) hP hD [0, 1, 2, 3, 4] [5] rfl rfl (by decide) (by decide) hk1 hFc hP1 hD1
    have e_8 : 0 = r_7 := Eq.symm e_8
    subst e_8
    clear hFc hPc hDc ht hvm hz1 hk1 hS1 hP1 hD1
    generalize H1 = H at hP hS ⊢
    replace hP : va_P D vwCl [(ou, .inl (cJ, 1, .inr (.inl (fo_3)))), (mm, .inr (10, [.ref w, .int tz_9]))] H := hP
    replace hD : va_D (LA s) [(ou, .inl (cJ, 1, .inr (.inl (fo_3)))), (mm, .inr (10, [.ref w, .int tz_9]))] := hD
    have ht9 := Eq.symm (b_10.1 h_5)
    subst ht9
    refine lv_istore (lv' := [(6, .int 0), (5, .int 0), (0, .ref b), (1, .ref g), (2, .ref mm), (3, .ref ou), (4, .int 0)]) hx hb dL_law_275 hl (by decide) rfl (fun ls hl => ?_)
    refine lv_aload_n hx hb dL_law_277 rfl (lv_at hl 4 rfl) ?_
    have hPc := hP.sub (ws' := [(mm, .inr (10, [.ref w, .int 0]))]) [1] rfl
    have hDc := hD.sub (ws' := [(mm, .inr (10, [.ref w, .int 0]))]) [1] (by decide) rfl
    refine vp_callSi (W.runV (As := []) (rest := []) ⟨hx, hb, hml, hown, hts⟩ (c_thrown l D cI cZ cJ s.heap.size H.size mm 0 w) (cwV 0 hts gL_law_X10_thrown rfl rfl rfl (by decide +kernel) ⟨(Nat.le_of_ble_eq_true rfl), (Nat.le_of_ble_eq_true rfl)⟩) ⟨Pre.blind, va_recv hK hP (ci := 10) (q0 := 1) rfl rfl, Pre.mk hPc (hDc.weaken (fun _ _ _ h => hAlo _ h)) hC hS hAlo⟩ rfl rfl hl.1 rfl (lv_room (Nat.le_of_ble_eq_true rfl)) dL_law_278 ⟨(Nat.le_of_ble_eq_true rfl), (Nat.le_of_ble_eq_true rfl)⟩) (fun r_11 e_12 => ?_)
    clear hPc hDc
    have e_12 : 0 = r_11 := Eq.symm e_12
    subst e_12
    refine lv_iload hx hb dL_law_281 (lv_at hl 1 rfl) ?_
    refine lv_icmp_eq (tgt := 288) hx hb dL_law_283 (by decide) (fun _ => ?_) (fun c9 => absurd (show (0 : Int32) = (0 : Int32) from (by decide)) c9)
    refine lv_iload hx hb dL_law_288 (lv_at hl 1 rfl) ?_
    refine lv_if_ne (tgt := 305) hx hb dL_law_290 (by decide) (fun c9 => absurd (show (0 : Int32) = (0 : Int32) from (by decide)) c9) (fun _ => ?_)
    refine lv_aload_n hx hb dL_law_293 rfl (lv_at hl 5 rfl) ?_
    refine lv_iconst (v := 0) hx hb dL_law_294 (by decide) ?_
    refine va_lald hx hb hK hP 0 2 rfl rfl (by unfold vp_in; decide) dL_law_295 ?_
    refine lv_tol (y := 0) (b_4) ?_
    refine lv_iload hx hb dL_law_296 (lv_at hl 0 rfl) ?_
    refine lv_i2l (v := 0) hx hb dL_law_298 (by decide) ?_
    refine W.lcmp hx hb dL_law_299 ?_
    refine lv_toi (y := 0) (lg_cmp_self _) ?_
    refine lv_if_eq (tgt := 305) hx hb dL_law_300 (by decide) (fun _ => ?_) (fun c9 => absurd (show (0 : Int32) = (0 : Int32) from (by decide)) c9)
    refine lv_goto (tgt := 2855) hx hb dL_law_305 (by decide) ?_
    refine W.widen (k := 1000) (n := 200000) (Nat.le_of_ble_eq_true rfl) (Nat.le_of_ble_eq_true rfl) ?_
    exact T H _ ls hS (lv_sub hl [2, 6] rfl)
  · have hr9 := Eq.symm hr9
    subst hr9
    refine lv_istore (lv' := [(5, .int 1), (0, .ref b), (1, .ref g), (2, .ref mm), (3, .ref ou), (4, .int 0)]) hx hb dL_law_251 hl (by decide) rfl (fun ls hl => ?_)
    refine lv_aload_n hx hb dL_law_253 rfl (lv_at hl 3 rfl) ?_
    refine lv_aload_n hx hb dL_law_254 rfl (lv_at hl 1 rfl) ?_
    refine lv_iload hx hb dL_law_255 (lv_at hl 5 rfl) ?_
    refine lv_iconst (v := 1) hx hb dL_law_257 (by decide) ?_
    refine lv_iadd hx hb dL_law_258 ?_
    refine lv_toi (y := 1) (by decide) ?_
    refine va_sld hx hb hX hbl hbA hS (by unfold vp_in; decide) dL_law_259 ?_
    refine lv_toi (y := xs 1) (congrArg xs (by decide)) ?_
    refine lv_aload_n hx hb dL_law_260 rfl (lv_at hl 1 rfl) ?_
    refine lv_iload hx hb dL_law_261 (lv_at hl 5 rfl) ?_
    refine lv_iconst (v := 2) hx hb dL_law_263 (by decide) ?_
    refine lv_iadd hx hb dL_law_264 ?_
    refine lv_toi (y := 2) (by decide) ?_
    refine va_sld hx hb hX hbl hbA hS (by unfold vp_in; decide) dL_law_265 ?_
    refine lv_toi (y := xs 2) (congrArg xs (by decide)) ?_
    refine lv_aload_n hx hb dL_law_266 rfl (lv_at hl 1 rfl) ?_
    refine lv_iload hx hb dL_law_267 (lv_at hl 5 rfl) ?_
    refine lv_iconst (v := 3) hx hb dL_law_269 (by decide) ?_
    refine lv_iadd hx hb dL_law_270 ?_
    refine lv_toi (y := 3) (by decide) ?_
    refine va_sld hx hb hX hbl hbA hS (by unfold vp_in; decide) dL_law_271 ?_
    refine lv_toi (y := xs 3) (congrArg xs (by decide)) ?_
    have hPc := hP.sub (ws' := [(mm, .inr (10, [.ref w, .int 0])), (w, .inr (9, [.int 0, .int 0, .ref b2, .ref b3, .ref b4, .ref b5, .int 0, .ref b7, .ref b8, .ref b9, .ref b10, .ref b11, .ref b12, .int 0, .ref b14, .ref b15, .ref b16, .ref b17, .int 0, .ref b19, .ref b20, .ref b21, .ref b22, .ref b23, .ref b24, .ref b25, .ref b26, .ref b27, .int 0, .ref b29, .ref b30, .ref b31, .ref b32, .ref b33, .ref b34, .ref b35])), (b2, .inl (cI, 6, .inl (fun _ => 0))), (b3, .inl (cI, 6, .inl (fun _ => 0))), (b4, .inl (cI, 6, .inl (fun _ => 0)))]) [0, 1, 2, 3, 4] rfl
    have hDc := hD.sub (ws' := [(mm, .inr (10, [.ref w, .int 0])), (w, .inr (9, [.int 0, .int 0, .ref b2, .ref b3, .ref b4, .ref b5, .int 0, .ref b7, .ref b8, .ref b9, .ref b10, .ref b11, .ref b12, .int 0, .ref b14, .ref b15, .ref b16, .ref b17, .int 0, .ref b19, .ref b20, .ref b21, .ref b22, .ref b23, .ref b24, .ref b25, .ref b26, .ref b27, .int 0, .ref b29, .ref b30, .ref b31, .ref b32, .ref b33, .ref b34, .ref b35])), (b2, .inl (cI, 6, .inl (fun _ => 0))), (b3, .inl (cI, 6, .inl (fun _ => 0))), (b4, .inl (cI, 6, .inl (fun _ => 0)))]) [0, 1, 2, 3, 4] (by decide) rfl
    have hFc := va_free (wc := [(mm, .inr (10, [.ref w, .int 0])), (w, .inr (9, [.int 0, .int 0, .ref b2, .ref b3, .ref b4, .ref b5, .int 0, .ref b7, .ref b8, .ref b9, .ref b10, .ref b11, .ref b12, .int 0, .ref b14, .ref b15, .ref b16, .ref b17, .int 0, .ref b19, .ref b20, .ref b21, .ref b22, .ref b23, .ref b24, .ref b25, .ref b26, .ref b27, .int 0, .ref b29, .ref b30, .ref b31, .ref b32, .ref b33, .ref b34, .ref b35])), (b2, .inl (cI, 6, .inl (fun _ => 0))), (b3, .inl (cI, 6, .inl (fun _ => 0))), (b4, .inl (cI, 6, .inl (fun _ => 0)))]) hD hS hA [0, 1, 2, 3, 4] rfl
    refine va_calli (va_runV (As := [.int (xs 1), .int (xs 2), .int (xs 3)]) (rest := []) ⟨hx, hb, hml, hown, hts⟩ (m_addItem l D cI cZ cJ s.heap.size H.size mm 0 w 0 b2 b3 b4 b5 b7 b8 b9 b10 b11 b12 b14 b15 b16 b17 b19 b20 b21 b22 b23 b24 b25 b26 b27 b29 b30 b31 b32 b33 b34 b35 (xs 1) (xs 2) (xs 3)) (cwV 3 hts gL_law_X10_addItem rfl rfl rfl (by decide +kernel) ⟨(Nat.le_of_ble_eq_true rfl), (Nat.le_of_ble_eq_true rfl)⟩) ⟨Pre.blind, va_recv hK hP (ci := 10) (q0 := 0) rfl rfl, Pre.mk hPc (hDc.weaken (fun _ _ _ h => hAlo _ h)) hC hS hAlo⟩ rfl rfl hl.1 rfl (lv_room (Nat.le_of_ble_eq_true rfl)) dL_law_272 ⟨(Nat.le_of_ble_eq_true rfl), (Nat.le_of_ble_eq_true rfl)⟩) hS (fun q _ h => hFc q h) hFc (fun r_13 u t H1 locs1 ht hvm e_14 hB hz1 hk1 hS1 => ?_)
    have hS := hS1
    refine W.widen (k := 127) (n := 42932) (by omega) (by omega) ?_
    obtain ⟨tz_15, hP1, hD1, b_16⟩ := hB
    rw [ht] at hP1
    obtain ⟨hP, hD⟩ := va_join (wr := [(ou, .inl (cJ, 1, .inr (.inl (fo_3))))]) (w1 := [(mm, .inr (10, [.ref w, .int tz_15]))]) hP hD [0, 1, 2, 3, 4] [5] rfl rfl (by decide) (by decide) hk1 hFc hP1 hD1
    have e_14 : 0 = r_13 := Eq.symm e_14
    subst e_14
    clear hFc hPc hDc ht hvm hz1 hk1 hS1 hP1 hD1
    generalize H1 = H at hP hS ⊢
    replace hP : va_P D vwCl [(ou, .inl (cJ, 1, .inr (.inl (fo_3)))), (mm, .inr (10, [.ref w, .int tz_15]))] H := hP
    replace hD : va_D (LA s) [(ou, .inl (cJ, 1, .inr (.inl (fo_3)))), (mm, .inr (10, [.ref w, .int tz_15]))] := hD
    have ht9 := Eq.symm (b_16.2 h_6)
    subst ht9
    refine lv_istore (lv' := [(6, .int 0), (5, .int 1), (0, .ref b), (1, .ref g), (2, .ref mm), (3, .ref ou), (4, .int 0)]) hx hb dL_law_275 hl (by decide) rfl (fun ls hl => ?_)
    refine lv_aload_n hx hb dL_law_277 rfl (lv_at hl 4 rfl) ?_
    have hPc := hP.sub (ws' := [(mm, .inr (10, [.ref w, .int 1]))]) [1] rfl
    have hDc := hD.sub (ws' := [(mm, .inr (10, [.ref w, .int 1]))]) [1] (by decide) rfl
    refine vp_callSi (W.runV (As := []) (rest := []) ⟨hx, hb, hml, hown, hts⟩ (c_thrown l D cI cZ cJ s.heap.size H.size mm 1 w) (cwV 0 hts gL_law_X10_thrown rfl rfl rfl (by decide +kernel) ⟨(Nat.le_of_ble_eq_true rfl), (Nat.le_of_ble_eq_true rfl)⟩) ⟨Pre.blind, va_recv hK hP (ci := 10) (q0 := 1) rfl rfl, Pre.mk hPc (hDc.weaken (fun _ _ _ h => hAlo _ h)) hC hS hAlo⟩ rfl rfl hl.1 rfl (lv_room (Nat.le_of_ble_eq_true rfl)) dL_law_278 ⟨(Nat.le_of_ble_eq_true rfl), (Nat.le_of_ble_eq_true rfl)⟩) (fun r_17 e_18 => ?_)
    clear hPc hDc
    have e_18 : 1 = r_17 := Eq.symm e_18
    subst e_18
    refine lv_iload hx hb dL_law_281 (lv_at hl 1 rfl) ?_
    refine lv_icmp_eq (tgt := 288) hx hb dL_law_283 (by decide) (fun _ => ?_) (fun c9 => absurd (show (1 : Int32) = (1 : Int32) from (by decide)) c9)
    refine lv_iload hx hb dL_law_288 (lv_at hl 1 rfl) ?_
    refine lv_if_ne (tgt := 305) hx hb dL_law_290 (by decide) (fun _ => ?_) (fun c9 => absurd c9 (show ¬ (1 : Int32) = (0 : Int32) from (by decide)))
    refine lv_goto (tgt := 2855) hx hb dL_law_305 (by decide) ?_
    refine W.widen (k := 1000) (n := 200000) (Nat.le_of_ble_eq_true rfl) (Nat.le_of_ble_eq_true rfl) ?_
    exact T H _ ls hS (lv_sub hl [2, 6] rfl)

set_option maxHeartbeats 4000000 in
set_option maxRecDepth 100000 in
/-- the law at a call of addSite -/
theorem law_addSite {p : Program} {l : Launch} {e : Env} {s : State} {m : MethodId} {below : List Frame} {meth : Method} {c : Code} {Q : State → Prop} (hl9 : l.stackTraces = false) (D : va_G) (cI cZ cJ : ClassId) (b : Nat) (xs : Nat → Int32) (C0 : LC s p m c D cI cZ cJ b xs) (g : Nat) (nw : Nat) (la : Nat) (pn : Nat) (aI : Nat) (aS : Nat) (aP : Nat) (aL : Nat) (aO : Nat) (aT : Nat) (aA : Nat) (aQ : Nat) (aS1 : Nat) (aS2 : Nat) (ou : Nat) (mm : Nat) (w : Nat) (b2 : Nat) (b3 : Nat) (b4 : Nat) (b5 : Nat) (b7 : Nat) (b8 : Nat) (b9 : Nat) (b10 : Nat) (b11 : Nat) (b12 : Nat) (b14 : Nat) (b15 : Nat) (b16 : Nat) (b17 : Nat) (b19 : Nat) (b20 : Nat) (b21 : Nat) (b22 : Nat) (b23 : Nat) (b24 : Nat) (b25 : Nat) (b26 : Nat) (b27 : Nat) (b29 : Nat) (b30 : Nat) (b31 : Nat) (b32 : Nat) (b33 : Nat) (b34 : Nat) (b35 : Nat) (T : LT p l e s m below meth c b Q) {H : Heap} {locs : List Loc} {ls : Array Slot} (hP : va_P D vwCl [(g, .inr (8, [.ref nw, .ref la, .ref pn])), (nw, .inr (6, [.int 0, .ref aI, .ref aS, .ref aP, .ref aL, .ref aO, .ref aT, .ref aA, .ref aQ])), (aS, .inr (5, [.int 0, .ref aS1, .ref aS2])), (aS1, .inl (cI, 5, .inl (fun _ => 0))), (aS2, .inl (cI, 25, .inl (fun _ => 0))), (ou, .inl (cJ, 1, .inr (.inl (fun _ => 0)))), (mm, .inr (10, [.ref w, .int 0])), (w, .inr (9, [.int 0, .int 0, .ref b2, .ref b3, .ref b4, .ref b5, .int 0, .ref b7, .ref b8, .ref b9, .ref b10, .ref b11, .ref b12, .int 0, .ref b14, .ref b15, .ref b16, .ref b17, .int 0, .ref b19, .ref b20, .ref b21, .ref b22, .ref b23, .ref b24, .ref b25, .ref b26, .ref b27, .int 0, .ref b29, .ref b30, .ref b31, .ref b32, .ref b33, .ref b34, .ref b35])), (b7, .inl (cI, 5, .inl (fun _ => 0)))] H) (hD : va_D (LA s) [(g, .inr (8, [.ref nw, .ref la, .ref pn])), (nw, .inr (6, [.int 0, .ref aI, .ref aS, .ref aP, .ref aL, .ref aO, .ref aT, .ref aA, .ref aQ])), (aS, .inr (5, [.int 0, .ref aS1, .ref aS2])), (aS1, .inl (cI, 5, .inl (fun _ => 0))), (aS2, .inl (cI, 25, .inl (fun _ => 0))), (ou, .inl (cJ, 1, .inr (.inl (fun _ => 0)))), (mm, .inr (10, [.ref w, .int 0])), (w, .inr (9, [.int 0, .int 0, .ref b2, .ref b3, .ref b4, .ref b5, .int 0, .ref b7, .ref b8, .ref b9, .ref b10, .ref b11, .ref b12, .int 0, .ref b14, .ref b15, .ref b16, .ref b17, .int 0, .ref b19, .ref b20, .ref b21, .ref b22, .ref b23, .ref b24, .ref b25, .ref b26, .ref b27, .int 0, .ref b29, .ref b30, .ref b31, .ref b32, .ref b33, .ref b34, .ref b35])), (b7, .inl (cI, 5, .inl (fun _ => 0)))]) (hS : va_S (LA s) s.heap H locs) (hl : lv_has ls 9 [(0, .ref b), (1, .ref g), (2, .ref mm), (3, .ref ou), (4, .int 0)]) : W p l e room_1 s m #[Value.ref b] below meth c H locs 123 42908 Q (F0 m 308 ls []) := by
  obtain ⟨hx, hb, hml, hown, hts, hX, hbl, hC⟩ := C0
  have hK := hC.K
  have hA : ∀ q : Nat, s.heap.size ≤ q → LA s q := fun _ h => h
  have hAlo : ∀ q, LA s q → s.heap.size ≤ q := fun _ h => h
  have hbA : ¬ LA s b := Nat.not_le.mpr hbl
  refine lv_aload_n hx hb dL_law_308 rfl (lv_at hl 1 rfl) ?_
  refine lv_aload_n hx hb dL_law_309 rfl (lv_at hl 0 rfl) ?_
  refine lv_iload hx hb dL_law_310 (lv_at hl 4 rfl) ?_
  refine lv_iconst (v := 1) hx hb dL_law_312 (by decide) ?_
  refine lv_iadd hx hb dL_law_313 ?_
  refine lv_toi (y := 1) (by decide) ?_
  refine va_sld hx hb hX hbl hbA hS (by unfold vp_in; decide) dL_law_314 ?_
  refine lv_toi (y := xs 1) (congrArg xs (by decide)) ?_
  refine lv_aload_n hx hb dL_law_315 rfl (lv_at hl 3 rfl) ?_
  have hPc := hP.sub (ws' := [(g, .inr (8, [.ref nw, .ref la, .ref pn])), (nw, .inr (6, [.int 0, .ref aI, .ref aS, .ref aP, .ref aL, .ref aO, .ref aT, .ref aA, .ref aQ])), (aS, .inr (5, [.int 0, .ref aS1, .ref aS2])), (aS1, .inl (cI, 5, .inl (fun _ => 0))), (aS2, .inl (cI, 25, .inl (fun _ => 0))), (ou, .inl (cJ, 1, .inr (.inl (fun _ => 0))))]) [0, 1, 2, 3, 4, 5] rfl
  have hDc := hD.sub (ws' := [(g, .inr (8, [.ref nw, .ref la, .ref pn])), (nw, .inr (6, [.int 0, .ref aI, .ref aS, .ref aP, .ref aL, .ref aO, .ref aT, .ref aA, .ref aQ])), (aS, .inr (5, [.int 0, .ref aS1, .ref aS2])), (aS1, .inl (cI, 5, .inl (fun _ => 0))), (aS2, .inl (cI, 25, .inl (fun _ => 0))), (ou, .inl (cJ, 1, .inr (.inl (fun _ => 0))))]) [0, 1, 2, 3, 4, 5] (by decide) rfl
  have hFc := va_free (wc := [(g, .inr (8, [.ref nw, .ref la, .ref pn])), (nw, .inr (6, [.int 0, .ref aI, .ref aS, .ref aP, .ref aL, .ref aO, .ref aT, .ref aA, .ref aQ])), (aS, .inr (5, [.int 0, .ref aS1, .ref aS2])), (aS1, .inl (cI, 5, .inl (fun _ => 0))), (aS2, .inl (cI, 25, .inl (fun _ => 0))), (ou, .inl (cJ, 1, .inr (.inl (fun _ => 0))))]) hD hS hA [0, 1, 2, 3, 4, 5] rfl
  refine va_calli (vx_runSW (As := [.ref g, .int (xs 1), .ref ou]) (rest := []) ⟨hx, hb, hml, hown, hts⟩ (h_addSite l hl9 D cI cZ cJ s.heap.size H.size g nw la pn 0 aI aS aP aL aO aT aA aQ aS1 aS2 (xs 1) ou) (vx_cwSW 3 hts gL_law_L_addSite rfl rfl rfl (by decide +kernel) ⟨(Nat.le_of_ble_eq_true rfl), (Nat.le_of_ble_eq_true rfl)⟩) ⟨Pre.blind, Pre.mk hPc (hDc.weaken (fun _ _ _ h => hAlo _ h)) hC hS hAlo⟩ rfl rfl hl.1 rfl (lv_room (Nat.le_of_ble_eq_true rfl)) dL_law_316 ⟨(Nat.le_of_ble_eq_true rfl), (Nat.le_of_ble_eq_true rfl)⟩) hS (fun q _ h => hFc q h) hFc (fun r_1 u t H1 locs1 ht hvm e_2 hB hz1 hk1 hS1 => ?_)
  have hS := hS1
  refine W.widen (k := 125) (n := 42920) (by omega) (by omega) ?_
  obtain ⟨fo_3, hP1, hD1, b_4⟩ := hB
  rw [ht] at hP1
  obtain ⟨hP, hD⟩ := va_join (wr := [(mm, .inr (10, [.ref w, .int 0])), (w, .inr (9, [.int 0, .int 0, .ref b2, .ref b3, .ref b4, .ref b5, .int 0, .ref b7, .ref b8, .ref b9, .ref b10, .ref b11, .ref b12, .int 0, .ref b14, .ref b15, .ref b16, .ref b17, .int 0, .ref b19, .ref b20, .ref b21, .ref b22, .ref b23, .ref b24, .ref b25, .ref b26, .ref b27, .int 0, .ref b29, .ref b30, .ref b31, .ref b32, .ref b33, .ref b34, .ref b35])), (b7, .inl (cI, 5, .inl (fun _ => 0)))]) (w1 := [(ou, .inl (cJ, 1, .inr (.inl (fo_3))))]) hP hD [0, 1, 2, 3, 4, 5] [6, 7, 8] rfl rfl (by decide) (by decide) hk1 hFc hP1 hD1
  have e_2 : (r_1 = 0 ∧ (1 ≤ (xs 1) ∧ (xs 1) ≤ 9999)) ∨ (r_1 = 1 ∧ ¬ (1 ≤ (xs 1) ∧ (xs 1) ≤ 9999)) := e_2
  clear hFc hPc hDc ht hvm hz1 hk1 hS1 hP1 hD1
  generalize H1 = H at hP hS ⊢
  replace hP : va_P D vwCl [(mm, .inr (10, [.ref w, .int 0])), (w, .inr (9, [.int 0, .int 0, .ref b2, .ref b3, .ref b4, .ref b5, .int 0, .ref b7, .ref b8, .ref b9, .ref b10, .ref b11, .ref b12, .int 0, .ref b14, .ref b15, .ref b16, .ref b17, .int 0, .ref b19, .ref b20, .ref b21, .ref b22, .ref b23, .ref b24, .ref b25, .ref b26, .ref b27, .int 0, .ref b29, .ref b30, .ref b31, .ref b32, .ref b33, .ref b34, .ref b35])), (b7, .inl (cI, 5, .inl (fun _ => 0))), (ou, .inl (cJ, 1, .inr (.inl (fo_3))))] H := hP
  replace hD : va_D (LA s) [(mm, .inr (10, [.ref w, .int 0])), (w, .inr (9, [.int 0, .int 0, .ref b2, .ref b3, .ref b4, .ref b5, .int 0, .ref b7, .ref b8, .ref b9, .ref b10, .ref b11, .ref b12, .int 0, .ref b14, .ref b15, .ref b16, .ref b17, .int 0, .ref b19, .ref b20, .ref b21, .ref b22, .ref b23, .ref b24, .ref b25, .ref b26, .ref b27, .int 0, .ref b29, .ref b30, .ref b31, .ref b32, .ref b33, .ref b34, .ref b35])), (b7, .inl (cI, 5, .inl (fun _ => 0))), (ou, .inl (cJ, 1, .inr (.inl (fo_3))))] := hD
  rcases e_2 with ⟨hr9, h_5⟩ | ⟨hr9, h_6⟩
  · have hr9 := Eq.symm hr9
    subst hr9
    refine lv_istore (lv' := [(5, .int 0), (0, .ref b), (1, .ref g), (2, .ref mm), (3, .ref ou), (4, .int 0)]) hx hb dL_law_319 hl (by decide) rfl (fun ls hl => ?_)
    refine lv_aload_n hx hb dL_law_321 rfl (lv_at hl 3 rfl) ?_
    refine lv_aload_n hx hb dL_law_322 rfl (lv_at hl 1 rfl) ?_
    refine lv_iload hx hb dL_law_323 (lv_at hl 5 rfl) ?_
    refine lv_iconst (v := 1) hx hb dL_law_325 (by decide) ?_
    refine lv_iadd hx hb dL_law_326 ?_
    refine lv_toi (y := 1) (by decide) ?_
    refine va_sld hx hb hX hbl hbA hS (by unfold vp_in; decide) dL_law_327 ?_
    refine lv_toi (y := xs 1) (congrArg xs (by decide)) ?_
    have hPc := hP.sub (ws' := [(mm, .inr (10, [.ref w, .int 0])), (w, .inr (9, [.int 0, .int 0, .ref b2, .ref b3, .ref b4, .ref b5, .int 0, .ref b7, .ref b8, .ref b9, .ref b10, .ref b11, .ref b12, .int 0, .ref b14, .ref b15, .ref b16, .ref b17, .int 0, .ref b19, .ref b20, .ref b21, .ref b22, .ref b23, .ref b24, .ref b25, .ref b26, .ref b27, .int 0, .ref b29, .ref b30, .ref b31, .ref b32, .ref b33, .ref b34, .ref b35])), (b7, .inl (cI, 5, .inl (fun _ => 0)))]) [0, 1, 2] rfl
    have hDc := hD.sub (ws' := [(mm, .inr (10, [.ref w, .int 0])), (w, .inr (9, [.int 0, .int 0, .ref b2, .ref b3, .ref b4, .ref b5, .int 0, .ref b7, .ref b8, .ref b9, .ref b10, .ref b11, .ref b12, .int 0, .ref b14, .ref b15, .ref b16, .ref b17, .int 0, .ref b19, .ref b20, .ref b21, .ref b22, .ref b23, .ref b24, .ref b25, .ref b26, .ref b27, .int 0, .ref b29, .ref b30, .ref b31, .ref b32, .ref b33, .ref b34, .ref b35])), (b7, .inl (cI, 5, .inl (fun _ => 0)))]) [0, 1, 2] (by decide) rfl
    have hFc := va_free (wc := [(mm, .inr (10, [.ref w, .int 0])), (w, .inr (9, [.int 0, .int 0, .ref b2, .ref b3, .ref b4, .ref b5, .int 0, .ref b7, .ref b8, .ref b9, .ref b10, .ref b11, .ref b12, .int 0, .ref b14, .ref b15, .ref b16, .ref b17, .int 0, .ref b19, .ref b20, .ref b21, .ref b22, .ref b23, .ref b24, .ref b25, .ref b26, .ref b27, .int 0, .ref b29, .ref b30, .ref b31, .ref b32, .ref b33, .ref b34, .ref b35])), (b7, .inl (cI, 5, .inl (fun _ => 0)))]) hD hS hA [0, 1, 2] rfl
    refine va_calli (va_runV (As := [.int (xs 1)]) (rest := []) ⟨hx, hb, hml, hown, hts⟩ (m_addSite l D cI cZ cJ s.heap.size H.size mm 0 w 0 b2 b3 b4 b5 b7 b8 b9 b10 b11 b12 b14 b15 b16 b17 b19 b20 b21 b22 b23 b24 b25 b26 b27 b29 b30 b31 b32 b33 b34 b35 (xs 1)) (cwV 1 hts gL_law_X10_addSite rfl rfl rfl (by decide +kernel) ⟨(Nat.le_of_ble_eq_true rfl), (Nat.le_of_ble_eq_true rfl)⟩) ⟨Pre.blind, va_recv hK hP (ci := 10) (q0 := 0) rfl rfl, Pre.mk hPc (hDc.weaken (fun _ _ _ h => hAlo _ h)) hC hS hAlo⟩ rfl rfl hl.1 rfl (lv_room (Nat.le_of_ble_eq_true rfl)) dL_law_328 ⟨(Nat.le_of_ble_eq_true rfl), (Nat.le_of_ble_eq_true rfl)⟩) hS (fun q _ h => hFc q h) hFc (fun r_7 u t H1 locs1 ht hvm e_8 hB hz1 hk1 hS1 => ?_)
    have hS := hS1
    refine W.widen (k := 125) (n := 42920) (by omega) (by omega) ?_
    obtain ⟨tz_9, hP1, hD1, b_10⟩ := hB
    rw [ht] at hP1
    obtain ⟨hP, hD⟩ := va_join (wr := [(ou, .inl (cJ, 1, .inr (.inl (fo_3))))]) (w1 := [(mm, .inr (10, [.ref w, .int tz_9]))]) hP hD [0, 1, 2] [3] rfl rfl (by decide) (by decide) hk1 hFc hP1 hD1
    have e_8 : 0 = r_7 := Eq.symm e_8
    subst e_8
    clear hFc hPc hDc ht hvm hz1 hk1 hS1 hP1 hD1
    generalize H1 = H at hP hS ⊢
    replace hP : va_P D vwCl [(ou, .inl (cJ, 1, .inr (.inl (fo_3)))), (mm, .inr (10, [.ref w, .int tz_9]))] H := hP
    replace hD : va_D (LA s) [(ou, .inl (cJ, 1, .inr (.inl (fo_3)))), (mm, .inr (10, [.ref w, .int tz_9]))] := hD
    have ht9 := Eq.symm (b_10.1 h_5)
    subst ht9
    refine lv_istore (lv' := [(6, .int 0), (5, .int 0), (0, .ref b), (1, .ref g), (2, .ref mm), (3, .ref ou), (4, .int 0)]) hx hb dL_law_331 hl (by decide) rfl (fun ls hl => ?_)
    refine lv_aload_n hx hb dL_law_333 rfl (lv_at hl 4 rfl) ?_
    have hPc := hP.sub (ws' := [(mm, .inr (10, [.ref w, .int 0]))]) [1] rfl
    have hDc := hD.sub (ws' := [(mm, .inr (10, [.ref w, .int 0]))]) [1] (by decide) rfl
    refine vp_callSi (W.runV (As := []) (rest := []) ⟨hx, hb, hml, hown, hts⟩ (c_thrown l D cI cZ cJ s.heap.size H.size mm 0 w) (cwV 0 hts gL_law_X10_thrown rfl rfl rfl (by decide +kernel) ⟨(Nat.le_of_ble_eq_true rfl), (Nat.le_of_ble_eq_true rfl)⟩) ⟨Pre.blind, va_recv hK hP (ci := 10) (q0 := 1) rfl rfl, Pre.mk hPc (hDc.weaken (fun _ _ _ h => hAlo _ h)) hC hS hAlo⟩ rfl rfl hl.1 rfl (lv_room (Nat.le_of_ble_eq_true rfl)) dL_law_334 ⟨(Nat.le_of_ble_eq_true rfl), (Nat.le_of_ble_eq_true rfl)⟩) (fun r_11 e_12 => ?_)
    clear hPc hDc
    have e_12 : 0 = r_11 := Eq.symm e_12
    subst e_12
    refine lv_iload hx hb dL_law_337 (lv_at hl 1 rfl) ?_
    refine lv_icmp_eq (tgt := 344) hx hb dL_law_339 (by decide) (fun _ => ?_) (fun c9 => absurd (show (0 : Int32) = (0 : Int32) from (by decide)) c9)
    refine lv_iload hx hb dL_law_344 (lv_at hl 1 rfl) ?_
    refine lv_if_ne (tgt := 361) hx hb dL_law_346 (by decide) (fun c9 => absurd (show (0 : Int32) = (0 : Int32) from (by decide)) c9) (fun _ => ?_)
    refine lv_aload_n hx hb dL_law_349 rfl (lv_at hl 5 rfl) ?_
    refine lv_iconst (v := 0) hx hb dL_law_350 (by decide) ?_
    refine va_lald hx hb hK hP 0 2 rfl rfl (by unfold vp_in; decide) dL_law_351 ?_
    refine lv_tol (y := 0) (b_4) ?_
    refine lv_iload hx hb dL_law_352 (lv_at hl 0 rfl) ?_
    refine lv_i2l (v := 0) hx hb dL_law_354 (by decide) ?_
    refine W.lcmp hx hb dL_law_355 ?_
    refine lv_toi (y := 0) (lg_cmp_self _) ?_
    refine lv_if_eq (tgt := 361) hx hb dL_law_356 (by decide) (fun _ => ?_) (fun c9 => absurd (show (0 : Int32) = (0 : Int32) from (by decide)) c9)
    refine lv_goto (tgt := 2855) hx hb dL_law_361 (by decide) ?_
    refine W.widen (k := 1000) (n := 200000) (Nat.le_of_ble_eq_true rfl) (Nat.le_of_ble_eq_true rfl) ?_
    exact T H _ ls hS (lv_sub hl [2, 6] rfl)
  · have hr9 := Eq.symm hr9
    subst hr9
    refine lv_istore (lv' := [(5, .int 1), (0, .ref b), (1, .ref g), (2, .ref mm), (3, .ref ou), (4, .int 0)]) hx hb dL_law_319 hl (by decide) rfl (fun ls hl => ?_)
    refine lv_aload_n hx hb dL_law_321 rfl (lv_at hl 3 rfl) ?_
    refine lv_aload_n hx hb dL_law_322 rfl (lv_at hl 1 rfl) ?_
    refine lv_iload hx hb dL_law_323 (lv_at hl 5 rfl) ?_
    refine lv_iconst (v := 1) hx hb dL_law_325 (by decide) ?_
    refine lv_iadd hx hb dL_law_326 ?_
    refine lv_toi (y := 1) (by decide) ?_
    refine va_sld hx hb hX hbl hbA hS (by unfold vp_in; decide) dL_law_327 ?_
    refine lv_toi (y := xs 1) (congrArg xs (by decide)) ?_
    have hPc := hP.sub (ws' := [(mm, .inr (10, [.ref w, .int 0])), (w, .inr (9, [.int 0, .int 0, .ref b2, .ref b3, .ref b4, .ref b5, .int 0, .ref b7, .ref b8, .ref b9, .ref b10, .ref b11, .ref b12, .int 0, .ref b14, .ref b15, .ref b16, .ref b17, .int 0, .ref b19, .ref b20, .ref b21, .ref b22, .ref b23, .ref b24, .ref b25, .ref b26, .ref b27, .int 0, .ref b29, .ref b30, .ref b31, .ref b32, .ref b33, .ref b34, .ref b35])), (b7, .inl (cI, 5, .inl (fun _ => 0)))]) [0, 1, 2] rfl
    have hDc := hD.sub (ws' := [(mm, .inr (10, [.ref w, .int 0])), (w, .inr (9, [.int 0, .int 0, .ref b2, .ref b3, .ref b4, .ref b5, .int 0, .ref b7, .ref b8, .ref b9, .ref b10, .ref b11, .ref b12, .int 0, .ref b14, .ref b15, .ref b16, .ref b17, .int 0, .ref b19, .ref b20, .ref b21, .ref b22, .ref b23, .ref b24, .ref b25, .ref b26, .ref b27, .int 0, .ref b29, .ref b30, .ref b31, .ref b32, .ref b33, .ref b34, .ref b35])), (b7, .inl (cI, 5, .inl (fun _ => 0)))]) [0, 1, 2] (by decide) rfl
    have hFc := va_free (wc := [(mm, .inr (10, [.ref w, .int 0])), (w, .inr (9, [.int 0, .int 0, .ref b2, .ref b3, .ref b4, .ref b5, .int 0, .ref b7, .ref b8, .ref b9, .ref b10, .ref b11, .ref b12, .int 0, .ref b14, .ref b15, .ref b16, .ref b17, .int 0, .ref b19, .ref b20, .ref b21, .ref b22, .ref b23, .ref b24, .ref b25, .ref b26, .ref b27, .int 0, .ref b29, .ref b30, .ref b31, .ref b32, .ref b33, .ref b34, .ref b35])), (b7, .inl (cI, 5, .inl (fun _ => 0)))]) hD hS hA [0, 1, 2] rfl
    refine va_calli (va_runV (As := [.int (xs 1)]) (rest := []) ⟨hx, hb, hml, hown, hts⟩ (m_addSite l D cI cZ cJ s.heap.size H.size mm 0 w 0 b2 b3 b4 b5 b7 b8 b9 b10 b11 b12 b14 b15 b16 b17 b19 b20 b21 b22 b23 b24 b25 b26 b27 b29 b30 b31 b32 b33 b34 b35 (xs 1)) (cwV 1 hts gL_law_X10_addSite rfl rfl rfl (by decide +kernel) ⟨(Nat.le_of_ble_eq_true rfl), (Nat.le_of_ble_eq_true rfl)⟩) ⟨Pre.blind, va_recv hK hP (ci := 10) (q0 := 0) rfl rfl, Pre.mk hPc (hDc.weaken (fun _ _ _ h => hAlo _ h)) hC hS hAlo⟩ rfl rfl hl.1 rfl (lv_room (Nat.le_of_ble_eq_true rfl)) dL_law_328 ⟨(Nat.le_of_ble_eq_true rfl), (Nat.le_of_ble_eq_true rfl)⟩) hS (fun q _ h => hFc q h) hFc (fun r_13 u t H1 locs1 ht hvm e_14 hB hz1 hk1 hS1 => ?_)
    have hS := hS1
    refine W.widen (k := 125) (n := 42920) (by omega) (by omega) ?_
    obtain ⟨tz_15, hP1, hD1, b_16⟩ := hB
    rw [ht] at hP1
    obtain ⟨hP, hD⟩ := va_join (wr := [(ou, .inl (cJ, 1, .inr (.inl (fo_3))))]) (w1 := [(mm, .inr (10, [.ref w, .int tz_15]))]) hP hD [0, 1, 2] [3] rfl rfl (by decide) (by decide) hk1 hFc hP1 hD1
    have e_14 : 0 = r_13 := Eq.symm e_14
    subst e_14
    clear hFc hPc hDc ht hvm hz1 hk1 hS1 hP1 hD1
    generalize H1 = H at hP hS ⊢
    replace hP : va_P D vwCl [(ou, .inl (cJ, 1, .inr (.inl (fo_3)))), (mm, .inr (10, [.ref w, .int tz_15]))] H := hP
    replace hD : va_D (LA s) [(ou, .inl (cJ, 1, .inr (.inl (fo_3)))), (mm, .inr (10, [.ref w, .int tz_15]))] := hD
    have ht9 := Eq.symm (b_16.2 h_6)
    subst ht9
    refine lv_istore (lv' := [(6, .int 0), (5, .int 1), (0, .ref b), (1, .ref g), (2, .ref mm), (3, .ref ou), (4, .int 0)]) hx hb dL_law_331 hl (by decide) rfl (fun ls hl => ?_)
    refine lv_aload_n hx hb dL_law_333 rfl (lv_at hl 4 rfl) ?_
    have hPc := hP.sub (ws' := [(mm, .inr (10, [.ref w, .int 1]))]) [1] rfl
    have hDc := hD.sub (ws' := [(mm, .inr (10, [.ref w, .int 1]))]) [1] (by decide) rfl
    refine vp_callSi (W.runV (As := []) (rest := []) ⟨hx, hb, hml, hown, hts⟩ (c_thrown l D cI cZ cJ s.heap.size H.size mm 1 w) (cwV 0 hts gL_law_X10_thrown rfl rfl rfl (by decide +kernel) ⟨(Nat.le_of_ble_eq_true rfl), (Nat.le_of_ble_eq_true rfl)⟩) ⟨Pre.blind, va_recv hK hP (ci := 10) (q0 := 1) rfl rfl, Pre.mk hPc (hDc.weaken (fun _ _ _ h => hAlo _ h)) hC hS hAlo⟩ rfl rfl hl.1 rfl (lv_room (Nat.le_of_ble_eq_true rfl)) dL_law_334 ⟨(Nat.le_of_ble_eq_true rfl), (Nat.le_of_ble_eq_true rfl)⟩) (fun r_17 e_18 => ?_)
    clear hPc hDc
    have e_18 : 1 = r_17 := Eq.symm e_18
    subst e_18
    refine lv_iload hx hb dL_law_337 (lv_at hl 1 rfl) ?_
    refine lv_icmp_eq (tgt := 344) hx hb dL_law_339 (by decide) (fun _ => ?_) (fun c9 => absurd (show (1 : Int32) = (1 : Int32) from (by decide)) c9)
    refine lv_iload hx hb dL_law_344 (lv_at hl 1 rfl) ?_
    refine lv_if_ne (tgt := 361) hx hb dL_law_346 (by decide) (fun _ => ?_) (fun c9 => absurd c9 (show ¬ (1 : Int32) = (0 : Int32) from (by decide)))
    refine lv_goto (tgt := 2855) hx hb dL_law_361 (by decide) ?_
    refine W.widen (k := 1000) (n := 200000) (Nat.le_of_ble_eq_true rfl) (Nat.le_of_ble_eq_true rfl) ?_
    exact T H _ ls hS (lv_sub hl [2, 6] rfl)

set_option maxHeartbeats 4000000 in
set_option maxRecDepth 100000 in
/-- the law at a call of setRoute -/
theorem law_setRoute {p : Program} {l : Launch} {e : Env} {s : State} {m : MethodId} {below : List Frame} {meth : Method} {c : Code} {Q : State → Prop} (hl9 : l.stackTraces = false) (D : va_G) (cI cZ cJ : ClassId) (b : Nat) (xs : Nat → Int32) (C0 : LC s p m c D cI cZ cJ b xs) (g : Nat) (nw : Nat) (la : Nat) (pn : Nat) (aI : Nat) (aS : Nat) (aP : Nat) (aL : Nat) (aO : Nat) (aT : Nat) (aA : Nat) (aQ : Nat) (aS1 : Nat) (aS2 : Nat) (mm : Nat) (w : Nat) (b2 : Nat) (b3 : Nat) (b4 : Nat) (b5 : Nat) (b7 : Nat) (b8 : Nat) (b9 : Nat) (b10 : Nat) (b11 : Nat) (b12 : Nat) (b14 : Nat) (b15 : Nat) (b16 : Nat) (b17 : Nat) (b19 : Nat) (b20 : Nat) (b21 : Nat) (b22 : Nat) (b23 : Nat) (b24 : Nat) (b25 : Nat) (b26 : Nat) (b27 : Nat) (b29 : Nat) (b30 : Nat) (b31 : Nat) (b32 : Nat) (b33 : Nat) (b34 : Nat) (b35 : Nat) (ou : Nat) (T : LT p l e s m below meth c b Q) {H : Heap} {locs : List Loc} {ls : Array Slot} (hP : va_P D vwCl [(g, .inr (8, [.ref nw, .ref la, .ref pn])), (nw, .inr (6, [.int 0, .ref aI, .ref aS, .ref aP, .ref aL, .ref aO, .ref aT, .ref aA, .ref aQ])), (aS, .inr (5, [.int 0, .ref aS1, .ref aS2])), (mm, .inr (10, [.ref w, .int 0])), (w, .inr (9, [.int 0, .int 0, .ref b2, .ref b3, .ref b4, .ref b5, .int 0, .ref b7, .ref b8, .ref b9, .ref b10, .ref b11, .ref b12, .int 0, .ref b14, .ref b15, .ref b16, .ref b17, .int 0, .ref b19, .ref b20, .ref b21, .ref b22, .ref b23, .ref b24, .ref b25, .ref b26, .ref b27, .int 0, .ref b29, .ref b30, .ref b31, .ref b32, .ref b33, .ref b34, .ref b35]))] H) (hD : va_D (LA s) [(g, .inr (8, [.ref nw, .ref la, .ref pn])), (nw, .inr (6, [.int 0, .ref aI, .ref aS, .ref aP, .ref aL, .ref aO, .ref aT, .ref aA, .ref aQ])), (aS, .inr (5, [.int 0, .ref aS1, .ref aS2])), (mm, .inr (10, [.ref w, .int 0])), (w, .inr (9, [.int 0, .int 0, .ref b2, .ref b3, .ref b4, .ref b5, .int 0, .ref b7, .ref b8, .ref b9, .ref b10, .ref b11, .ref b12, .int 0, .ref b14, .ref b15, .ref b16, .ref b17, .int 0, .ref b19, .ref b20, .ref b21, .ref b22, .ref b23, .ref b24, .ref b25, .ref b26, .ref b27, .int 0, .ref b29, .ref b30, .ref b31, .ref b32, .ref b33, .ref b34, .ref b35]))]) (hS : va_S (LA s) s.heap H locs) (hl : lv_has ls 9 [(0, .ref b), (1, .ref g), (2, .ref mm), (3, .ref ou), (4, .int 0)]) : W p l e room_1 s m #[Value.ref b] below meth c H locs 123 42908 Q (F0 m 364 ls []) := by
  obtain ⟨hx, hb, hml, hown, hts, hX, hbl, hC⟩ := C0
  have hK := hC.K
  have hA : ∀ q : Nat, s.heap.size ≤ q → LA s q := fun _ h => h
  have hAlo : ∀ q, LA s q → s.heap.size ≤ q := fun _ h => h
  have hbA : ¬ LA s b := Nat.not_le.mpr hbl
  refine lv_aload_n hx hb dL_law_364 rfl (lv_at hl 1 rfl) ?_
  refine lv_aload_n hx hb dL_law_365 rfl (lv_at hl 0 rfl) ?_
  refine lv_iload hx hb dL_law_366 (lv_at hl 4 rfl) ?_
  refine lv_iconst (v := 1) hx hb dL_law_368 (by decide) ?_
  refine lv_iadd hx hb dL_law_369 ?_
  refine lv_toi (y := 1) (by decide) ?_
  refine va_sld hx hb hX hbl hbA hS (by unfold vp_in; decide) dL_law_370 ?_
  refine lv_toi (y := xs 1) (congrArg xs (by decide)) ?_
  refine lv_aload_n hx hb dL_law_371 rfl (lv_at hl 0 rfl) ?_
  refine lv_iload hx hb dL_law_372 (lv_at hl 4 rfl) ?_
  refine lv_iconst (v := 2) hx hb dL_law_374 (by decide) ?_
  refine lv_iadd hx hb dL_law_375 ?_
  refine lv_toi (y := 2) (by decide) ?_
  refine va_sld hx hb hX hbl hbA hS (by unfold vp_in; decide) dL_law_376 ?_
  refine lv_toi (y := xs 2) (congrArg xs (by decide)) ?_
  refine lv_aload_n hx hb dL_law_377 rfl (lv_at hl 0 rfl) ?_
  refine lv_iload hx hb dL_law_378 (lv_at hl 4 rfl) ?_
  refine lv_iconst (v := 3) hx hb dL_law_380 (by decide) ?_
  refine lv_iadd hx hb dL_law_381 ?_
  refine lv_toi (y := 3) (by decide) ?_
  refine va_sld hx hb hX hbl hbA hS (by unfold vp_in; decide) dL_law_382 ?_
  refine lv_toi (y := xs 3) (congrArg xs (by decide)) ?_
  refine lv_aload_n hx hb dL_law_383 rfl (lv_at hl 3 rfl) ?_
  have hPc := hP.sub (ws' := [(g, .inr (8, [.ref nw, .ref la, .ref pn])), (nw, .inr (6, [.int 0, .ref aI, .ref aS, .ref aP, .ref aL, .ref aO, .ref aT, .ref aA, .ref aQ])), (aS, .inr (5, [.int 0, .ref aS1, .ref aS2]))]) [0, 1, 2] rfl
  have hDc := hD.sub (ws' := [(g, .inr (8, [.ref nw, .ref la, .ref pn])), (nw, .inr (6, [.int 0, .ref aI, .ref aS, .ref aP, .ref aL, .ref aO, .ref aT, .ref aA, .ref aQ])), (aS, .inr (5, [.int 0, .ref aS1, .ref aS2]))]) [0, 1, 2] (by decide) rfl
  have hFc := va_free (wc := [(g, .inr (8, [.ref nw, .ref la, .ref pn])), (nw, .inr (6, [.int 0, .ref aI, .ref aS, .ref aP, .ref aL, .ref aO, .ref aT, .ref aA, .ref aQ])), (aS, .inr (5, [.int 0, .ref aS1, .ref aS2]))]) hD hS hA [0, 1, 2] rfl
  refine va_calli (vx_runSW (As := [.ref g, .int (xs 1), .int (xs 2), .int (xs 3), .ref ou]) (rest := []) ⟨hx, hb, hml, hown, hts⟩ (h_setRoute l hl9 D cI cZ cJ s.heap.size H.size g nw la pn 0 aI aS aP aL aO aT aA aQ aS1 aS2 (xs 1) (xs 2) (xs 3) ou) (vx_cwSW 5 hts gL_law_L_setRoute rfl rfl rfl (by decide +kernel) ⟨(Nat.le_of_ble_eq_true rfl), (Nat.le_of_ble_eq_true rfl)⟩) ⟨Pre.blind, Pre.mk hPc (hDc.weaken (fun _ _ _ h => hAlo _ h)) hC hS hAlo⟩ rfl rfl hl.1 rfl (lv_room (Nat.le_of_ble_eq_true rfl)) dL_law_384 ⟨(Nat.le_of_ble_eq_true rfl), (Nat.le_of_ble_eq_true rfl)⟩) hS (fun q _ h => hFc q h) hFc (fun r_1 u t H1 locs1 ht hvm e_2 hB hz1 hk1 hS1 => ?_)
  have hS := hS1
  refine W.widen (k := 124) (n := 42914) (by omega) (by omega) ?_
  obtain ⟨hP, hD⟩ := va_rest (wr := [(mm, .inr (10, [.ref w, .int 0])), (w, .inr (9, [.int 0, .int 0, .ref b2, .ref b3, .ref b4, .ref b5, .int 0, .ref b7, .ref b8, .ref b9, .ref b10, .ref b11, .ref b12, .int 0, .ref b14, .ref b15, .ref b16, .ref b17, .int 0, .ref b19, .ref b20, .ref b21, .ref b22, .ref b23, .ref b24, .ref b25, .ref b26, .ref b27, .int 0, .ref b29, .ref b30, .ref b31, .ref b32, .ref b33, .ref b34, .ref b35]))]) hP hD [0, 1, 2] [3, 4] rfl rfl (by decide) (by decide) hk1 hFc
  have e_2 : 1 = r_1 := Eq.symm e_2
  subst e_2
  clear hFc hPc hDc ht hvm hz1 hk1 hS1 hB
  generalize H1 = H at hP hS ⊢
  replace hP : va_P D vwCl [(mm, .inr (10, [.ref w, .int 0])), (w, .inr (9, [.int 0, .int 0, .ref b2, .ref b3, .ref b4, .ref b5, .int 0, .ref b7, .ref b8, .ref b9, .ref b10, .ref b11, .ref b12, .int 0, .ref b14, .ref b15, .ref b16, .ref b17, .int 0, .ref b19, .ref b20, .ref b21, .ref b22, .ref b23, .ref b24, .ref b25, .ref b26, .ref b27, .int 0, .ref b29, .ref b30, .ref b31, .ref b32, .ref b33, .ref b34, .ref b35]))] H := hP
  replace hD : va_D (LA s) [(mm, .inr (10, [.ref w, .int 0])), (w, .inr (9, [.int 0, .int 0, .ref b2, .ref b3, .ref b4, .ref b5, .int 0, .ref b7, .ref b8, .ref b9, .ref b10, .ref b11, .ref b12, .int 0, .ref b14, .ref b15, .ref b16, .ref b17, .int 0, .ref b19, .ref b20, .ref b21, .ref b22, .ref b23, .ref b24, .ref b25, .ref b26, .ref b27, .int 0, .ref b29, .ref b30, .ref b31, .ref b32, .ref b33, .ref b34, .ref b35]))] := hD
  refine lv_istore (lv' := [(5, .int 1), (0, .ref b), (1, .ref g), (2, .ref mm), (3, .ref ou), (4, .int 0)]) hx hb dL_law_387 hl (by decide) rfl (fun ls hl => ?_)
  refine lv_aload_n hx hb dL_law_389 rfl (lv_at hl 3 rfl) ?_
  refine lv_aload_n hx hb dL_law_390 rfl (lv_at hl 1 rfl) ?_
  refine lv_iload hx hb dL_law_391 (lv_at hl 5 rfl) ?_
  refine lv_iconst (v := 1) hx hb dL_law_393 (by decide) ?_
  refine lv_iadd hx hb dL_law_394 ?_
  refine lv_toi (y := 1) (by decide) ?_
  refine va_sld hx hb hX hbl hbA hS (by unfold vp_in; decide) dL_law_395 ?_
  refine lv_toi (y := xs 1) (congrArg xs (by decide)) ?_
  refine lv_aload_n hx hb dL_law_396 rfl (lv_at hl 1 rfl) ?_
  refine lv_iload hx hb dL_law_397 (lv_at hl 5 rfl) ?_
  refine lv_iconst (v := 2) hx hb dL_law_399 (by decide) ?_
  refine lv_iadd hx hb dL_law_400 ?_
  refine lv_toi (y := 2) (by decide) ?_
  refine va_sld hx hb hX hbl hbA hS (by unfold vp_in; decide) dL_law_401 ?_
  refine lv_toi (y := xs 2) (congrArg xs (by decide)) ?_
  refine lv_aload_n hx hb dL_law_402 rfl (lv_at hl 1 rfl) ?_
  refine lv_iload hx hb dL_law_403 (lv_at hl 5 rfl) ?_
  refine lv_iconst (v := 3) hx hb dL_law_405 (by decide) ?_
  refine lv_iadd hx hb dL_law_406 ?_
  refine lv_toi (y := 3) (by decide) ?_
  refine va_sld hx hb hX hbl hbA hS (by unfold vp_in; decide) dL_law_407 ?_
  refine lv_toi (y := xs 3) (congrArg xs (by decide)) ?_
  have hPc := hP.sub (ws' := [(mm, .inr (10, [.ref w, .int 0])), (w, .inr (9, [.int 0, .int 0, .ref b2, .ref b3, .ref b4, .ref b5, .int 0, .ref b7, .ref b8, .ref b9, .ref b10, .ref b11, .ref b12, .int 0, .ref b14, .ref b15, .ref b16, .ref b17, .int 0, .ref b19, .ref b20, .ref b21, .ref b22, .ref b23, .ref b24, .ref b25, .ref b26, .ref b27, .int 0, .ref b29, .ref b30, .ref b31, .ref b32, .ref b33, .ref b34, .ref b35]))]) [0, 1] rfl
  have hDc := hD.sub (ws' := [(mm, .inr (10, [.ref w, .int 0])), (w, .inr (9, [.int 0, .int 0, .ref b2, .ref b3, .ref b4, .ref b5, .int 0, .ref b7, .ref b8, .ref b9, .ref b10, .ref b11, .ref b12, .int 0, .ref b14, .ref b15, .ref b16, .ref b17, .int 0, .ref b19, .ref b20, .ref b21, .ref b22, .ref b23, .ref b24, .ref b25, .ref b26, .ref b27, .int 0, .ref b29, .ref b30, .ref b31, .ref b32, .ref b33, .ref b34, .ref b35]))]) [0, 1] (by decide) rfl
  have hFc := va_free (wc := [(mm, .inr (10, [.ref w, .int 0])), (w, .inr (9, [.int 0, .int 0, .ref b2, .ref b3, .ref b4, .ref b5, .int 0, .ref b7, .ref b8, .ref b9, .ref b10, .ref b11, .ref b12, .int 0, .ref b14, .ref b15, .ref b16, .ref b17, .int 0, .ref b19, .ref b20, .ref b21, .ref b22, .ref b23, .ref b24, .ref b25, .ref b26, .ref b27, .int 0, .ref b29, .ref b30, .ref b31, .ref b32, .ref b33, .ref b34, .ref b35]))]) hD hS hA [0, 1] rfl
  refine va_calli (va_runV (As := [.int (xs 1), .int (xs 2), .int (xs 3)]) (rest := []) ⟨hx, hb, hml, hown, hts⟩ (m_setRoute l D cI cZ cJ s.heap.size H.size mm 0 w 0 b2 b3 b4 b5 b7 b8 b9 b10 b11 b12 b14 b15 b16 b17 b19 b20 b21 b22 b23 b24 b25 b26 b27 b29 b30 b31 b32 b33 b34 b35 (xs 1) (xs 2) (xs 3)) (cwV 3 hts gL_law_X10_setRoute rfl rfl rfl (by decide +kernel) ⟨(Nat.le_of_ble_eq_true rfl), (Nat.le_of_ble_eq_true rfl)⟩) ⟨Pre.blind, va_recv hK hP (ci := 10) (q0 := 0) rfl rfl, Pre.mk hPc (hDc.weaken (fun _ _ _ h => hAlo _ h)) hC hS hAlo⟩ rfl rfl hl.1 rfl (lv_room (Nat.le_of_ble_eq_true rfl)) dL_law_408 ⟨(Nat.le_of_ble_eq_true rfl), (Nat.le_of_ble_eq_true rfl)⟩) hS (fun q _ h => hFc q h) hFc (fun r_3 u t H1 locs1 ht hvm e_4 hB hz1 hk1 hS1 => ?_)
  have hS := hS1
  refine W.widen (k := 124) (n := 42914) (by omega) (by omega) ?_
  obtain ⟨hP1, hD1⟩ := hB
  rw [ht] at hP1
  obtain ⟨hP, hD⟩ := va_join (wr := []) (w1 := [(mm, .inr (10, [.ref w, .int 1]))]) hP hD [0, 1] [] rfl rfl (by decide) (by decide) hk1 hFc hP1 hD1
  have e_4 : 0 = r_3 := Eq.symm e_4
  subst e_4
  clear hFc hPc hDc ht hvm hz1 hk1 hS1 hP1 hD1
  generalize H1 = H at hP hS ⊢
  replace hP : va_P D vwCl [(mm, .inr (10, [.ref w, .int 1]))] H := hP
  replace hD : va_D (LA s) [(mm, .inr (10, [.ref w, .int 1]))] := hD
  refine lv_istore (lv' := [(6, .int 0), (5, .int 1), (0, .ref b), (1, .ref g), (2, .ref mm), (3, .ref ou), (4, .int 0)]) hx hb dL_law_411 hl (by decide) rfl (fun ls hl => ?_)
  refine lv_aload_n hx hb dL_law_413 rfl (lv_at hl 4 rfl) ?_
  have hPc := hP.sub (ws' := [(mm, .inr (10, [.ref w, .int 1]))]) [0] rfl
  have hDc := hD.sub (ws' := [(mm, .inr (10, [.ref w, .int 1]))]) [0] (by decide) rfl
  refine vp_callSi (W.runV (As := []) (rest := []) ⟨hx, hb, hml, hown, hts⟩ (c_thrown l D cI cZ cJ s.heap.size H.size mm 1 w) (cwV 0 hts gL_law_X10_thrown rfl rfl rfl (by decide +kernel) ⟨(Nat.le_of_ble_eq_true rfl), (Nat.le_of_ble_eq_true rfl)⟩) ⟨Pre.blind, va_recv hK hP (ci := 10) (q0 := 0) rfl rfl, Pre.mk hPc (hDc.weaken (fun _ _ _ h => hAlo _ h)) hC hS hAlo⟩ rfl rfl hl.1 rfl (lv_room (Nat.le_of_ble_eq_true rfl)) dL_law_414 ⟨(Nat.le_of_ble_eq_true rfl), (Nat.le_of_ble_eq_true rfl)⟩) (fun r_5 e_6 => ?_)
  clear hPc hDc
  have e_6 : 1 = r_5 := Eq.symm e_6
  subst e_6
  refine lv_iload hx hb dL_law_417 (lv_at hl 1 rfl) ?_
  refine lv_icmp_eq (tgt := 424) hx hb dL_law_419 (by decide) (fun _ => ?_) (fun c9 => absurd (show (1 : Int32) = (1 : Int32) from (by decide)) c9)
  refine lv_iload hx hb dL_law_424 (lv_at hl 1 rfl) ?_
  refine lv_if_ne (tgt := 441) hx hb dL_law_426 (by decide) (fun _ => ?_) (fun c9 => absurd c9 (show ¬ (1 : Int32) = (0 : Int32) from (by decide)))
  refine lv_goto (tgt := 2855) hx hb dL_law_441 (by decide) ?_
  refine W.widen (k := 1000) (n := 200000) (Nat.le_of_ble_eq_true rfl) (Nat.le_of_ble_eq_true rfl) ?_
  exact T H _ ls hS (lv_sub hl [2, 6] rfl)

set_option maxHeartbeats 4000000 in
set_option maxRecDepth 100000 in
/-- the law at a call of setPolicy -/
theorem law_setPolicy {p : Program} {l : Launch} {e : Env} {s : State} {m : MethodId} {below : List Frame} {meth : Method} {c : Code} {Q : State → Prop} (hl9 : l.stackTraces = false) (D : va_G) (cI cZ cJ : ClassId) (b : Nat) (xs : Nat → Int32) (C0 : LC s p m c D cI cZ cJ b xs) (g : Nat) (nw : Nat) (la : Nat) (pn : Nat) (aI : Nat) (aS : Nat) (aP : Nat) (aL : Nat) (aO : Nat) (aT : Nat) (aA : Nat) (aQ : Nat) (aI1 : Nat) (aI2 : Nat) (aI3 : Nat) (aI4 : Nat) (mm : Nat) (w : Nat) (b2 : Nat) (b3 : Nat) (b4 : Nat) (b5 : Nat) (b7 : Nat) (b8 : Nat) (b9 : Nat) (b10 : Nat) (b11 : Nat) (b12 : Nat) (b14 : Nat) (b15 : Nat) (b16 : Nat) (b17 : Nat) (b19 : Nat) (b20 : Nat) (b21 : Nat) (b22 : Nat) (b23 : Nat) (b24 : Nat) (b25 : Nat) (b26 : Nat) (b27 : Nat) (b29 : Nat) (b30 : Nat) (b31 : Nat) (b32 : Nat) (b33 : Nat) (b34 : Nat) (b35 : Nat) (ou : Nat) (T : LT p l e s m below meth c b Q) {H : Heap} {locs : List Loc} {ls : Array Slot} (hP : va_P D vwCl [(g, .inr (8, [.ref nw, .ref la, .ref pn])), (nw, .inr (6, [.int 0, .ref aI, .ref aS, .ref aP, .ref aL, .ref aO, .ref aT, .ref aA, .ref aQ])), (aI, .inr (0, [.int 0, .ref aI1, .ref aI2, .ref aI3, .ref aI4])), (mm, .inr (10, [.ref w, .int 0])), (w, .inr (9, [.int 0, .int 0, .ref b2, .ref b3, .ref b4, .ref b5, .int 0, .ref b7, .ref b8, .ref b9, .ref b10, .ref b11, .ref b12, .int 0, .ref b14, .ref b15, .ref b16, .ref b17, .int 0, .ref b19, .ref b20, .ref b21, .ref b22, .ref b23, .ref b24, .ref b25, .ref b26, .ref b27, .int 0, .ref b29, .ref b30, .ref b31, .ref b32, .ref b33, .ref b34, .ref b35]))] H) (hD : va_D (LA s) [(g, .inr (8, [.ref nw, .ref la, .ref pn])), (nw, .inr (6, [.int 0, .ref aI, .ref aS, .ref aP, .ref aL, .ref aO, .ref aT, .ref aA, .ref aQ])), (aI, .inr (0, [.int 0, .ref aI1, .ref aI2, .ref aI3, .ref aI4])), (mm, .inr (10, [.ref w, .int 0])), (w, .inr (9, [.int 0, .int 0, .ref b2, .ref b3, .ref b4, .ref b5, .int 0, .ref b7, .ref b8, .ref b9, .ref b10, .ref b11, .ref b12, .int 0, .ref b14, .ref b15, .ref b16, .ref b17, .int 0, .ref b19, .ref b20, .ref b21, .ref b22, .ref b23, .ref b24, .ref b25, .ref b26, .ref b27, .int 0, .ref b29, .ref b30, .ref b31, .ref b32, .ref b33, .ref b34, .ref b35]))]) (hS : va_S (LA s) s.heap H locs) (hl : lv_has ls 9 [(0, .ref b), (1, .ref g), (2, .ref mm), (3, .ref ou), (4, .int 0)]) : W p l e room_1 s m #[Value.ref b] below meth c H locs 123 42908 Q (F0 m 444 ls []) := by
  obtain ⟨hx, hb, hml, hown, hts, hX, hbl, hC⟩ := C0
  have hK := hC.K
  have hA : ∀ q : Nat, s.heap.size ≤ q → LA s q := fun _ h => h
  have hAlo : ∀ q, LA s q → s.heap.size ≤ q := fun _ h => h
  have hbA : ¬ LA s b := Nat.not_le.mpr hbl
  refine lv_aload_n hx hb dL_law_444 rfl (lv_at hl 1 rfl) ?_
  refine lv_aload_n hx hb dL_law_445 rfl (lv_at hl 0 rfl) ?_
  refine lv_iload hx hb dL_law_446 (lv_at hl 4 rfl) ?_
  refine lv_iconst (v := 1) hx hb dL_law_448 (by decide) ?_
  refine lv_iadd hx hb dL_law_449 ?_
  refine lv_toi (y := 1) (by decide) ?_
  refine va_sld hx hb hX hbl hbA hS (by unfold vp_in; decide) dL_law_450 ?_
  refine lv_toi (y := xs 1) (congrArg xs (by decide)) ?_
  refine lv_aload_n hx hb dL_law_451 rfl (lv_at hl 0 rfl) ?_
  refine lv_iload hx hb dL_law_452 (lv_at hl 4 rfl) ?_
  refine lv_iconst (v := 2) hx hb dL_law_454 (by decide) ?_
  refine lv_iadd hx hb dL_law_455 ?_
  refine lv_toi (y := 2) (by decide) ?_
  refine va_sld hx hb hX hbl hbA hS (by unfold vp_in; decide) dL_law_456 ?_
  refine lv_toi (y := xs 2) (congrArg xs (by decide)) ?_
  refine lv_aload_n hx hb dL_law_457 rfl (lv_at hl 0 rfl) ?_
  refine lv_iload hx hb dL_law_458 (lv_at hl 4 rfl) ?_
  refine lv_iconst (v := 3) hx hb dL_law_460 (by decide) ?_
  refine lv_iadd hx hb dL_law_461 ?_
  refine lv_toi (y := 3) (by decide) ?_
  refine va_sld hx hb hX hbl hbA hS (by unfold vp_in; decide) dL_law_462 ?_
  refine lv_toi (y := xs 3) (congrArg xs (by decide)) ?_
  refine lv_aload_n hx hb dL_law_463 rfl (lv_at hl 0 rfl) ?_
  refine lv_iload hx hb dL_law_464 (lv_at hl 4 rfl) ?_
  refine lv_iconst (v := 4) hx hb dL_law_466 (by decide) ?_
  refine lv_iadd hx hb dL_law_467 ?_
  refine lv_toi (y := 4) (by decide) ?_
  refine va_sld hx hb hX hbl hbA hS (by unfold vp_in; decide) dL_law_468 ?_
  refine lv_toi (y := xs 4) (congrArg xs (by decide)) ?_
  refine lv_aload_n hx hb dL_law_469 rfl (lv_at hl 0 rfl) ?_
  refine lv_iload hx hb dL_law_470 (lv_at hl 4 rfl) ?_
  refine lv_iconst (v := 5) hx hb dL_law_472 (by decide) ?_
  refine lv_iadd hx hb dL_law_473 ?_
  refine lv_toi (y := 5) (by decide) ?_
  refine va_sld hx hb hX hbl hbA hS (by unfold vp_in; decide) dL_law_474 ?_
  refine lv_toi (y := xs 5) (congrArg xs (by decide)) ?_
  refine lv_aload_n hx hb dL_law_475 rfl (lv_at hl 0 rfl) ?_
  refine lv_iload hx hb dL_law_476 (lv_at hl 4 rfl) ?_
  refine lv_bipush (v := 6) hx hb dL_law_478 (by decide) ?_
  refine lv_iadd hx hb dL_law_480 ?_
  refine lv_toi (y := 6) (by decide) ?_
  refine va_sld hx hb hX hbl hbA hS (by unfold vp_in; decide) dL_law_481 ?_
  refine lv_toi (y := xs 6) (congrArg xs (by decide)) ?_
  refine lv_aload_n hx hb dL_law_482 rfl (lv_at hl 3 rfl) ?_
  have hPc := hP.sub (ws' := [(g, .inr (8, [.ref nw, .ref la, .ref pn])), (nw, .inr (6, [.int 0, .ref aI, .ref aS, .ref aP, .ref aL, .ref aO, .ref aT, .ref aA, .ref aQ])), (aI, .inr (0, [.int 0, .ref aI1, .ref aI2, .ref aI3, .ref aI4]))]) [0, 1, 2] rfl
  have hDc := hD.sub (ws' := [(g, .inr (8, [.ref nw, .ref la, .ref pn])), (nw, .inr (6, [.int 0, .ref aI, .ref aS, .ref aP, .ref aL, .ref aO, .ref aT, .ref aA, .ref aQ])), (aI, .inr (0, [.int 0, .ref aI1, .ref aI2, .ref aI3, .ref aI4]))]) [0, 1, 2] (by decide) rfl
  have hFc := va_free (wc := [(g, .inr (8, [.ref nw, .ref la, .ref pn])), (nw, .inr (6, [.int 0, .ref aI, .ref aS, .ref aP, .ref aL, .ref aO, .ref aT, .ref aA, .ref aQ])), (aI, .inr (0, [.int 0, .ref aI1, .ref aI2, .ref aI3, .ref aI4]))]) hD hS hA [0, 1, 2] rfl
  refine va_calli (vx_runSW (As := [.ref g, .int (xs 1), .int (xs 2), .int (xs 3), .int (xs 4), .int (xs 5), .int (xs 6), .ref ou]) (rest := []) ⟨hx, hb, hml, hown, hts⟩ (h_setPolicy l hl9 D cI cZ cJ s.heap.size H.size g nw la pn 0 aI aS aP aL aO aT aA aQ aI1 aI2 aI3 aI4 (xs 1) (xs 2) (xs 3) (xs 4) (xs 5) (xs 6) ou) (vx_cwSW 8 hts gL_law_L_setPolicy rfl rfl rfl (by decide +kernel) ⟨(Nat.le_of_ble_eq_true rfl), (Nat.le_of_ble_eq_true rfl)⟩) ⟨Pre.blind, Pre.mk hPc (hDc.weaken (fun _ _ _ h => hAlo _ h)) hC hS hAlo⟩ rfl rfl hl.1 rfl (lv_room (Nat.le_of_ble_eq_true rfl)) dL_law_483 ⟨(Nat.le_of_ble_eq_true rfl), (Nat.le_of_ble_eq_true rfl)⟩) hS (fun q _ h => hFc q h) hFc (fun r_1 u t H1 locs1 ht hvm e_2 hB hz1 hk1 hS1 => ?_)
  have hS := hS1
  refine W.widen (k := 124) (n := 42914) (by omega) (by omega) ?_
  obtain ⟨hP, hD⟩ := va_rest (wr := [(mm, .inr (10, [.ref w, .int 0])), (w, .inr (9, [.int 0, .int 0, .ref b2, .ref b3, .ref b4, .ref b5, .int 0, .ref b7, .ref b8, .ref b9, .ref b10, .ref b11, .ref b12, .int 0, .ref b14, .ref b15, .ref b16, .ref b17, .int 0, .ref b19, .ref b20, .ref b21, .ref b22, .ref b23, .ref b24, .ref b25, .ref b26, .ref b27, .int 0, .ref b29, .ref b30, .ref b31, .ref b32, .ref b33, .ref b34, .ref b35]))]) hP hD [0, 1, 2] [3, 4] rfl rfl (by decide) (by decide) hk1 hFc
  have e_2 : 1 = r_1 := Eq.symm e_2
  subst e_2
  clear hFc hPc hDc ht hvm hz1 hk1 hS1 hB
  generalize H1 = H at hP hS ⊢
  replace hP : va_P D vwCl [(mm, .inr (10, [.ref w, .int 0])), (w, .inr (9, [.int 0, .int 0, .ref b2, .ref b3, .ref b4, .ref b5, .int 0, .ref b7, .ref b8, .ref b9, .ref b10, .ref b11, .ref b12, .int 0, .ref b14, .ref b15, .ref b16, .ref b17, .int 0, .ref b19, .ref b20, .ref b21, .ref b22, .ref b23, .ref b24, .ref b25, .ref b26, .ref b27, .int 0, .ref b29, .ref b30, .ref b31, .ref b32, .ref b33, .ref b34, .ref b35]))] H := hP
  replace hD : va_D (LA s) [(mm, .inr (10, [.ref w, .int 0])), (w, .inr (9, [.int 0, .int 0, .ref b2, .ref b3, .ref b4, .ref b5, .int 0, .ref b7, .ref b8, .ref b9, .ref b10, .ref b11, .ref b12, .int 0, .ref b14, .ref b15, .ref b16, .ref b17, .int 0, .ref b19, .ref b20, .ref b21, .ref b22, .ref b23, .ref b24, .ref b25, .ref b26, .ref b27, .int 0, .ref b29, .ref b30, .ref b31, .ref b32, .ref b33, .ref b34, .ref b35]))] := hD
  refine lv_istore (lv' := [(5, .int 1), (0, .ref b), (1, .ref g), (2, .ref mm), (3, .ref ou), (4, .int 0)]) hx hb dL_law_486 hl (by decide) rfl (fun ls hl => ?_)
  refine lv_aload_n hx hb dL_law_488 rfl (lv_at hl 3 rfl) ?_
  refine lv_aload_n hx hb dL_law_489 rfl (lv_at hl 1 rfl) ?_
  refine lv_iload hx hb dL_law_490 (lv_at hl 5 rfl) ?_
  refine lv_iconst (v := 1) hx hb dL_law_492 (by decide) ?_
  refine lv_iadd hx hb dL_law_493 ?_
  refine lv_toi (y := 1) (by decide) ?_
  refine va_sld hx hb hX hbl hbA hS (by unfold vp_in; decide) dL_law_494 ?_
  refine lv_toi (y := xs 1) (congrArg xs (by decide)) ?_
  refine lv_aload_n hx hb dL_law_495 rfl (lv_at hl 1 rfl) ?_
  refine lv_iload hx hb dL_law_496 (lv_at hl 5 rfl) ?_
  refine lv_iconst (v := 2) hx hb dL_law_498 (by decide) ?_
  refine lv_iadd hx hb dL_law_499 ?_
  refine lv_toi (y := 2) (by decide) ?_
  refine va_sld hx hb hX hbl hbA hS (by unfold vp_in; decide) dL_law_500 ?_
  refine lv_toi (y := xs 2) (congrArg xs (by decide)) ?_
  refine lv_aload_n hx hb dL_law_501 rfl (lv_at hl 1 rfl) ?_
  refine lv_iload hx hb dL_law_502 (lv_at hl 5 rfl) ?_
  refine lv_iconst (v := 3) hx hb dL_law_504 (by decide) ?_
  refine lv_iadd hx hb dL_law_505 ?_
  refine lv_toi (y := 3) (by decide) ?_
  refine va_sld hx hb hX hbl hbA hS (by unfold vp_in; decide) dL_law_506 ?_
  refine lv_toi (y := xs 3) (congrArg xs (by decide)) ?_
  refine lv_aload_n hx hb dL_law_507 rfl (lv_at hl 1 rfl) ?_
  refine lv_iload hx hb dL_law_508 (lv_at hl 5 rfl) ?_
  refine lv_iconst (v := 4) hx hb dL_law_510 (by decide) ?_
  refine lv_iadd hx hb dL_law_511 ?_
  refine lv_toi (y := 4) (by decide) ?_
  refine va_sld hx hb hX hbl hbA hS (by unfold vp_in; decide) dL_law_512 ?_
  refine lv_toi (y := xs 4) (congrArg xs (by decide)) ?_
  refine lv_aload_n hx hb dL_law_513 rfl (lv_at hl 1 rfl) ?_
  refine lv_iload hx hb dL_law_514 (lv_at hl 5 rfl) ?_
  refine lv_iconst (v := 5) hx hb dL_law_516 (by decide) ?_
  refine lv_iadd hx hb dL_law_517 ?_
  refine lv_toi (y := 5) (by decide) ?_
  refine va_sld hx hb hX hbl hbA hS (by unfold vp_in; decide) dL_law_518 ?_
  refine lv_toi (y := xs 5) (congrArg xs (by decide)) ?_
  refine lv_aload_n hx hb dL_law_519 rfl (lv_at hl 1 rfl) ?_
  refine lv_iload hx hb dL_law_520 (lv_at hl 5 rfl) ?_
  refine lv_bipush (v := 6) hx hb dL_law_522 (by decide) ?_
  refine lv_iadd hx hb dL_law_524 ?_
  refine lv_toi (y := 6) (by decide) ?_
  refine va_sld hx hb hX hbl hbA hS (by unfold vp_in; decide) dL_law_525 ?_
  refine lv_toi (y := xs 6) (congrArg xs (by decide)) ?_
  have hPc := hP.sub (ws' := [(mm, .inr (10, [.ref w, .int 0])), (w, .inr (9, [.int 0, .int 0, .ref b2, .ref b3, .ref b4, .ref b5, .int 0, .ref b7, .ref b8, .ref b9, .ref b10, .ref b11, .ref b12, .int 0, .ref b14, .ref b15, .ref b16, .ref b17, .int 0, .ref b19, .ref b20, .ref b21, .ref b22, .ref b23, .ref b24, .ref b25, .ref b26, .ref b27, .int 0, .ref b29, .ref b30, .ref b31, .ref b32, .ref b33, .ref b34, .ref b35]))]) [0, 1] rfl
  have hDc := hD.sub (ws' := [(mm, .inr (10, [.ref w, .int 0])), (w, .inr (9, [.int 0, .int 0, .ref b2, .ref b3, .ref b4, .ref b5, .int 0, .ref b7, .ref b8, .ref b9, .ref b10, .ref b11, .ref b12, .int 0, .ref b14, .ref b15, .ref b16, .ref b17, .int 0, .ref b19, .ref b20, .ref b21, .ref b22, .ref b23, .ref b24, .ref b25, .ref b26, .ref b27, .int 0, .ref b29, .ref b30, .ref b31, .ref b32, .ref b33, .ref b34, .ref b35]))]) [0, 1] (by decide) rfl
  have hFc := va_free (wc := [(mm, .inr (10, [.ref w, .int 0])), (w, .inr (9, [.int 0, .int 0, .ref b2, .ref b3, .ref b4, .ref b5, .int 0, .ref b7, .ref b8, .ref b9, .ref b10, .ref b11, .ref b12, .int 0, .ref b14, .ref b15, .ref b16, .ref b17, .int 0, .ref b19, .ref b20, .ref b21, .ref b22, .ref b23, .ref b24, .ref b25, .ref b26, .ref b27, .int 0, .ref b29, .ref b30, .ref b31, .ref b32, .ref b33, .ref b34, .ref b35]))]) hD hS hA [0, 1] rfl
  refine va_calli (va_runV (As := [.int (xs 1), .int (xs 2), .int (xs 3), .int (xs 4), .int (xs 5), .int (xs 6)]) (rest := []) ⟨hx, hb, hml, hown, hts⟩ (m_setPolicy l D cI cZ cJ s.heap.size H.size mm 0 w 0 b2 b3 b4 b5 b7 b8 b9 b10 b11 b12 b14 b15 b16 b17 b19 b20 b21 b22 b23 b24 b25 b26 b27 b29 b30 b31 b32 b33 b34 b35 (xs 1) (xs 2) (xs 3) (xs 4) (xs 5) (xs 6)) (cwV 6 hts gL_law_X10_setPolicy rfl rfl rfl (by decide +kernel) ⟨(Nat.le_of_ble_eq_true rfl), (Nat.le_of_ble_eq_true rfl)⟩) ⟨Pre.blind, va_recv hK hP (ci := 10) (q0 := 0) rfl rfl, Pre.mk hPc (hDc.weaken (fun _ _ _ h => hAlo _ h)) hC hS hAlo⟩ rfl rfl hl.1 rfl (lv_room (Nat.le_of_ble_eq_true rfl)) dL_law_526 ⟨(Nat.le_of_ble_eq_true rfl), (Nat.le_of_ble_eq_true rfl)⟩) hS (fun q _ h => hFc q h) hFc (fun r_3 u t H1 locs1 ht hvm e_4 hB hz1 hk1 hS1 => ?_)
  have hS := hS1
  refine W.widen (k := 124) (n := 42914) (by omega) (by omega) ?_
  obtain ⟨hP1, hD1⟩ := hB
  rw [ht] at hP1
  obtain ⟨hP, hD⟩ := va_join (wr := []) (w1 := [(mm, .inr (10, [.ref w, .int 1]))]) hP hD [0, 1] [] rfl rfl (by decide) (by decide) hk1 hFc hP1 hD1
  have e_4 : 0 = r_3 := Eq.symm e_4
  subst e_4
  clear hFc hPc hDc ht hvm hz1 hk1 hS1 hP1 hD1
  generalize H1 = H at hP hS ⊢
  replace hP : va_P D vwCl [(mm, .inr (10, [.ref w, .int 1]))] H := hP
  replace hD : va_D (LA s) [(mm, .inr (10, [.ref w, .int 1]))] := hD
  refine lv_istore (lv' := [(6, .int 0), (5, .int 1), (0, .ref b), (1, .ref g), (2, .ref mm), (3, .ref ou), (4, .int 0)]) hx hb dL_law_529 hl (by decide) rfl (fun ls hl => ?_)
  refine lv_aload_n hx hb dL_law_531 rfl (lv_at hl 4 rfl) ?_
  have hPc := hP.sub (ws' := [(mm, .inr (10, [.ref w, .int 1]))]) [0] rfl
  have hDc := hD.sub (ws' := [(mm, .inr (10, [.ref w, .int 1]))]) [0] (by decide) rfl
  refine vp_callSi (W.runV (As := []) (rest := []) ⟨hx, hb, hml, hown, hts⟩ (c_thrown l D cI cZ cJ s.heap.size H.size mm 1 w) (cwV 0 hts gL_law_X10_thrown rfl rfl rfl (by decide +kernel) ⟨(Nat.le_of_ble_eq_true rfl), (Nat.le_of_ble_eq_true rfl)⟩) ⟨Pre.blind, va_recv hK hP (ci := 10) (q0 := 0) rfl rfl, Pre.mk hPc (hDc.weaken (fun _ _ _ h => hAlo _ h)) hC hS hAlo⟩ rfl rfl hl.1 rfl (lv_room (Nat.le_of_ble_eq_true rfl)) dL_law_532 ⟨(Nat.le_of_ble_eq_true rfl), (Nat.le_of_ble_eq_true rfl)⟩) (fun r_5 e_6 => ?_)
  clear hPc hDc
  have e_6 : 1 = r_5 := Eq.symm e_6
  subst e_6
  refine lv_iload hx hb dL_law_535 (lv_at hl 1 rfl) ?_
  refine lv_icmp_eq (tgt := 542) hx hb dL_law_537 (by decide) (fun _ => ?_) (fun c9 => absurd (show (1 : Int32) = (1 : Int32) from (by decide)) c9)
  refine lv_iload hx hb dL_law_542 (lv_at hl 1 rfl) ?_
  refine lv_if_ne (tgt := 566) hx hb dL_law_544 (by decide) (fun _ => ?_) (fun c9 => absurd c9 (show ¬ (1 : Int32) = (0 : Int32) from (by decide)))
  refine lv_goto (tgt := 2855) hx hb dL_law_566 (by decide) ?_
  refine W.widen (k := 1000) (n := 200000) (Nat.le_of_ble_eq_true rfl) (Nat.le_of_ble_eq_true rfl) ?_
  exact T H _ ls hS (lv_sub hl [2, 6] rfl)

set_option maxHeartbeats 4000000 in
set_option maxRecDepth 100000 in
/-- the law at a call of receive -/
theorem law_receive {p : Program} {l : Launch} {e : Env} {s : State} {m : MethodId} {below : List Frame} {meth : Method} {c : Code} {Q : State → Prop} (hl9 : l.stackTraces = false) (D : va_G) (cI cZ cJ : ClassId) (b : Nat) (xs : Nat → Int32) (C0 : LC s p m c D cI cZ cJ b xs) (g : Nat) (nw : Nat) (la : Nat) (pn : Nat) (aI : Nat) (aS : Nat) (aP : Nat) (aL : Nat) (aO : Nat) (aT : Nat) (aA : Nat) (aQ : Nat) (aI1 : Nat) (aI2 : Nat) (aI3 : Nat) (aI4 : Nat) (mm : Nat) (w : Nat) (b2 : Nat) (b3 : Nat) (b4 : Nat) (b5 : Nat) (b7 : Nat) (b8 : Nat) (b9 : Nat) (b10 : Nat) (b11 : Nat) (b12 : Nat) (b14 : Nat) (b15 : Nat) (b16 : Nat) (b17 : Nat) (b19 : Nat) (b20 : Nat) (b21 : Nat) (b22 : Nat) (b23 : Nat) (b24 : Nat) (b25 : Nat) (b26 : Nat) (b27 : Nat) (b29 : Nat) (b30 : Nat) (b31 : Nat) (b32 : Nat) (b33 : Nat) (b34 : Nat) (b35 : Nat) (ou : Nat) (T : LT p l e s m below meth c b Q) {H : Heap} {locs : List Loc} {ls : Array Slot} (hP : va_P D vwCl [(g, .inr (8, [.ref nw, .ref la, .ref pn])), (nw, .inr (6, [.int 0, .ref aI, .ref aS, .ref aP, .ref aL, .ref aO, .ref aT, .ref aA, .ref aQ])), (aI, .inr (0, [.int 0, .ref aI1, .ref aI2, .ref aI3, .ref aI4])), (mm, .inr (10, [.ref w, .int 0])), (w, .inr (9, [.int 0, .int 0, .ref b2, .ref b3, .ref b4, .ref b5, .int 0, .ref b7, .ref b8, .ref b9, .ref b10, .ref b11, .ref b12, .int 0, .ref b14, .ref b15, .ref b16, .ref b17, .int 0, .ref b19, .ref b20, .ref b21, .ref b22, .ref b23, .ref b24, .ref b25, .ref b26, .ref b27, .int 0, .ref b29, .ref b30, .ref b31, .ref b32, .ref b33, .ref b34, .ref b35]))] H) (hD : va_D (LA s) [(g, .inr (8, [.ref nw, .ref la, .ref pn])), (nw, .inr (6, [.int 0, .ref aI, .ref aS, .ref aP, .ref aL, .ref aO, .ref aT, .ref aA, .ref aQ])), (aI, .inr (0, [.int 0, .ref aI1, .ref aI2, .ref aI3, .ref aI4])), (mm, .inr (10, [.ref w, .int 0])), (w, .inr (9, [.int 0, .int 0, .ref b2, .ref b3, .ref b4, .ref b5, .int 0, .ref b7, .ref b8, .ref b9, .ref b10, .ref b11, .ref b12, .int 0, .ref b14, .ref b15, .ref b16, .ref b17, .int 0, .ref b19, .ref b20, .ref b21, .ref b22, .ref b23, .ref b24, .ref b25, .ref b26, .ref b27, .int 0, .ref b29, .ref b30, .ref b31, .ref b32, .ref b33, .ref b34, .ref b35]))]) (hS : va_S (LA s) s.heap H locs) (hl : lv_has ls 9 [(0, .ref b), (1, .ref g), (2, .ref mm), (3, .ref ou), (4, .int 0)]) : W p l e room_1 s m #[Value.ref b] below meth c H locs 123 42908 Q (F0 m 569 ls []) := by
  obtain ⟨hx, hb, hml, hown, hts, hX, hbl, hC⟩ := C0
  have hK := hC.K
  have hA : ∀ q : Nat, s.heap.size ≤ q → LA s q := fun _ h => h
  have hAlo : ∀ q, LA s q → s.heap.size ≤ q := fun _ h => h
  have hbA : ¬ LA s b := Nat.not_le.mpr hbl
  refine lv_aload_n hx hb dL_law_569 rfl (lv_at hl 1 rfl) ?_
  refine lv_aload_n hx hb dL_law_570 rfl (lv_at hl 0 rfl) ?_
  refine lv_iload hx hb dL_law_571 (lv_at hl 4 rfl) ?_
  refine lv_iconst (v := 1) hx hb dL_law_573 (by decide) ?_
  refine lv_iadd hx hb dL_law_574 ?_
  refine lv_toi (y := 1) (by decide) ?_
  refine va_sld hx hb hX hbl hbA hS (by unfold vp_in; decide) dL_law_575 ?_
  refine lv_toi (y := xs 1) (congrArg xs (by decide)) ?_
  refine lv_aload_n hx hb dL_law_576 rfl (lv_at hl 0 rfl) ?_
  refine lv_iload hx hb dL_law_577 (lv_at hl 4 rfl) ?_
  refine lv_iconst (v := 2) hx hb dL_law_579 (by decide) ?_
  refine lv_iadd hx hb dL_law_580 ?_
  refine lv_toi (y := 2) (by decide) ?_
  refine va_sld hx hb hX hbl hbA hS (by unfold vp_in; decide) dL_law_581 ?_
  refine lv_toi (y := xs 2) (congrArg xs (by decide)) ?_
  refine lv_aload_n hx hb dL_law_582 rfl (lv_at hl 0 rfl) ?_
  refine lv_iload hx hb dL_law_583 (lv_at hl 4 rfl) ?_
  refine lv_iconst (v := 3) hx hb dL_law_585 (by decide) ?_
  refine lv_iadd hx hb dL_law_586 ?_
  refine lv_toi (y := 3) (by decide) ?_
  refine va_sld hx hb hX hbl hbA hS (by unfold vp_in; decide) dL_law_587 ?_
  refine lv_toi (y := xs 3) (congrArg xs (by decide)) ?_
  refine lv_aload_n hx hb dL_law_588 rfl (lv_at hl 0 rfl) ?_
  refine lv_iload hx hb dL_law_589 (lv_at hl 4 rfl) ?_
  refine lv_iconst (v := 4) hx hb dL_law_591 (by decide) ?_
  refine lv_iadd hx hb dL_law_592 ?_
  refine lv_toi (y := 4) (by decide) ?_
  refine va_sld hx hb hX hbl hbA hS (by unfold vp_in; decide) dL_law_593 ?_
  refine lv_toi (y := xs 4) (congrArg xs (by decide)) ?_
  refine lv_aload_n hx hb dL_law_594 rfl (lv_at hl 3 rfl) ?_
  have hPc := hP.sub (ws' := [(g, .inr (8, [.ref nw, .ref la, .ref pn])), (nw, .inr (6, [.int 0, .ref aI, .ref aS, .ref aP, .ref aL, .ref aO, .ref aT, .ref aA, .ref aQ])), (aI, .inr (0, [.int 0, .ref aI1, .ref aI2, .ref aI3, .ref aI4]))]) [0, 1, 2] rfl
  have hDc := hD.sub (ws' := [(g, .inr (8, [.ref nw, .ref la, .ref pn])), (nw, .inr (6, [.int 0, .ref aI, .ref aS, .ref aP, .ref aL, .ref aO, .ref aT, .ref aA, .ref aQ])), (aI, .inr (0, [.int 0, .ref aI1, .ref aI2, .ref aI3, .ref aI4]))]) [0, 1, 2] (by decide) rfl
  have hFc := va_free (wc := [(g, .inr (8, [.ref nw, .ref la, .ref pn])), (nw, .inr (6, [.int 0, .ref aI, .ref aS, .ref aP, .ref aL, .ref aO, .ref aT, .ref aA, .ref aQ])), (aI, .inr (0, [.int 0, .ref aI1, .ref aI2, .ref aI3, .ref aI4]))]) hD hS hA [0, 1, 2] rfl
  refine va_calli (vx_runSW (As := [.ref g, .int (xs 1), .int (xs 2), .int (xs 3), .int (xs 4), .ref ou]) (rest := []) ⟨hx, hb, hml, hown, hts⟩ (h_receive l hl9 D cI cZ cJ s.heap.size H.size g nw la pn 0 aI aS aP aL aO aT aA aQ aI1 aI2 aI3 aI4 (xs 1) (xs 2) (xs 3) (xs 4) ou) (vx_cwSW 6 hts gL_law_L_receive rfl rfl rfl (by decide +kernel) ⟨(Nat.le_of_ble_eq_true rfl), (Nat.le_of_ble_eq_true rfl)⟩) ⟨Pre.blind, Pre.mk hPc (hDc.weaken (fun _ _ _ h => hAlo _ h)) hC hS hAlo⟩ rfl rfl hl.1 rfl (lv_room (Nat.le_of_ble_eq_true rfl)) dL_law_595 ⟨(Nat.le_of_ble_eq_true rfl), (Nat.le_of_ble_eq_true rfl)⟩) hS (fun q _ h => hFc q h) hFc (fun r_1 u t H1 locs1 ht hvm e_2 hB hz1 hk1 hS1 => ?_)
  have hS := hS1
  refine W.widen (k := 124) (n := 42914) (by omega) (by omega) ?_
  obtain ⟨hP, hD⟩ := va_rest (wr := [(mm, .inr (10, [.ref w, .int 0])), (w, .inr (9, [.int 0, .int 0, .ref b2, .ref b3, .ref b4, .ref b5, .int 0, .ref b7, .ref b8, .ref b9, .ref b10, .ref b11, .ref b12, .int 0, .ref b14, .ref b15, .ref b16, .ref b17, .int 0, .ref b19, .ref b20, .ref b21, .ref b22, .ref b23, .ref b24, .ref b25, .ref b26, .ref b27, .int 0, .ref b29, .ref b30, .ref b31, .ref b32, .ref b33, .ref b34, .ref b35]))]) hP hD [0, 1, 2] [3, 4] rfl rfl (by decide) (by decide) hk1 hFc
  have e_2 : 1 = r_1 := Eq.symm e_2
  subst e_2
  clear hFc hPc hDc ht hvm hz1 hk1 hS1 hB
  generalize H1 = H at hP hS ⊢
  replace hP : va_P D vwCl [(mm, .inr (10, [.ref w, .int 0])), (w, .inr (9, [.int 0, .int 0, .ref b2, .ref b3, .ref b4, .ref b5, .int 0, .ref b7, .ref b8, .ref b9, .ref b10, .ref b11, .ref b12, .int 0, .ref b14, .ref b15, .ref b16, .ref b17, .int 0, .ref b19, .ref b20, .ref b21, .ref b22, .ref b23, .ref b24, .ref b25, .ref b26, .ref b27, .int 0, .ref b29, .ref b30, .ref b31, .ref b32, .ref b33, .ref b34, .ref b35]))] H := hP
  replace hD : va_D (LA s) [(mm, .inr (10, [.ref w, .int 0])), (w, .inr (9, [.int 0, .int 0, .ref b2, .ref b3, .ref b4, .ref b5, .int 0, .ref b7, .ref b8, .ref b9, .ref b10, .ref b11, .ref b12, .int 0, .ref b14, .ref b15, .ref b16, .ref b17, .int 0, .ref b19, .ref b20, .ref b21, .ref b22, .ref b23, .ref b24, .ref b25, .ref b26, .ref b27, .int 0, .ref b29, .ref b30, .ref b31, .ref b32, .ref b33, .ref b34, .ref b35]))] := hD
  refine lv_istore (lv' := [(5, .int 1), (0, .ref b), (1, .ref g), (2, .ref mm), (3, .ref ou), (4, .int 0)]) hx hb dL_law_598 hl (by decide) rfl (fun ls hl => ?_)
  refine lv_aload_n hx hb dL_law_600 rfl (lv_at hl 3 rfl) ?_
  refine lv_aload_n hx hb dL_law_601 rfl (lv_at hl 1 rfl) ?_
  refine lv_iload hx hb dL_law_602 (lv_at hl 5 rfl) ?_
  refine lv_iconst (v := 1) hx hb dL_law_604 (by decide) ?_
  refine lv_iadd hx hb dL_law_605 ?_
  refine lv_toi (y := 1) (by decide) ?_
  refine va_sld hx hb hX hbl hbA hS (by unfold vp_in; decide) dL_law_606 ?_
  refine lv_toi (y := xs 1) (congrArg xs (by decide)) ?_
  refine lv_aload_n hx hb dL_law_607 rfl (lv_at hl 1 rfl) ?_
  refine lv_iload hx hb dL_law_608 (lv_at hl 5 rfl) ?_
  refine lv_iconst (v := 2) hx hb dL_law_610 (by decide) ?_
  refine lv_iadd hx hb dL_law_611 ?_
  refine lv_toi (y := 2) (by decide) ?_
  refine va_sld hx hb hX hbl hbA hS (by unfold vp_in; decide) dL_law_612 ?_
  refine lv_toi (y := xs 2) (congrArg xs (by decide)) ?_
  refine lv_aload_n hx hb dL_law_613 rfl (lv_at hl 1 rfl) ?_
  refine lv_iload hx hb dL_law_614 (lv_at hl 5 rfl) ?_
  refine lv_iconst (v := 3) hx hb dL_law_616 (by decide) ?_
  refine lv_iadd hx hb dL_law_617 ?_
  refine lv_toi (y := 3) (by decide) ?_
  refine va_sld hx hb hX hbl hbA hS (by unfold vp_in; decide) dL_law_618 ?_
  refine lv_toi (y := xs 3) (congrArg xs (by decide)) ?_
  refine lv_aload_n hx hb dL_law_619 rfl (lv_at hl 1 rfl) ?_
  refine lv_iload hx hb dL_law_620 (lv_at hl 5 rfl) ?_
  refine lv_iconst (v := 4) hx hb dL_law_622 (by decide) ?_
  refine lv_iadd hx hb dL_law_623 ?_
  refine lv_toi (y := 4) (by decide) ?_
  refine va_sld hx hb hX hbl hbA hS (by unfold vp_in; decide) dL_law_624 ?_
  refine lv_toi (y := xs 4) (congrArg xs (by decide)) ?_
  have hPc := hP.sub (ws' := [(mm, .inr (10, [.ref w, .int 0])), (w, .inr (9, [.int 0, .int 0, .ref b2, .ref b3, .ref b4, .ref b5, .int 0, .ref b7, .ref b8, .ref b9, .ref b10, .ref b11, .ref b12, .int 0, .ref b14, .ref b15, .ref b16, .ref b17, .int 0, .ref b19, .ref b20, .ref b21, .ref b22, .ref b23, .ref b24, .ref b25, .ref b26, .ref b27, .int 0, .ref b29, .ref b30, .ref b31, .ref b32, .ref b33, .ref b34, .ref b35]))]) [0, 1] rfl
  have hDc := hD.sub (ws' := [(mm, .inr (10, [.ref w, .int 0])), (w, .inr (9, [.int 0, .int 0, .ref b2, .ref b3, .ref b4, .ref b5, .int 0, .ref b7, .ref b8, .ref b9, .ref b10, .ref b11, .ref b12, .int 0, .ref b14, .ref b15, .ref b16, .ref b17, .int 0, .ref b19, .ref b20, .ref b21, .ref b22, .ref b23, .ref b24, .ref b25, .ref b26, .ref b27, .int 0, .ref b29, .ref b30, .ref b31, .ref b32, .ref b33, .ref b34, .ref b35]))]) [0, 1] (by decide) rfl
  have hFc := va_free (wc := [(mm, .inr (10, [.ref w, .int 0])), (w, .inr (9, [.int 0, .int 0, .ref b2, .ref b3, .ref b4, .ref b5, .int 0, .ref b7, .ref b8, .ref b9, .ref b10, .ref b11, .ref b12, .int 0, .ref b14, .ref b15, .ref b16, .ref b17, .int 0, .ref b19, .ref b20, .ref b21, .ref b22, .ref b23, .ref b24, .ref b25, .ref b26, .ref b27, .int 0, .ref b29, .ref b30, .ref b31, .ref b32, .ref b33, .ref b34, .ref b35]))]) hD hS hA [0, 1] rfl
  refine va_calli (va_runV (As := [.int (xs 1), .int (xs 2), .int (xs 3), .int (xs 4)]) (rest := []) ⟨hx, hb, hml, hown, hts⟩ (m_receive l D cI cZ cJ s.heap.size H.size mm 0 w 0 b2 b3 b4 b5 b7 b8 b9 b10 b11 b12 b14 b15 b16 b17 b19 b20 b21 b22 b23 b24 b25 b26 b27 b29 b30 b31 b32 b33 b34 b35 (xs 1) (xs 2) (xs 3) (xs 4)) (cwV 4 hts gL_law_X10_receive rfl rfl rfl (by decide +kernel) ⟨(Nat.le_of_ble_eq_true rfl), (Nat.le_of_ble_eq_true rfl)⟩) ⟨Pre.blind, va_recv hK hP (ci := 10) (q0 := 0) rfl rfl, Pre.mk hPc (hDc.weaken (fun _ _ _ h => hAlo _ h)) hC hS hAlo⟩ rfl rfl hl.1 rfl (lv_room (Nat.le_of_ble_eq_true rfl)) dL_law_625 ⟨(Nat.le_of_ble_eq_true rfl), (Nat.le_of_ble_eq_true rfl)⟩) hS (fun q _ h => hFc q h) hFc (fun r_3 u t H1 locs1 ht hvm e_4 hB hz1 hk1 hS1 => ?_)
  have hS := hS1
  refine W.widen (k := 124) (n := 42914) (by omega) (by omega) ?_
  obtain ⟨hP1, hD1⟩ := hB
  rw [ht] at hP1
  obtain ⟨hP, hD⟩ := va_join (wr := []) (w1 := [(mm, .inr (10, [.ref w, .int 1]))]) hP hD [0, 1] [] rfl rfl (by decide) (by decide) hk1 hFc hP1 hD1
  have e_4 : 0 = r_3 := Eq.symm e_4
  subst e_4
  clear hFc hPc hDc ht hvm hz1 hk1 hS1 hP1 hD1
  generalize H1 = H at hP hS ⊢
  replace hP : va_P D vwCl [(mm, .inr (10, [.ref w, .int 1]))] H := hP
  replace hD : va_D (LA s) [(mm, .inr (10, [.ref w, .int 1]))] := hD
  refine lv_istore (lv' := [(6, .int 0), (5, .int 1), (0, .ref b), (1, .ref g), (2, .ref mm), (3, .ref ou), (4, .int 0)]) hx hb dL_law_628 hl (by decide) rfl (fun ls hl => ?_)
  refine lv_aload_n hx hb dL_law_630 rfl (lv_at hl 4 rfl) ?_
  have hPc := hP.sub (ws' := [(mm, .inr (10, [.ref w, .int 1]))]) [0] rfl
  have hDc := hD.sub (ws' := [(mm, .inr (10, [.ref w, .int 1]))]) [0] (by decide) rfl
  refine vp_callSi (W.runV (As := []) (rest := []) ⟨hx, hb, hml, hown, hts⟩ (c_thrown l D cI cZ cJ s.heap.size H.size mm 1 w) (cwV 0 hts gL_law_X10_thrown rfl rfl rfl (by decide +kernel) ⟨(Nat.le_of_ble_eq_true rfl), (Nat.le_of_ble_eq_true rfl)⟩) ⟨Pre.blind, va_recv hK hP (ci := 10) (q0 := 0) rfl rfl, Pre.mk hPc (hDc.weaken (fun _ _ _ h => hAlo _ h)) hC hS hAlo⟩ rfl rfl hl.1 rfl (lv_room (Nat.le_of_ble_eq_true rfl)) dL_law_631 ⟨(Nat.le_of_ble_eq_true rfl), (Nat.le_of_ble_eq_true rfl)⟩) (fun r_5 e_6 => ?_)
  clear hPc hDc
  have e_6 : 1 = r_5 := Eq.symm e_6
  subst e_6
  refine lv_iload hx hb dL_law_634 (lv_at hl 1 rfl) ?_
  refine lv_icmp_eq (tgt := 641) hx hb dL_law_636 (by decide) (fun _ => ?_) (fun c9 => absurd (show (1 : Int32) = (1 : Int32) from (by decide)) c9)
  refine lv_iload hx hb dL_law_641 (lv_at hl 1 rfl) ?_
  refine lv_if_ne (tgt := 658) hx hb dL_law_643 (by decide) (fun _ => ?_) (fun c9 => absurd c9 (show ¬ (1 : Int32) = (0 : Int32) from (by decide)))
  refine lv_goto (tgt := 2855) hx hb dL_law_658 (by decide) ?_
  refine W.widen (k := 1000) (n := 200000) (Nat.le_of_ble_eq_true rfl) (Nat.le_of_ble_eq_true rfl) ?_
  exact T H _ ls hS (lv_sub hl [2, 6] rfl)

set_option maxHeartbeats 4000000 in
set_option maxRecDepth 100000 in
/-- the law at a call of order -/
theorem law_order {p : Program} {l : Launch} {e : Env} {s : State} {m : MethodId} {below : List Frame} {meth : Method} {c : Code} {Q : State → Prop} (hl9 : l.stackTraces = false) (D : va_G) (cI cZ cJ : ClassId) (b : Nat) (xs : Nat → Int32) (C0 : LC s p m c D cI cZ cJ b xs) (g : Nat) (nw : Nat) (la : Nat) (pn : Nat) (aI : Nat) (aS : Nat) (aP : Nat) (aL : Nat) (aO : Nat) (aT : Nat) (aA : Nat) (aQ : Nat) (aI1 : Nat) (aI2 : Nat) (aI3 : Nat) (aI4 : Nat) (mm : Nat) (w : Nat) (b2 : Nat) (b3 : Nat) (b4 : Nat) (b5 : Nat) (b7 : Nat) (b8 : Nat) (b9 : Nat) (b10 : Nat) (b11 : Nat) (b12 : Nat) (b14 : Nat) (b15 : Nat) (b16 : Nat) (b17 : Nat) (b19 : Nat) (b20 : Nat) (b21 : Nat) (b22 : Nat) (b23 : Nat) (b24 : Nat) (b25 : Nat) (b26 : Nat) (b27 : Nat) (b29 : Nat) (b30 : Nat) (b31 : Nat) (b32 : Nat) (b33 : Nat) (b34 : Nat) (b35 : Nat) (ou : Nat) (T : LT p l e s m below meth c b Q) {H : Heap} {locs : List Loc} {ls : Array Slot} (hP : va_P D vwCl [(g, .inr (8, [.ref nw, .ref la, .ref pn])), (nw, .inr (6, [.int 0, .ref aI, .ref aS, .ref aP, .ref aL, .ref aO, .ref aT, .ref aA, .ref aQ])), (aI, .inr (0, [.int 0, .ref aI1, .ref aI2, .ref aI3, .ref aI4])), (mm, .inr (10, [.ref w, .int 0])), (w, .inr (9, [.int 0, .int 0, .ref b2, .ref b3, .ref b4, .ref b5, .int 0, .ref b7, .ref b8, .ref b9, .ref b10, .ref b11, .ref b12, .int 0, .ref b14, .ref b15, .ref b16, .ref b17, .int 0, .ref b19, .ref b20, .ref b21, .ref b22, .ref b23, .ref b24, .ref b25, .ref b26, .ref b27, .int 0, .ref b29, .ref b30, .ref b31, .ref b32, .ref b33, .ref b34, .ref b35]))] H) (hD : va_D (LA s) [(g, .inr (8, [.ref nw, .ref la, .ref pn])), (nw, .inr (6, [.int 0, .ref aI, .ref aS, .ref aP, .ref aL, .ref aO, .ref aT, .ref aA, .ref aQ])), (aI, .inr (0, [.int 0, .ref aI1, .ref aI2, .ref aI3, .ref aI4])), (mm, .inr (10, [.ref w, .int 0])), (w, .inr (9, [.int 0, .int 0, .ref b2, .ref b3, .ref b4, .ref b5, .int 0, .ref b7, .ref b8, .ref b9, .ref b10, .ref b11, .ref b12, .int 0, .ref b14, .ref b15, .ref b16, .ref b17, .int 0, .ref b19, .ref b20, .ref b21, .ref b22, .ref b23, .ref b24, .ref b25, .ref b26, .ref b27, .int 0, .ref b29, .ref b30, .ref b31, .ref b32, .ref b33, .ref b34, .ref b35]))]) (hS : va_S (LA s) s.heap H locs) (hl : lv_has ls 9 [(0, .ref b), (1, .ref g), (2, .ref mm), (3, .ref ou), (4, .int 0)]) : W p l e room_1 s m #[Value.ref b] below meth c H locs 123 42908 Q (F0 m 661 ls []) := by
  obtain ⟨hx, hb, hml, hown, hts, hX, hbl, hC⟩ := C0
  have hK := hC.K
  have hA : ∀ q : Nat, s.heap.size ≤ q → LA s q := fun _ h => h
  have hAlo : ∀ q, LA s q → s.heap.size ≤ q := fun _ h => h
  have hbA : ¬ LA s b := Nat.not_le.mpr hbl
  refine lv_aload_n hx hb dL_law_661 rfl (lv_at hl 1 rfl) ?_
  refine lv_aload_n hx hb dL_law_662 rfl (lv_at hl 0 rfl) ?_
  refine lv_iload hx hb dL_law_663 (lv_at hl 4 rfl) ?_
  refine lv_iconst (v := 1) hx hb dL_law_665 (by decide) ?_
  refine lv_iadd hx hb dL_law_666 ?_
  refine lv_toi (y := 1) (by decide) ?_
  refine va_sld hx hb hX hbl hbA hS (by unfold vp_in; decide) dL_law_667 ?_
  refine lv_toi (y := xs 1) (congrArg xs (by decide)) ?_
  refine lv_aload_n hx hb dL_law_668 rfl (lv_at hl 0 rfl) ?_
  refine lv_iload hx hb dL_law_669 (lv_at hl 4 rfl) ?_
  refine lv_iconst (v := 2) hx hb dL_law_671 (by decide) ?_
  refine lv_iadd hx hb dL_law_672 ?_
  refine lv_toi (y := 2) (by decide) ?_
  refine va_sld hx hb hX hbl hbA hS (by unfold vp_in; decide) dL_law_673 ?_
  refine lv_toi (y := xs 2) (congrArg xs (by decide)) ?_
  refine lv_aload_n hx hb dL_law_674 rfl (lv_at hl 0 rfl) ?_
  refine lv_iload hx hb dL_law_675 (lv_at hl 4 rfl) ?_
  refine lv_iconst (v := 3) hx hb dL_law_677 (by decide) ?_
  refine lv_iadd hx hb dL_law_678 ?_
  refine lv_toi (y := 3) (by decide) ?_
  refine va_sld hx hb hX hbl hbA hS (by unfold vp_in; decide) dL_law_679 ?_
  refine lv_toi (y := xs 3) (congrArg xs (by decide)) ?_
  refine lv_aload_n hx hb dL_law_680 rfl (lv_at hl 0 rfl) ?_
  refine lv_iload hx hb dL_law_681 (lv_at hl 4 rfl) ?_
  refine lv_iconst (v := 4) hx hb dL_law_683 (by decide) ?_
  refine lv_iadd hx hb dL_law_684 ?_
  refine lv_toi (y := 4) (by decide) ?_
  refine va_sld hx hb hX hbl hbA hS (by unfold vp_in; decide) dL_law_685 ?_
  refine lv_toi (y := xs 4) (congrArg xs (by decide)) ?_
  refine lv_aload_n hx hb dL_law_686 rfl (lv_at hl 0 rfl) ?_
  refine lv_iload hx hb dL_law_687 (lv_at hl 4 rfl) ?_
  refine lv_iconst (v := 5) hx hb dL_law_689 (by decide) ?_
  refine lv_iadd hx hb dL_law_690 ?_
  refine lv_toi (y := 5) (by decide) ?_
  refine va_sld hx hb hX hbl hbA hS (by unfold vp_in; decide) dL_law_691 ?_
  refine lv_toi (y := xs 5) (congrArg xs (by decide)) ?_
  refine lv_aload_n hx hb dL_law_692 rfl (lv_at hl 0 rfl) ?_
  refine lv_iload hx hb dL_law_693 (lv_at hl 4 rfl) ?_
  refine lv_bipush (v := 6) hx hb dL_law_695 (by decide) ?_
  refine lv_iadd hx hb dL_law_697 ?_
  refine lv_toi (y := 6) (by decide) ?_
  refine va_sld hx hb hX hbl hbA hS (by unfold vp_in; decide) dL_law_698 ?_
  refine lv_toi (y := xs 6) (congrArg xs (by decide)) ?_
  refine lv_aload_n hx hb dL_law_699 rfl (lv_at hl 3 rfl) ?_
  have hPc := hP.sub (ws' := [(g, .inr (8, [.ref nw, .ref la, .ref pn])), (nw, .inr (6, [.int 0, .ref aI, .ref aS, .ref aP, .ref aL, .ref aO, .ref aT, .ref aA, .ref aQ])), (aI, .inr (0, [.int 0, .ref aI1, .ref aI2, .ref aI3, .ref aI4]))]) [0, 1, 2] rfl
  have hDc := hD.sub (ws' := [(g, .inr (8, [.ref nw, .ref la, .ref pn])), (nw, .inr (6, [.int 0, .ref aI, .ref aS, .ref aP, .ref aL, .ref aO, .ref aT, .ref aA, .ref aQ])), (aI, .inr (0, [.int 0, .ref aI1, .ref aI2, .ref aI3, .ref aI4]))]) [0, 1, 2] (by decide) rfl
  have hFc := va_free (wc := [(g, .inr (8, [.ref nw, .ref la, .ref pn])), (nw, .inr (6, [.int 0, .ref aI, .ref aS, .ref aP, .ref aL, .ref aO, .ref aT, .ref aA, .ref aQ])), (aI, .inr (0, [.int 0, .ref aI1, .ref aI2, .ref aI3, .ref aI4]))]) hD hS hA [0, 1, 2] rfl
  refine va_calli (vx_runSW (As := [.ref g, .int (xs 1), .int (xs 2), .int (xs 3), .int (xs 4), .int (xs 5), .int (xs 6), .ref ou]) (rest := []) ⟨hx, hb, hml, hown, hts⟩ (h_order l hl9 D cI cZ cJ s.heap.size H.size g nw la pn 0 aI aS aP aL aO aT aA aQ aI1 aI2 aI3 aI4 (xs 1) (xs 2) (xs 3) (xs 4) (xs 5) (xs 6) ou) (vx_cwSW 8 hts gL_law_L_order rfl rfl rfl (by decide +kernel) ⟨(Nat.le_of_ble_eq_true rfl), (Nat.le_of_ble_eq_true rfl)⟩) ⟨Pre.blind, Pre.mk hPc (hDc.weaken (fun _ _ _ h => hAlo _ h)) hC hS hAlo⟩ rfl rfl hl.1 rfl (lv_room (Nat.le_of_ble_eq_true rfl)) dL_law_700 ⟨(Nat.le_of_ble_eq_true rfl), (Nat.le_of_ble_eq_true rfl)⟩) hS (fun q _ h => hFc q h) hFc (fun r_1 u t H1 locs1 ht hvm e_2 hB hz1 hk1 hS1 => ?_)
  have hS := hS1
  refine W.widen (k := 124) (n := 42914) (by omega) (by omega) ?_
  obtain ⟨hP, hD⟩ := va_rest (wr := [(mm, .inr (10, [.ref w, .int 0])), (w, .inr (9, [.int 0, .int 0, .ref b2, .ref b3, .ref b4, .ref b5, .int 0, .ref b7, .ref b8, .ref b9, .ref b10, .ref b11, .ref b12, .int 0, .ref b14, .ref b15, .ref b16, .ref b17, .int 0, .ref b19, .ref b20, .ref b21, .ref b22, .ref b23, .ref b24, .ref b25, .ref b26, .ref b27, .int 0, .ref b29, .ref b30, .ref b31, .ref b32, .ref b33, .ref b34, .ref b35]))]) hP hD [0, 1, 2] [3, 4] rfl rfl (by decide) (by decide) hk1 hFc
  have e_2 : 1 = r_1 := Eq.symm e_2
  subst e_2
  clear hFc hPc hDc ht hvm hz1 hk1 hS1 hB
  generalize H1 = H at hP hS ⊢
  replace hP : va_P D vwCl [(mm, .inr (10, [.ref w, .int 0])), (w, .inr (9, [.int 0, .int 0, .ref b2, .ref b3, .ref b4, .ref b5, .int 0, .ref b7, .ref b8, .ref b9, .ref b10, .ref b11, .ref b12, .int 0, .ref b14, .ref b15, .ref b16, .ref b17, .int 0, .ref b19, .ref b20, .ref b21, .ref b22, .ref b23, .ref b24, .ref b25, .ref b26, .ref b27, .int 0, .ref b29, .ref b30, .ref b31, .ref b32, .ref b33, .ref b34, .ref b35]))] H := hP
  replace hD : va_D (LA s) [(mm, .inr (10, [.ref w, .int 0])), (w, .inr (9, [.int 0, .int 0, .ref b2, .ref b3, .ref b4, .ref b5, .int 0, .ref b7, .ref b8, .ref b9, .ref b10, .ref b11, .ref b12, .int 0, .ref b14, .ref b15, .ref b16, .ref b17, .int 0, .ref b19, .ref b20, .ref b21, .ref b22, .ref b23, .ref b24, .ref b25, .ref b26, .ref b27, .int 0, .ref b29, .ref b30, .ref b31, .ref b32, .ref b33, .ref b34, .ref b35]))] := hD
  refine lv_istore (lv' := [(5, .int 1), (0, .ref b), (1, .ref g), (2, .ref mm), (3, .ref ou), (4, .int 0)]) hx hb dL_law_703 hl (by decide) rfl (fun ls hl => ?_)
  refine lv_aload_n hx hb dL_law_705 rfl (lv_at hl 3 rfl) ?_
  refine lv_aload_n hx hb dL_law_706 rfl (lv_at hl 1 rfl) ?_
  refine lv_iload hx hb dL_law_707 (lv_at hl 5 rfl) ?_
  refine lv_iconst (v := 1) hx hb dL_law_709 (by decide) ?_
  refine lv_iadd hx hb dL_law_710 ?_
  refine lv_toi (y := 1) (by decide) ?_
  refine va_sld hx hb hX hbl hbA hS (by unfold vp_in; decide) dL_law_711 ?_
  refine lv_toi (y := xs 1) (congrArg xs (by decide)) ?_
  refine lv_aload_n hx hb dL_law_712 rfl (lv_at hl 1 rfl) ?_
  refine lv_iload hx hb dL_law_713 (lv_at hl 5 rfl) ?_
  refine lv_iconst (v := 2) hx hb dL_law_715 (by decide) ?_
  refine lv_iadd hx hb dL_law_716 ?_
  refine lv_toi (y := 2) (by decide) ?_
  refine va_sld hx hb hX hbl hbA hS (by unfold vp_in; decide) dL_law_717 ?_
  refine lv_toi (y := xs 2) (congrArg xs (by decide)) ?_
  refine lv_aload_n hx hb dL_law_718 rfl (lv_at hl 1 rfl) ?_
  refine lv_iload hx hb dL_law_719 (lv_at hl 5 rfl) ?_
  refine lv_iconst (v := 3) hx hb dL_law_721 (by decide) ?_
  refine lv_iadd hx hb dL_law_722 ?_
  refine lv_toi (y := 3) (by decide) ?_
  refine va_sld hx hb hX hbl hbA hS (by unfold vp_in; decide) dL_law_723 ?_
  refine lv_toi (y := xs 3) (congrArg xs (by decide)) ?_
  refine lv_aload_n hx hb dL_law_724 rfl (lv_at hl 1 rfl) ?_
  refine lv_iload hx hb dL_law_725 (lv_at hl 5 rfl) ?_
  refine lv_iconst (v := 4) hx hb dL_law_727 (by decide) ?_
  refine lv_iadd hx hb dL_law_728 ?_
  refine lv_toi (y := 4) (by decide) ?_
  refine va_sld hx hb hX hbl hbA hS (by unfold vp_in; decide) dL_law_729 ?_
  refine lv_toi (y := xs 4) (congrArg xs (by decide)) ?_
  refine lv_aload_n hx hb dL_law_730 rfl (lv_at hl 1 rfl) ?_
  refine lv_iload hx hb dL_law_731 (lv_at hl 5 rfl) ?_
  refine lv_iconst (v := 5) hx hb dL_law_733 (by decide) ?_
  refine lv_iadd hx hb dL_law_734 ?_
  refine lv_toi (y := 5) (by decide) ?_
  refine va_sld hx hb hX hbl hbA hS (by unfold vp_in; decide) dL_law_735 ?_
  refine lv_toi (y := xs 5) (congrArg xs (by decide)) ?_
  refine lv_aload_n hx hb dL_law_736 rfl (lv_at hl 1 rfl) ?_
  refine lv_iload hx hb dL_law_737 (lv_at hl 5 rfl) ?_
  refine lv_bipush (v := 6) hx hb dL_law_739 (by decide) ?_
  refine lv_iadd hx hb dL_law_741 ?_
  refine lv_toi (y := 6) (by decide) ?_
  refine va_sld hx hb hX hbl hbA hS (by unfold vp_in; decide) dL_law_742 ?_
  refine lv_toi (y := xs 6) (congrArg xs (by decide)) ?_
  have hPc := hP.sub (ws' := [(mm, .inr (10, [.ref w, .int 0])), (w, .inr (9, [.int 0, .int 0, .ref b2, .ref b3, .ref b4, .ref b5, .int 0, .ref b7, .ref b8, .ref b9, .ref b10, .ref b11, .ref b12, .int 0, .ref b14, .ref b15, .ref b16, .ref b17, .int 0, .ref b19, .ref b20, .ref b21, .ref b22, .ref b23, .ref b24, .ref b25, .ref b26, .ref b27, .int 0, .ref b29, .ref b30, .ref b31, .ref b32, .ref b33, .ref b34, .ref b35]))]) [0, 1] rfl
  have hDc := hD.sub (ws' := [(mm, .inr (10, [.ref w, .int 0])), (w, .inr (9, [.int 0, .int 0, .ref b2, .ref b3, .ref b4, .ref b5, .int 0, .ref b7, .ref b8, .ref b9, .ref b10, .ref b11, .ref b12, .int 0, .ref b14, .ref b15, .ref b16, .ref b17, .int 0, .ref b19, .ref b20, .ref b21, .ref b22, .ref b23, .ref b24, .ref b25, .ref b26, .ref b27, .int 0, .ref b29, .ref b30, .ref b31, .ref b32, .ref b33, .ref b34, .ref b35]))]) [0, 1] (by decide) rfl
  have hFc := va_free (wc := [(mm, .inr (10, [.ref w, .int 0])), (w, .inr (9, [.int 0, .int 0, .ref b2, .ref b3, .ref b4, .ref b5, .int 0, .ref b7, .ref b8, .ref b9, .ref b10, .ref b11, .ref b12, .int 0, .ref b14, .ref b15, .ref b16, .ref b17, .int 0, .ref b19, .ref b20, .ref b21, .ref b22, .ref b23, .ref b24, .ref b25, .ref b26, .ref b27, .int 0, .ref b29, .ref b30, .ref b31, .ref b32, .ref b33, .ref b34, .ref b35]))]) hD hS hA [0, 1] rfl
  refine va_calli (va_runV (As := [.int (xs 1), .int (xs 2), .int (xs 3), .int (xs 4), .int (xs 5), .int (xs 6)]) (rest := []) ⟨hx, hb, hml, hown, hts⟩ (m_order l D cI cZ cJ s.heap.size H.size mm 0 w 0 b2 b3 b4 b5 b7 b8 b9 b10 b11 b12 b14 b15 b16 b17 b19 b20 b21 b22 b23 b24 b25 b26 b27 b29 b30 b31 b32 b33 b34 b35 (xs 1) (xs 2) (xs 3) (xs 4) (xs 5) (xs 6)) (cwV 6 hts gL_law_X10_order rfl rfl rfl (by decide +kernel) ⟨(Nat.le_of_ble_eq_true rfl), (Nat.le_of_ble_eq_true rfl)⟩) ⟨Pre.blind, va_recv hK hP (ci := 10) (q0 := 0) rfl rfl, Pre.mk hPc (hDc.weaken (fun _ _ _ h => hAlo _ h)) hC hS hAlo⟩ rfl rfl hl.1 rfl (lv_room (Nat.le_of_ble_eq_true rfl)) dL_law_743 ⟨(Nat.le_of_ble_eq_true rfl), (Nat.le_of_ble_eq_true rfl)⟩) hS (fun q _ h => hFc q h) hFc (fun r_3 u t H1 locs1 ht hvm e_4 hB hz1 hk1 hS1 => ?_)
  have hS := hS1
  refine W.widen (k := 124) (n := 42914) (by omega) (by omega) ?_
  obtain ⟨hP1, hD1⟩ := hB
  rw [ht] at hP1
  obtain ⟨hP, hD⟩ := va_join (wr := []) (w1 := [(mm, .inr (10, [.ref w, .int 1]))]) hP hD [0, 1] [] rfl rfl (by decide) (by decide) hk1 hFc hP1 hD1
  have e_4 : 0 = r_3 := Eq.symm e_4
  subst e_4
  clear hFc hPc hDc ht hvm hz1 hk1 hS1 hP1 hD1
  generalize H1 = H at hP hS ⊢
  replace hP : va_P D vwCl [(mm, .inr (10, [.ref w, .int 1]))] H := hP
  replace hD : va_D (LA s) [(mm, .inr (10, [.ref w, .int 1]))] := hD
  refine lv_istore (lv' := [(6, .int 0), (5, .int 1), (0, .ref b), (1, .ref g), (2, .ref mm), (3, .ref ou), (4, .int 0)]) hx hb dL_law_746 hl (by decide) rfl (fun ls hl => ?_)
  refine lv_aload_n hx hb dL_law_748 rfl (lv_at hl 4 rfl) ?_
  have hPc := hP.sub (ws' := [(mm, .inr (10, [.ref w, .int 1]))]) [0] rfl
  have hDc := hD.sub (ws' := [(mm, .inr (10, [.ref w, .int 1]))]) [0] (by decide) rfl
  refine vp_callSi (W.runV (As := []) (rest := []) ⟨hx, hb, hml, hown, hts⟩ (c_thrown l D cI cZ cJ s.heap.size H.size mm 1 w) (cwV 0 hts gL_law_X10_thrown rfl rfl rfl (by decide +kernel) ⟨(Nat.le_of_ble_eq_true rfl), (Nat.le_of_ble_eq_true rfl)⟩) ⟨Pre.blind, va_recv hK hP (ci := 10) (q0 := 0) rfl rfl, Pre.mk hPc (hDc.weaken (fun _ _ _ h => hAlo _ h)) hC hS hAlo⟩ rfl rfl hl.1 rfl (lv_room (Nat.le_of_ble_eq_true rfl)) dL_law_749 ⟨(Nat.le_of_ble_eq_true rfl), (Nat.le_of_ble_eq_true rfl)⟩) (fun r_5 e_6 => ?_)
  clear hPc hDc
  have e_6 : 1 = r_5 := Eq.symm e_6
  subst e_6
  refine lv_iload hx hb dL_law_752 (lv_at hl 1 rfl) ?_
  refine lv_icmp_eq (tgt := 759) hx hb dL_law_754 (by decide) (fun _ => ?_) (fun c9 => absurd (show (1 : Int32) = (1 : Int32) from (by decide)) c9)
  refine lv_iload hx hb dL_law_759 (lv_at hl 1 rfl) ?_
  refine lv_if_ne (tgt := 776) hx hb dL_law_761 (by decide) (fun _ => ?_) (fun c9 => absurd c9 (show ¬ (1 : Int32) = (0 : Int32) from (by decide)))
  refine lv_goto (tgt := 2855) hx hb dL_law_776 (by decide) ?_
  refine W.widen (k := 1000) (n := 200000) (Nat.le_of_ble_eq_true rfl) (Nat.le_of_ble_eq_true rfl) ?_
  exact T H _ ls hS (lv_sub hl [2, 6] rfl)

set_option maxHeartbeats 4000000 in
set_option maxRecDepth 100000 in
/-- the law at a call of cancel -/
theorem law_cancel {p : Program} {l : Launch} {e : Env} {s : State} {m : MethodId} {below : List Frame} {meth : Method} {c : Code} {Q : State → Prop} (hl9 : l.stackTraces = false) (D : va_G) (cI cZ cJ : ClassId) (b : Nat) (xs : Nat → Int32) (C0 : LC s p m c D cI cZ cJ b xs) (g : Nat) (nw : Nat) (la : Nat) (pn : Nat) (aI : Nat) (aS : Nat) (aP : Nat) (aL : Nat) (aO : Nat) (aT : Nat) (aA : Nat) (aQ : Nat) (aO1 : Nat) (aO2 : Nat) (aO3 : Nat) (aO4 : Nat) (aO5 : Nat) (aO6 : Nat) (aO7 : Nat) (aO8 : Nat) (aO9 : Nat) (aO10 : Nat) (mm : Nat) (w : Nat) (b2 : Nat) (b3 : Nat) (b4 : Nat) (b5 : Nat) (b7 : Nat) (b8 : Nat) (b9 : Nat) (b10 : Nat) (b11 : Nat) (b12 : Nat) (b14 : Nat) (b15 : Nat) (b16 : Nat) (b17 : Nat) (b19 : Nat) (b20 : Nat) (b21 : Nat) (b22 : Nat) (b23 : Nat) (b24 : Nat) (b25 : Nat) (b26 : Nat) (b27 : Nat) (b29 : Nat) (b30 : Nat) (b31 : Nat) (b32 : Nat) (b33 : Nat) (b34 : Nat) (b35 : Nat) (ou : Nat) (T : LT p l e s m below meth c b Q) {H : Heap} {locs : List Loc} {ls : Array Slot} (hP : va_P D vwCl [(g, .inr (8, [.ref nw, .ref la, .ref pn])), (nw, .inr (6, [.int 0, .ref aI, .ref aS, .ref aP, .ref aL, .ref aO, .ref aT, .ref aA, .ref aQ])), (aO, .inr (2, [.int 0, .ref aO1, .ref aO2, .ref aO3, .ref aO4, .ref aO5, .ref aO6, .ref aO7, .ref aO8, .ref aO9, .ref aO10])), (mm, .inr (10, [.ref w, .int 0])), (w, .inr (9, [.int 0, .int 0, .ref b2, .ref b3, .ref b4, .ref b5, .int 0, .ref b7, .ref b8, .ref b9, .ref b10, .ref b11, .ref b12, .int 0, .ref b14, .ref b15, .ref b16, .ref b17, .int 0, .ref b19, .ref b20, .ref b21, .ref b22, .ref b23, .ref b24, .ref b25, .ref b26, .ref b27, .int 0, .ref b29, .ref b30, .ref b31, .ref b32, .ref b33, .ref b34, .ref b35]))] H) (hD : va_D (LA s) [(g, .inr (8, [.ref nw, .ref la, .ref pn])), (nw, .inr (6, [.int 0, .ref aI, .ref aS, .ref aP, .ref aL, .ref aO, .ref aT, .ref aA, .ref aQ])), (aO, .inr (2, [.int 0, .ref aO1, .ref aO2, .ref aO3, .ref aO4, .ref aO5, .ref aO6, .ref aO7, .ref aO8, .ref aO9, .ref aO10])), (mm, .inr (10, [.ref w, .int 0])), (w, .inr (9, [.int 0, .int 0, .ref b2, .ref b3, .ref b4, .ref b5, .int 0, .ref b7, .ref b8, .ref b9, .ref b10, .ref b11, .ref b12, .int 0, .ref b14, .ref b15, .ref b16, .ref b17, .int 0, .ref b19, .ref b20, .ref b21, .ref b22, .ref b23, .ref b24, .ref b25, .ref b26, .ref b27, .int 0, .ref b29, .ref b30, .ref b31, .ref b32, .ref b33, .ref b34, .ref b35]))]) (hS : va_S (LA s) s.heap H locs) (hl : lv_has ls 9 [(0, .ref b), (1, .ref g), (2, .ref mm), (3, .ref ou), (4, .int 0)]) : W p l e room_1 s m #[Value.ref b] below meth c H locs 123 42908 Q (F0 m 779 ls []) := by
  obtain ⟨hx, hb, hml, hown, hts, hX, hbl, hC⟩ := C0
  have hK := hC.K
  have hA : ∀ q : Nat, s.heap.size ≤ q → LA s q := fun _ h => h
  have hAlo : ∀ q, LA s q → s.heap.size ≤ q := fun _ h => h
  have hbA : ¬ LA s b := Nat.not_le.mpr hbl
  refine lv_aload_n hx hb dL_law_779 rfl (lv_at hl 1 rfl) ?_
  refine lv_aload_n hx hb dL_law_780 rfl (lv_at hl 0 rfl) ?_
  refine lv_iload hx hb dL_law_781 (lv_at hl 4 rfl) ?_
  refine lv_iconst (v := 1) hx hb dL_law_783 (by decide) ?_
  refine lv_iadd hx hb dL_law_784 ?_
  refine lv_toi (y := 1) (by decide) ?_
  refine va_sld hx hb hX hbl hbA hS (by unfold vp_in; decide) dL_law_785 ?_
  refine lv_toi (y := xs 1) (congrArg xs (by decide)) ?_
  refine lv_aload_n hx hb dL_law_786 rfl (lv_at hl 3 rfl) ?_
  have hPc := hP.sub (ws' := [(g, .inr (8, [.ref nw, .ref la, .ref pn])), (nw, .inr (6, [.int 0, .ref aI, .ref aS, .ref aP, .ref aL, .ref aO, .ref aT, .ref aA, .ref aQ])), (aO, .inr (2, [.int 0, .ref aO1, .ref aO2, .ref aO3, .ref aO4, .ref aO5, .ref aO6, .ref aO7, .ref aO8, .ref aO9, .ref aO10]))]) [0, 1, 2] rfl
  have hDc := hD.sub (ws' := [(g, .inr (8, [.ref nw, .ref la, .ref pn])), (nw, .inr (6, [.int 0, .ref aI, .ref aS, .ref aP, .ref aL, .ref aO, .ref aT, .ref aA, .ref aQ])), (aO, .inr (2, [.int 0, .ref aO1, .ref aO2, .ref aO3, .ref aO4, .ref aO5, .ref aO6, .ref aO7, .ref aO8, .ref aO9, .ref aO10]))]) [0, 1, 2] (by decide) rfl
  have hFc := va_free (wc := [(g, .inr (8, [.ref nw, .ref la, .ref pn])), (nw, .inr (6, [.int 0, .ref aI, .ref aS, .ref aP, .ref aL, .ref aO, .ref aT, .ref aA, .ref aQ])), (aO, .inr (2, [.int 0, .ref aO1, .ref aO2, .ref aO3, .ref aO4, .ref aO5, .ref aO6, .ref aO7, .ref aO8, .ref aO9, .ref aO10]))]) hD hS hA [0, 1, 2] rfl
  refine va_calli (vx_runSW (As := [.ref g, .int (xs 1), .ref ou]) (rest := []) ⟨hx, hb, hml, hown, hts⟩ (h_cancel l hl9 D cI cZ cJ s.heap.size H.size g nw la pn 0 aI aS aP aL aO aT aA aQ aO1 aO2 aO3 aO4 aO5 aO6 aO7 aO8 aO9 aO10 (xs 1) ou) (vx_cwSW 3 hts gL_law_L_cancel rfl rfl rfl (by decide +kernel) ⟨(Nat.le_of_ble_eq_true rfl), (Nat.le_of_ble_eq_true rfl)⟩) ⟨Pre.blind, Pre.mk hPc (hDc.weaken (fun _ _ _ h => hAlo _ h)) hC hS hAlo⟩ rfl rfl hl.1 rfl (lv_room (Nat.le_of_ble_eq_true rfl)) dL_law_787 ⟨(Nat.le_of_ble_eq_true rfl), (Nat.le_of_ble_eq_true rfl)⟩) hS (fun q _ h => hFc q h) hFc (fun r_1 u t H1 locs1 ht hvm e_2 hB hz1 hk1 hS1 => ?_)
  have hS := hS1
  refine W.widen (k := 124) (n := 42914) (by omega) (by omega) ?_
  obtain ⟨hP, hD⟩ := va_rest (wr := [(mm, .inr (10, [.ref w, .int 0])), (w, .inr (9, [.int 0, .int 0, .ref b2, .ref b3, .ref b4, .ref b5, .int 0, .ref b7, .ref b8, .ref b9, .ref b10, .ref b11, .ref b12, .int 0, .ref b14, .ref b15, .ref b16, .ref b17, .int 0, .ref b19, .ref b20, .ref b21, .ref b22, .ref b23, .ref b24, .ref b25, .ref b26, .ref b27, .int 0, .ref b29, .ref b30, .ref b31, .ref b32, .ref b33, .ref b34, .ref b35]))]) hP hD [0, 1, 2] [3, 4] rfl rfl (by decide) (by decide) hk1 hFc
  have e_2 : 1 = r_1 := Eq.symm e_2
  subst e_2
  clear hFc hPc hDc ht hvm hz1 hk1 hS1 hB
  generalize H1 = H at hP hS ⊢
  replace hP : va_P D vwCl [(mm, .inr (10, [.ref w, .int 0])), (w, .inr (9, [.int 0, .int 0, .ref b2, .ref b3, .ref b4, .ref b5, .int 0, .ref b7, .ref b8, .ref b9, .ref b10, .ref b11, .ref b12, .int 0, .ref b14, .ref b15, .ref b16, .ref b17, .int 0, .ref b19, .ref b20, .ref b21, .ref b22, .ref b23, .ref b24, .ref b25, .ref b26, .ref b27, .int 0, .ref b29, .ref b30, .ref b31, .ref b32, .ref b33, .ref b34, .ref b35]))] H := hP
  replace hD : va_D (LA s) [(mm, .inr (10, [.ref w, .int 0])), (w, .inr (9, [.int 0, .int 0, .ref b2, .ref b3, .ref b4, .ref b5, .int 0, .ref b7, .ref b8, .ref b9, .ref b10, .ref b11, .ref b12, .int 0, .ref b14, .ref b15, .ref b16, .ref b17, .int 0, .ref b19, .ref b20, .ref b21, .ref b22, .ref b23, .ref b24, .ref b25, .ref b26, .ref b27, .int 0, .ref b29, .ref b30, .ref b31, .ref b32, .ref b33, .ref b34, .ref b35]))] := hD
  refine lv_istore (lv' := [(5, .int 1), (0, .ref b), (1, .ref g), (2, .ref mm), (3, .ref ou), (4, .int 0)]) hx hb dL_law_790 hl (by decide) rfl (fun ls hl => ?_)
  refine lv_aload_n hx hb dL_law_792 rfl (lv_at hl 3 rfl) ?_
  refine lv_aload_n hx hb dL_law_793 rfl (lv_at hl 1 rfl) ?_
  refine lv_iload hx hb dL_law_794 (lv_at hl 5 rfl) ?_
  refine lv_iconst (v := 1) hx hb dL_law_796 (by decide) ?_
  refine lv_iadd hx hb dL_law_797 ?_
  refine lv_toi (y := 1) (by decide) ?_
  refine va_sld hx hb hX hbl hbA hS (by unfold vp_in; decide) dL_law_798 ?_
  refine lv_toi (y := xs 1) (congrArg xs (by decide)) ?_
  have hPc := hP.sub (ws' := [(mm, .inr (10, [.ref w, .int 0])), (w, .inr (9, [.int 0, .int 0, .ref b2, .ref b3, .ref b4, .ref b5, .int 0, .ref b7, .ref b8, .ref b9, .ref b10, .ref b11, .ref b12, .int 0, .ref b14, .ref b15, .ref b16, .ref b17, .int 0, .ref b19, .ref b20, .ref b21, .ref b22, .ref b23, .ref b24, .ref b25, .ref b26, .ref b27, .int 0, .ref b29, .ref b30, .ref b31, .ref b32, .ref b33, .ref b34, .ref b35]))]) [0, 1] rfl
  have hDc := hD.sub (ws' := [(mm, .inr (10, [.ref w, .int 0])), (w, .inr (9, [.int 0, .int 0, .ref b2, .ref b3, .ref b4, .ref b5, .int 0, .ref b7, .ref b8, .ref b9, .ref b10, .ref b11, .ref b12, .int 0, .ref b14, .ref b15, .ref b16, .ref b17, .int 0, .ref b19, .ref b20, .ref b21, .ref b22, .ref b23, .ref b24, .ref b25, .ref b26, .ref b27, .int 0, .ref b29, .ref b30, .ref b31, .ref b32, .ref b33, .ref b34, .ref b35]))]) [0, 1] (by decide) rfl
  have hFc := va_free (wc := [(mm, .inr (10, [.ref w, .int 0])), (w, .inr (9, [.int 0, .int 0, .ref b2, .ref b3, .ref b4, .ref b5, .int 0, .ref b7, .ref b8, .ref b9, .ref b10, .ref b11, .ref b12, .int 0, .ref b14, .ref b15, .ref b16, .ref b17, .int 0, .ref b19, .ref b20, .ref b21, .ref b22, .ref b23, .ref b24, .ref b25, .ref b26, .ref b27, .int 0, .ref b29, .ref b30, .ref b31, .ref b32, .ref b33, .ref b34, .ref b35]))]) hD hS hA [0, 1] rfl
  refine va_calli (va_runV (As := [.int (xs 1)]) (rest := []) ⟨hx, hb, hml, hown, hts⟩ (m_cancel l D cI cZ cJ s.heap.size H.size mm 0 w 0 b2 b3 b4 b5 b7 b8 b9 b10 b11 b12 b14 b15 b16 b17 b19 b20 b21 b22 b23 b24 b25 b26 b27 b29 b30 b31 b32 b33 b34 b35 (xs 1)) (cwV 1 hts gL_law_X10_cancel rfl rfl rfl (by decide +kernel) ⟨(Nat.le_of_ble_eq_true rfl), (Nat.le_of_ble_eq_true rfl)⟩) ⟨Pre.blind, va_recv hK hP (ci := 10) (q0 := 0) rfl rfl, Pre.mk hPc (hDc.weaken (fun _ _ _ h => hAlo _ h)) hC hS hAlo⟩ rfl rfl hl.1 rfl (lv_room (Nat.le_of_ble_eq_true rfl)) dL_law_799 ⟨(Nat.le_of_ble_eq_true rfl), (Nat.le_of_ble_eq_true rfl)⟩) hS (fun q _ h => hFc q h) hFc (fun r_3 u t H1 locs1 ht hvm e_4 hB hz1 hk1 hS1 => ?_)
  have hS := hS1
  refine W.widen (k := 124) (n := 42914) (by omega) (by omega) ?_
  obtain ⟨hP1, hD1⟩ := hB
  rw [ht] at hP1
  obtain ⟨hP, hD⟩ := va_join (wr := []) (w1 := [(mm, .inr (10, [.ref w, .int 1]))]) hP hD [0, 1] [] rfl rfl (by decide) (by decide) hk1 hFc hP1 hD1
  have e_4 : 0 = r_3 := Eq.symm e_4
  subst e_4
  clear hFc hPc hDc ht hvm hz1 hk1 hS1 hP1 hD1
  generalize H1 = H at hP hS ⊢
  replace hP : va_P D vwCl [(mm, .inr (10, [.ref w, .int 1]))] H := hP
  replace hD : va_D (LA s) [(mm, .inr (10, [.ref w, .int 1]))] := hD
  refine lv_istore (lv' := [(6, .int 0), (5, .int 1), (0, .ref b), (1, .ref g), (2, .ref mm), (3, .ref ou), (4, .int 0)]) hx hb dL_law_802 hl (by decide) rfl (fun ls hl => ?_)
  refine lv_aload_n hx hb dL_law_804 rfl (lv_at hl 4 rfl) ?_
  have hPc := hP.sub (ws' := [(mm, .inr (10, [.ref w, .int 1]))]) [0] rfl
  have hDc := hD.sub (ws' := [(mm, .inr (10, [.ref w, .int 1]))]) [0] (by decide) rfl
  refine vp_callSi (W.runV (As := []) (rest := []) ⟨hx, hb, hml, hown, hts⟩ (c_thrown l D cI cZ cJ s.heap.size H.size mm 1 w) (cwV 0 hts gL_law_X10_thrown rfl rfl rfl (by decide +kernel) ⟨(Nat.le_of_ble_eq_true rfl), (Nat.le_of_ble_eq_true rfl)⟩) ⟨Pre.blind, va_recv hK hP (ci := 10) (q0 := 0) rfl rfl, Pre.mk hPc (hDc.weaken (fun _ _ _ h => hAlo _ h)) hC hS hAlo⟩ rfl rfl hl.1 rfl (lv_room (Nat.le_of_ble_eq_true rfl)) dL_law_805 ⟨(Nat.le_of_ble_eq_true rfl), (Nat.le_of_ble_eq_true rfl)⟩) (fun r_5 e_6 => ?_)
  clear hPc hDc
  have e_6 : 1 = r_5 := Eq.symm e_6
  subst e_6
  refine lv_iload hx hb dL_law_808 (lv_at hl 1 rfl) ?_
  refine lv_icmp_eq (tgt := 815) hx hb dL_law_810 (by decide) (fun _ => ?_) (fun c9 => absurd (show (1 : Int32) = (1 : Int32) from (by decide)) c9)
  refine lv_iload hx hb dL_law_815 (lv_at hl 1 rfl) ?_
  refine lv_if_ne (tgt := 832) hx hb dL_law_817 (by decide) (fun _ => ?_) (fun c9 => absurd c9 (show ¬ (1 : Int32) = (0 : Int32) from (by decide)))
  refine lv_goto (tgt := 2855) hx hb dL_law_832 (by decide) ?_
  refine W.widen (k := 1000) (n := 200000) (Nat.le_of_ble_eq_true rfl) (Nat.le_of_ble_eq_true rfl) ?_
  exact T H _ ls hS (lv_sub hl [2, 6] rfl)

set_option maxHeartbeats 4000000 in
set_option maxRecDepth 100000 in
/-- the law at a call of reserveAnew -/
theorem law_reserveAnew {p : Program} {l : Launch} {e : Env} {s : State} {m : MethodId} {below : List Frame} {meth : Method} {c : Code} {Q : State → Prop} (hl9 : l.stackTraces = false) (D : va_G) (cI cZ cJ : ClassId) (b : Nat) (xs : Nat → Int32) (C0 : LC s p m c D cI cZ cJ b xs) (g : Nat) (nw : Nat) (la : Nat) (pn : Nat) (aI : Nat) (aS : Nat) (aP : Nat) (aL : Nat) (aO : Nat) (aT : Nat) (aA : Nat) (aQ : Nat) (aO1 : Nat) (aO2 : Nat) (aO3 : Nat) (aO4 : Nat) (aO5 : Nat) (aO6 : Nat) (aO7 : Nat) (aO8 : Nat) (aO9 : Nat) (aO10 : Nat) (mm : Nat) (w : Nat) (b2 : Nat) (b3 : Nat) (b4 : Nat) (b5 : Nat) (b7 : Nat) (b8 : Nat) (b9 : Nat) (b10 : Nat) (b11 : Nat) (b12 : Nat) (b14 : Nat) (b15 : Nat) (b16 : Nat) (b17 : Nat) (b19 : Nat) (b20 : Nat) (b21 : Nat) (b22 : Nat) (b23 : Nat) (b24 : Nat) (b25 : Nat) (b26 : Nat) (b27 : Nat) (b29 : Nat) (b30 : Nat) (b31 : Nat) (b32 : Nat) (b33 : Nat) (b34 : Nat) (b35 : Nat) (ou : Nat) (T : LT p l e s m below meth c b Q) {H : Heap} {locs : List Loc} {ls : Array Slot} (hP : va_P D vwCl [(g, .inr (8, [.ref nw, .ref la, .ref pn])), (nw, .inr (6, [.int 0, .ref aI, .ref aS, .ref aP, .ref aL, .ref aO, .ref aT, .ref aA, .ref aQ])), (aO, .inr (2, [.int 0, .ref aO1, .ref aO2, .ref aO3, .ref aO4, .ref aO5, .ref aO6, .ref aO7, .ref aO8, .ref aO9, .ref aO10])), (mm, .inr (10, [.ref w, .int 0])), (w, .inr (9, [.int 0, .int 0, .ref b2, .ref b3, .ref b4, .ref b5, .int 0, .ref b7, .ref b8, .ref b9, .ref b10, .ref b11, .ref b12, .int 0, .ref b14, .ref b15, .ref b16, .ref b17, .int 0, .ref b19, .ref b20, .ref b21, .ref b22, .ref b23, .ref b24, .ref b25, .ref b26, .ref b27, .int 0, .ref b29, .ref b30, .ref b31, .ref b32, .ref b33, .ref b34, .ref b35]))] H) (hD : va_D (LA s) [(g, .inr (8, [.ref nw, .ref la, .ref pn])), (nw, .inr (6, [.int 0, .ref aI, .ref aS, .ref aP, .ref aL, .ref aO, .ref aT, .ref aA, .ref aQ])), (aO, .inr (2, [.int 0, .ref aO1, .ref aO2, .ref aO3, .ref aO4, .ref aO5, .ref aO6, .ref aO7, .ref aO8, .ref aO9, .ref aO10])), (mm, .inr (10, [.ref w, .int 0])), (w, .inr (9, [.int 0, .int 0, .ref b2, .ref b3, .ref b4, .ref b5, .int 0, .ref b7, .ref b8, .ref b9, .ref b10, .ref b11, .ref b12, .int 0, .ref b14, .ref b15, .ref b16, .ref b17, .int 0, .ref b19, .ref b20, .ref b21, .ref b22, .ref b23, .ref b24, .ref b25, .ref b26, .ref b27, .int 0, .ref b29, .ref b30, .ref b31, .ref b32, .ref b33, .ref b34, .ref b35]))]) (hS : va_S (LA s) s.heap H locs) (hl : lv_has ls 9 [(0, .ref b), (1, .ref g), (2, .ref mm), (3, .ref ou), (4, .int 0)]) : W p l e room_1 s m #[Value.ref b] below meth c H locs 123 42908 Q (F0 m 835 ls []) := by
  obtain ⟨hx, hb, hml, hown, hts, hX, hbl, hC⟩ := C0
  have hK := hC.K
  have hA : ∀ q : Nat, s.heap.size ≤ q → LA s q := fun _ h => h
  have hAlo : ∀ q, LA s q → s.heap.size ≤ q := fun _ h => h
  have hbA : ¬ LA s b := Nat.not_le.mpr hbl
  refine lv_aload_n hx hb dL_law_835 rfl (lv_at hl 1 rfl) ?_
  have hPc := hP.sub (ws' := [(g, .inr (8, [.ref nw, .ref la, .ref pn])), (nw, .inr (6, [.int 0, .ref aI, .ref aS, .ref aP, .ref aL, .ref aO, .ref aT, .ref aA, .ref aQ])), (aO, .inr (2, [.int 0, .ref aO1, .ref aO2, .ref aO3, .ref aO4, .ref aO5, .ref aO6, .ref aO7, .ref aO8, .ref aO9, .ref aO10]))]) [0, 1, 2] rfl
  have hDc := hD.sub (ws' := [(g, .inr (8, [.ref nw, .ref la, .ref pn])), (nw, .inr (6, [.int 0, .ref aI, .ref aS, .ref aP, .ref aL, .ref aO, .ref aT, .ref aA, .ref aQ])), (aO, .inr (2, [.int 0, .ref aO1, .ref aO2, .ref aO3, .ref aO4, .ref aO5, .ref aO6, .ref aO7, .ref aO8, .ref aO9, .ref aO10]))]) [0, 1, 2] (by decide) rfl
  refine vp_callSi (W.runV (As := []) (rest := []) ⟨hx, hb, hml, hown, hts⟩ (c_reserveAnew l D cI cZ cJ s.heap.size H.size g nw la pn 0 aI aS aP aL aO aT aA aQ aO1 aO2 aO3 aO4 aO5 aO6 aO7 aO8 aO9 aO10) (cwV 0 hts gL_law_X8_reserveAnew rfl rfl rfl (by decide +kernel) ⟨(Nat.le_of_ble_eq_true rfl), (Nat.le_of_ble_eq_true rfl)⟩) ⟨Pre.blind, va_recv hK hP (ci := 8) (q0 := 0) rfl rfl, Pre.mk hPc (hDc.weaken (fun _ _ _ h => hAlo _ h)) hC hS hAlo⟩ rfl rfl hl.1 rfl (lv_room (Nat.le_of_ble_eq_true rfl)) dL_law_836 ⟨(Nat.le_of_ble_eq_true rfl), (Nat.le_of_ble_eq_true rfl)⟩) (fun r_1 e_2 => ?_)
  clear hPc hDc
  have e_2 : 0 = r_1 := Eq.symm e_2
  subst e_2
  refine lv_aload_n hx hb dL_law_839 rfl (lv_at hl 2 rfl) ?_
  have hPc := hP.sub (ws' := [(mm, .inr (10, [.ref w, .int 0])), (w, .inr (9, [.int 0, .int 0, .ref b2, .ref b3, .ref b4, .ref b5, .int 0, .ref b7, .ref b8, .ref b9, .ref b10, .ref b11, .ref b12, .int 0, .ref b14, .ref b15, .ref b16, .ref b17, .int 0, .ref b19, .ref b20, .ref b21, .ref b22, .ref b23, .ref b24, .ref b25, .ref b26, .ref b27, .int 0, .ref b29, .ref b30, .ref b31, .ref b32, .ref b33, .ref b34, .ref b35]))]) [3, 4] rfl
  have hDc := hD.sub (ws' := [(mm, .inr (10, [.ref w, .int 0])), (w, .inr (9, [.int 0, .int 0, .ref b2, .ref b3, .ref b4, .ref b5, .int 0, .ref b7, .ref b8, .ref b9, .ref b10, .ref b11, .ref b12, .int 0, .ref b14, .ref b15, .ref b16, .ref b17, .int 0, .ref b19, .ref b20, .ref b21, .ref b22, .ref b23, .ref b24, .ref b25, .ref b26, .ref b27, .int 0, .ref b29, .ref b30, .ref b31, .ref b32, .ref b33, .ref b34, .ref b35]))]) [3, 4] (by decide) rfl
  have hFc := va_free (wc := [(mm, .inr (10, [.ref w, .int 0])), (w, .inr (9, [.int 0, .int 0, .ref b2, .ref b3, .ref b4, .ref b5, .int 0, .ref b7, .ref b8, .ref b9, .ref b10, .ref b11, .ref b12, .int 0, .ref b14, .ref b15, .ref b16, .ref b17, .int 0, .ref b19, .ref b20, .ref b21, .ref b22, .ref b23, .ref b24, .ref b25, .ref b26, .ref b27, .int 0, .ref b29, .ref b30, .ref b31, .ref b32, .ref b33, .ref b34, .ref b35]))]) hD hS hA [3, 4] rfl
  refine va_calli (va_runV (As := []) (rest := [.int 0]) ⟨hx, hb, hml, hown, hts⟩ (m_reserveAnew l D cI cZ cJ s.heap.size H.size mm 0 w 0 b2 b3 b4 b5 b7 b8 b9 b10 b11 b12 b14 b15 b16 b17 b19 b20 b21 b22 b23 b24 b25 b26 b27 b29 b30 b31 b32 b33 b34 b35) (cwV 0 hts gL_law_X10_reserveAnew rfl rfl rfl (by decide +kernel) ⟨(Nat.le_of_ble_eq_true rfl), (Nat.le_of_ble_eq_true rfl)⟩) ⟨Pre.blind, va_recv hK hP (ci := 10) (q0 := 3) rfl rfl, Pre.mk hPc (hDc.weaken (fun _ _ _ h => hAlo _ h)) hC hS hAlo⟩ rfl rfl hl.1 rfl (lv_room (Nat.le_of_ble_eq_true rfl)) dL_law_840 ⟨(Nat.le_of_ble_eq_true rfl), (Nat.le_of_ble_eq_true rfl)⟩) hS (fun q _ h => hFc q h) hFc (fun r_3 u t H1 locs1 ht hvm e_4 hB hz1 hk1 hS1 => ?_)
  have hS := hS1
  refine W.widen (k := 124) (n := 42908) (by omega) (by omega) ?_
  obtain ⟨hP, hD⟩ := va_rest (wr := [(g, .inr (8, [.ref nw, .ref la, .ref pn])), (nw, .inr (6, [.int 0, .ref aI, .ref aS, .ref aP, .ref aL, .ref aO, .ref aT, .ref aA, .ref aQ])), (aO, .inr (2, [.int 0, .ref aO1, .ref aO2, .ref aO3, .ref aO4, .ref aO5, .ref aO6, .ref aO7, .ref aO8, .ref aO9, .ref aO10]))]) hP hD [3, 4] [0, 1, 2] rfl rfl (by decide) (by decide) hk1 hFc
  have e_4 : 0 = r_3 := Eq.symm e_4
  subst e_4
  clear hFc hPc hDc ht hvm hz1 hk1 hS1 hB
  generalize H1 = H at hP hS ⊢
  replace hP : va_P D vwCl [(g, .inr (8, [.ref nw, .ref la, .ref pn])), (nw, .inr (6, [.int 0, .ref aI, .ref aS, .ref aP, .ref aL, .ref aO, .ref aT, .ref aA, .ref aQ])), (aO, .inr (2, [.int 0, .ref aO1, .ref aO2, .ref aO3, .ref aO4, .ref aO5, .ref aO6, .ref aO7, .ref aO8, .ref aO9, .ref aO10]))] H := hP
  replace hD : va_D (LA s) [(g, .inr (8, [.ref nw, .ref la, .ref pn])), (nw, .inr (6, [.int 0, .ref aI, .ref aS, .ref aP, .ref aL, .ref aO, .ref aT, .ref aA, .ref aQ])), (aO, .inr (2, [.int 0, .ref aO1, .ref aO2, .ref aO3, .ref aO4, .ref aO5, .ref aO6, .ref aO7, .ref aO8, .ref aO9, .ref aO10]))] := hD
  refine lv_icmp_eq (tgt := 2855) hx hb dL_law_843 (by decide) (fun _ => ?_) (fun c9 => absurd (show (0 : Int32) = (0 : Int32) from (by decide)) c9)
  refine W.widen (k := 1000) (n := 200000) (Nat.le_of_ble_eq_true rfl) (Nat.le_of_ble_eq_true rfl) ?_
  exact T H _ ls hS (lv_sub hl [0, 4] rfl)

set_option maxHeartbeats 4000000 in
set_option maxRecDepth 100000 in
/-- the law at a call of ship -/
theorem law_ship {p : Program} {l : Launch} {e : Env} {s : State} {m : MethodId} {below : List Frame} {meth : Method} {c : Code} {Q : State → Prop} (hl9 : l.stackTraces = false) (D : va_G) (cI cZ cJ : ClassId) (b : Nat) (xs : Nat → Int32) (C0 : LC s p m c D cI cZ cJ b xs) (g : Nat) (nw : Nat) (la : Nat) (pn : Nat) (aI : Nat) (aS : Nat) (aP : Nat) (aL : Nat) (aO : Nat) (aT : Nat) (aA : Nat) (aQ : Nat) (aO1 : Nat) (aO2 : Nat) (aO3 : Nat) (aO4 : Nat) (aO5 : Nat) (aO6 : Nat) (aO7 : Nat) (aO8 : Nat) (aO9 : Nat) (aO10 : Nat) (mm : Nat) (w : Nat) (b2 : Nat) (b3 : Nat) (b4 : Nat) (b5 : Nat) (b7 : Nat) (b8 : Nat) (b9 : Nat) (b10 : Nat) (b11 : Nat) (b12 : Nat) (b14 : Nat) (b15 : Nat) (b16 : Nat) (b17 : Nat) (b19 : Nat) (b20 : Nat) (b21 : Nat) (b22 : Nat) (b23 : Nat) (b24 : Nat) (b25 : Nat) (b26 : Nat) (b27 : Nat) (b29 : Nat) (b30 : Nat) (b31 : Nat) (b32 : Nat) (b33 : Nat) (b34 : Nat) (b35 : Nat) (ou : Nat) (T : LT p l e s m below meth c b Q) {H : Heap} {locs : List Loc} {ls : Array Slot} (hP : va_P D vwCl [(g, .inr (8, [.ref nw, .ref la, .ref pn])), (nw, .inr (6, [.int 0, .ref aI, .ref aS, .ref aP, .ref aL, .ref aO, .ref aT, .ref aA, .ref aQ])), (aO, .inr (2, [.int 0, .ref aO1, .ref aO2, .ref aO3, .ref aO4, .ref aO5, .ref aO6, .ref aO7, .ref aO8, .ref aO9, .ref aO10])), (mm, .inr (10, [.ref w, .int 0])), (w, .inr (9, [.int 0, .int 0, .ref b2, .ref b3, .ref b4, .ref b5, .int 0, .ref b7, .ref b8, .ref b9, .ref b10, .ref b11, .ref b12, .int 0, .ref b14, .ref b15, .ref b16, .ref b17, .int 0, .ref b19, .ref b20, .ref b21, .ref b22, .ref b23, .ref b24, .ref b25, .ref b26, .ref b27, .int 0, .ref b29, .ref b30, .ref b31, .ref b32, .ref b33, .ref b34, .ref b35]))] H) (hD : va_D (LA s) [(g, .inr (8, [.ref nw, .ref la, .ref pn])), (nw, .inr (6, [.int 0, .ref aI, .ref aS, .ref aP, .ref aL, .ref aO, .ref aT, .ref aA, .ref aQ])), (aO, .inr (2, [.int 0, .ref aO1, .ref aO2, .ref aO3, .ref aO4, .ref aO5, .ref aO6, .ref aO7, .ref aO8, .ref aO9, .ref aO10])), (mm, .inr (10, [.ref w, .int 0])), (w, .inr (9, [.int 0, .int 0, .ref b2, .ref b3, .ref b4, .ref b5, .int 0, .ref b7, .ref b8, .ref b9, .ref b10, .ref b11, .ref b12, .int 0, .ref b14, .ref b15, .ref b16, .ref b17, .int 0, .ref b19, .ref b20, .ref b21, .ref b22, .ref b23, .ref b24, .ref b25, .ref b26, .ref b27, .int 0, .ref b29, .ref b30, .ref b31, .ref b32, .ref b33, .ref b34, .ref b35]))]) (hS : va_S (LA s) s.heap H locs) (hl : lv_has ls 9 [(0, .ref b), (1, .ref g), (2, .ref mm), (3, .ref ou), (4, .int 0)]) : W p l e room_1 s m #[Value.ref b] below meth c H locs 123 42908 Q (F0 m 848 ls []) := by
  obtain ⟨hx, hb, hml, hown, hts, hX, hbl, hC⟩ := C0
  have hK := hC.K
  have hA : ∀ q : Nat, s.heap.size ≤ q → LA s q := fun _ h => h
  have hAlo : ∀ q, LA s q → s.heap.size ≤ q := fun _ h => h
  have hbA : ¬ LA s b := Nat.not_le.mpr hbl
  refine lv_aload_n hx hb dL_law_848 rfl (lv_at hl 1 rfl) ?_
  refine lv_aload_n hx hb dL_law_849 rfl (lv_at hl 0 rfl) ?_
  refine lv_iload hx hb dL_law_850 (lv_at hl 4 rfl) ?_
  refine lv_iconst (v := 1) hx hb dL_law_852 (by decide) ?_
  refine lv_iadd hx hb dL_law_853 ?_
  refine lv_toi (y := 1) (by decide) ?_
  refine va_sld hx hb hX hbl hbA hS (by unfold vp_in; decide) dL_law_854 ?_
  refine lv_toi (y := xs 1) (congrArg xs (by decide)) ?_
  refine lv_aload_n hx hb dL_law_855 rfl (lv_at hl 3 rfl) ?_
  have hPc := hP.sub (ws' := [(g, .inr (8, [.ref nw, .ref la, .ref pn])), (nw, .inr (6, [.int 0, .ref aI, .ref aS, .ref aP, .ref aL, .ref aO, .ref aT, .ref aA, .ref aQ])), (aO, .inr (2, [.int 0, .ref aO1, .ref aO2, .ref aO3, .ref aO4, .ref aO5, .ref aO6, .ref aO7, .ref aO8, .ref aO9, .ref aO10]))]) [0, 1, 2] rfl
  have hDc := hD.sub (ws' := [(g, .inr (8, [.ref nw, .ref la, .ref pn])), (nw, .inr (6, [.int 0, .ref aI, .ref aS, .ref aP, .ref aL, .ref aO, .ref aT, .ref aA, .ref aQ])), (aO, .inr (2, [.int 0, .ref aO1, .ref aO2, .ref aO3, .ref aO4, .ref aO5, .ref aO6, .ref aO7, .ref aO8, .ref aO9, .ref aO10]))]) [0, 1, 2] (by decide) rfl
  have hFc := va_free (wc := [(g, .inr (8, [.ref nw, .ref la, .ref pn])), (nw, .inr (6, [.int 0, .ref aI, .ref aS, .ref aP, .ref aL, .ref aO, .ref aT, .ref aA, .ref aQ])), (aO, .inr (2, [.int 0, .ref aO1, .ref aO2, .ref aO3, .ref aO4, .ref aO5, .ref aO6, .ref aO7, .ref aO8, .ref aO9, .ref aO10]))]) hD hS hA [0, 1, 2] rfl
  refine va_calli (vx_runSW (As := [.ref g, .int (xs 1), .ref ou]) (rest := []) ⟨hx, hb, hml, hown, hts⟩ (h_ship l hl9 D cI cZ cJ s.heap.size H.size g nw la pn 0 aI aS aP aL aO aT aA aQ aO1 aO2 aO3 aO4 aO5 aO6 aO7 aO8 aO9 aO10 (xs 1) ou) (vx_cwSW 3 hts gL_law_L_ship rfl rfl rfl (by decide +kernel) ⟨(Nat.le_of_ble_eq_true rfl), (Nat.le_of_ble_eq_true rfl)⟩) ⟨Pre.blind, Pre.mk hPc (hDc.weaken (fun _ _ _ h => hAlo _ h)) hC hS hAlo⟩ rfl rfl hl.1 rfl (lv_room (Nat.le_of_ble_eq_true rfl)) dL_law_856 ⟨(Nat.le_of_ble_eq_true rfl), (Nat.le_of_ble_eq_true rfl)⟩) hS (fun q _ h => hFc q h) hFc (fun r_1 u t H1 locs1 ht hvm e_2 hB hz1 hk1 hS1 => ?_)
  have hS := hS1
  refine W.widen (k := 124) (n := 42914) (by omega) (by omega) ?_
  obtain ⟨hP, hD⟩ := va_rest (wr := [(mm, .inr (10, [.ref w, .int 0])), (w, .inr (9, [.int 0, .int 0, .ref b2, .ref b3, .ref b4, .ref b5, .int 0, .ref b7, .ref b8, .ref b9, .ref b10, .ref b11, .ref b12, .int 0, .ref b14, .ref b15, .ref b16, .ref b17, .int 0, .ref b19, .ref b20, .ref b21, .ref b22, .ref b23, .ref b24, .ref b25, .ref b26, .ref b27, .int 0, .ref b29, .ref b30, .ref b31, .ref b32, .ref b33, .ref b34, .ref b35]))]) hP hD [0, 1, 2] [3, 4] rfl rfl (by decide) (by decide) hk1 hFc
  have e_2 : 1 = r_1 := Eq.symm e_2
  subst e_2
  clear hFc hPc hDc ht hvm hz1 hk1 hS1 hB
  generalize H1 = H at hP hS ⊢
  replace hP : va_P D vwCl [(mm, .inr (10, [.ref w, .int 0])), (w, .inr (9, [.int 0, .int 0, .ref b2, .ref b3, .ref b4, .ref b5, .int 0, .ref b7, .ref b8, .ref b9, .ref b10, .ref b11, .ref b12, .int 0, .ref b14, .ref b15, .ref b16, .ref b17, .int 0, .ref b19, .ref b20, .ref b21, .ref b22, .ref b23, .ref b24, .ref b25, .ref b26, .ref b27, .int 0, .ref b29, .ref b30, .ref b31, .ref b32, .ref b33, .ref b34, .ref b35]))] H := hP
  replace hD : va_D (LA s) [(mm, .inr (10, [.ref w, .int 0])), (w, .inr (9, [.int 0, .int 0, .ref b2, .ref b3, .ref b4, .ref b5, .int 0, .ref b7, .ref b8, .ref b9, .ref b10, .ref b11, .ref b12, .int 0, .ref b14, .ref b15, .ref b16, .ref b17, .int 0, .ref b19, .ref b20, .ref b21, .ref b22, .ref b23, .ref b24, .ref b25, .ref b26, .ref b27, .int 0, .ref b29, .ref b30, .ref b31, .ref b32, .ref b33, .ref b34, .ref b35]))] := hD
  refine lv_istore (lv' := [(5, .int 1), (0, .ref b), (1, .ref g), (2, .ref mm), (3, .ref ou), (4, .int 0)]) hx hb dL_law_859 hl (by decide) rfl (fun ls hl => ?_)
  refine lv_aload_n hx hb dL_law_861 rfl (lv_at hl 3 rfl) ?_
  refine lv_aload_n hx hb dL_law_862 rfl (lv_at hl 1 rfl) ?_
  refine lv_iload hx hb dL_law_863 (lv_at hl 5 rfl) ?_
  refine lv_iconst (v := 1) hx hb dL_law_865 (by decide) ?_
  refine lv_iadd hx hb dL_law_866 ?_
  refine lv_toi (y := 1) (by decide) ?_
  refine va_sld hx hb hX hbl hbA hS (by unfold vp_in; decide) dL_law_867 ?_
  refine lv_toi (y := xs 1) (congrArg xs (by decide)) ?_
  have hPc := hP.sub (ws' := [(mm, .inr (10, [.ref w, .int 0])), (w, .inr (9, [.int 0, .int 0, .ref b2, .ref b3, .ref b4, .ref b5, .int 0, .ref b7, .ref b8, .ref b9, .ref b10, .ref b11, .ref b12, .int 0, .ref b14, .ref b15, .ref b16, .ref b17, .int 0, .ref b19, .ref b20, .ref b21, .ref b22, .ref b23, .ref b24, .ref b25, .ref b26, .ref b27, .int 0, .ref b29, .ref b30, .ref b31, .ref b32, .ref b33, .ref b34, .ref b35]))]) [0, 1] rfl
  have hDc := hD.sub (ws' := [(mm, .inr (10, [.ref w, .int 0])), (w, .inr (9, [.int 0, .int 0, .ref b2, .ref b3, .ref b4, .ref b5, .int 0, .ref b7, .ref b8, .ref b9, .ref b10, .ref b11, .ref b12, .int 0, .ref b14, .ref b15, .ref b16, .ref b17, .int 0, .ref b19, .ref b20, .ref b21, .ref b22, .ref b23, .ref b24, .ref b25, .ref b26, .ref b27, .int 0, .ref b29, .ref b30, .ref b31, .ref b32, .ref b33, .ref b34, .ref b35]))]) [0, 1] (by decide) rfl
  have hFc := va_free (wc := [(mm, .inr (10, [.ref w, .int 0])), (w, .inr (9, [.int 0, .int 0, .ref b2, .ref b3, .ref b4, .ref b5, .int 0, .ref b7, .ref b8, .ref b9, .ref b10, .ref b11, .ref b12, .int 0, .ref b14, .ref b15, .ref b16, .ref b17, .int 0, .ref b19, .ref b20, .ref b21, .ref b22, .ref b23, .ref b24, .ref b25, .ref b26, .ref b27, .int 0, .ref b29, .ref b30, .ref b31, .ref b32, .ref b33, .ref b34, .ref b35]))]) hD hS hA [0, 1] rfl
  refine va_calli (va_runV (As := [.int (xs 1)]) (rest := []) ⟨hx, hb, hml, hown, hts⟩ (m_ship l D cI cZ cJ s.heap.size H.size mm 0 w 0 b2 b3 b4 b5 b7 b8 b9 b10 b11 b12 b14 b15 b16 b17 b19 b20 b21 b22 b23 b24 b25 b26 b27 b29 b30 b31 b32 b33 b34 b35 (xs 1)) (cwV 1 hts gL_law_X10_ship rfl rfl rfl (by decide +kernel) ⟨(Nat.le_of_ble_eq_true rfl), (Nat.le_of_ble_eq_true rfl)⟩) ⟨Pre.blind, va_recv hK hP (ci := 10) (q0 := 0) rfl rfl, Pre.mk hPc (hDc.weaken (fun _ _ _ h => hAlo _ h)) hC hS hAlo⟩ rfl rfl hl.1 rfl (lv_room (Nat.le_of_ble_eq_true rfl)) dL_law_868 ⟨(Nat.le_of_ble_eq_true rfl), (Nat.le_of_ble_eq_true rfl)⟩) hS (fun q _ h => hFc q h) hFc (fun r_3 u t H1 locs1 ht hvm e_4 hB hz1 hk1 hS1 => ?_)
  have hS := hS1
  refine W.widen (k := 124) (n := 42914) (by omega) (by omega) ?_
  obtain ⟨hP1, hD1⟩ := hB
  rw [ht] at hP1
  obtain ⟨hP, hD⟩ := va_join (wr := []) (w1 := [(mm, .inr (10, [.ref w, .int 1]))]) hP hD [0, 1] [] rfl rfl (by decide) (by decide) hk1 hFc hP1 hD1
  have e_4 : 0 = r_3 := Eq.symm e_4
  subst e_4
  clear hFc hPc hDc ht hvm hz1 hk1 hS1 hP1 hD1
  generalize H1 = H at hP hS ⊢
  replace hP : va_P D vwCl [(mm, .inr (10, [.ref w, .int 1]))] H := hP
  replace hD : va_D (LA s) [(mm, .inr (10, [.ref w, .int 1]))] := hD
  refine lv_istore (lv' := [(6, .int 0), (5, .int 1), (0, .ref b), (1, .ref g), (2, .ref mm), (3, .ref ou), (4, .int 0)]) hx hb dL_law_871 hl (by decide) rfl (fun ls hl => ?_)
  refine lv_aload_n hx hb dL_law_873 rfl (lv_at hl 4 rfl) ?_
  have hPc := hP.sub (ws' := [(mm, .inr (10, [.ref w, .int 1]))]) [0] rfl
  have hDc := hD.sub (ws' := [(mm, .inr (10, [.ref w, .int 1]))]) [0] (by decide) rfl
  refine vp_callSi (W.runV (As := []) (rest := []) ⟨hx, hb, hml, hown, hts⟩ (c_thrown l D cI cZ cJ s.heap.size H.size mm 1 w) (cwV 0 hts gL_law_X10_thrown rfl rfl rfl (by decide +kernel) ⟨(Nat.le_of_ble_eq_true rfl), (Nat.le_of_ble_eq_true rfl)⟩) ⟨Pre.blind, va_recv hK hP (ci := 10) (q0 := 0) rfl rfl, Pre.mk hPc (hDc.weaken (fun _ _ _ h => hAlo _ h)) hC hS hAlo⟩ rfl rfl hl.1 rfl (lv_room (Nat.le_of_ble_eq_true rfl)) dL_law_874 ⟨(Nat.le_of_ble_eq_true rfl), (Nat.le_of_ble_eq_true rfl)⟩) (fun r_5 e_6 => ?_)
  clear hPc hDc
  have e_6 : 1 = r_5 := Eq.symm e_6
  subst e_6
  refine lv_iload hx hb dL_law_877 (lv_at hl 1 rfl) ?_
  refine lv_icmp_eq (tgt := 884) hx hb dL_law_879 (by decide) (fun _ => ?_) (fun c9 => absurd (show (1 : Int32) = (1 : Int32) from (by decide)) c9)
  refine lv_iload hx hb dL_law_884 (lv_at hl 1 rfl) ?_
  refine lv_if_ne (tgt := 901) hx hb dL_law_886 (by decide) (fun _ => ?_) (fun c9 => absurd c9 (show ¬ (1 : Int32) = (0 : Int32) from (by decide)))
  refine lv_goto (tgt := 2855) hx hb dL_law_901 (by decide) ?_
  refine W.widen (k := 1000) (n := 200000) (Nat.le_of_ble_eq_true rfl) (Nat.le_of_ble_eq_true rfl) ?_
  exact T H _ ls hS (lv_sub hl [2, 6] rfl)

set_option maxHeartbeats 4000000 in
set_option maxRecDepth 100000 in
/-- the law at a call of pass -/
theorem law_pass {p : Program} {l : Launch} {e : Env} {s : State} {m : MethodId} {below : List Frame} {meth : Method} {c : Code} {Q : State → Prop} (hl9 : l.stackTraces = false) (D : va_G) (cI cZ cJ : ClassId) (b : Nat) (xs : Nat → Int32) (C0 : LC s p m c D cI cZ cJ b xs) (g : Nat) (nw : Nat) (la : Nat) (pn : Nat) (aI : Nat) (aS : Nat) (aP : Nat) (aL : Nat) (aO : Nat) (aT : Nat) (aA : Nat) (aQ : Nat) (aI1 : Nat) (aI2 : Nat) (aI3 : Nat) (aI4 : Nat) (aS1 : Nat) (aS2 : Nat) (aL1 : Nat) (aL2 : Nat) (aL3 : Nat) (aL4 : Nat) (aL5 : Nat) (aO1 : Nat) (aO2 : Nat) (aO3 : Nat) (aO4 : Nat) (aO5 : Nat) (aO6 : Nat) (aO7 : Nat) (aO8 : Nat) (aO9 : Nat) (aO10 : Nat) (aT1 : Nat) (aT2 : Nat) (aT3 : Nat) (aT4 : Nat) (aT5 : Nat) (aT6 : Nat) (ou : Nat) (mm : Nat) (w : Nat) (b2 : Nat) (b3 : Nat) (b4 : Nat) (b5 : Nat) (b7 : Nat) (b8 : Nat) (b9 : Nat) (b10 : Nat) (b11 : Nat) (b12 : Nat) (b14 : Nat) (b15 : Nat) (b16 : Nat) (b17 : Nat) (b19 : Nat) (b20 : Nat) (b21 : Nat) (b22 : Nat) (b23 : Nat) (b24 : Nat) (b25 : Nat) (b26 : Nat) (b27 : Nat) (b29 : Nat) (b30 : Nat) (b31 : Nat) (b32 : Nat) (b33 : Nat) (b34 : Nat) (b35 : Nat) (T : LT p l e s m below meth c b Q) {H : Heap} {locs : List Loc} {ls : Array Slot} (hP : va_P D vwCl [(g, .inr (8, [.ref nw, .ref la, .ref pn])), (nw, .inr (6, [.int 0, .ref aI, .ref aS, .ref aP, .ref aL, .ref aO, .ref aT, .ref aA, .ref aQ])), (aI, .inr (0, [.int 0, .ref aI1, .ref aI2, .ref aI3, .ref aI4])), (aS, .inr (5, [.int 0, .ref aS1, .ref aS2])), (aL, .inr (1, [.int 0, .ref aL1, .ref aL2, .ref aL3, .ref aL4, .ref aL5])), (aO, .inr (2, [.int 0, .ref aO1, .ref aO2, .ref aO3, .ref aO4, .ref aO5, .ref aO6, .ref aO7, .ref aO8, .ref aO9, .ref aO10])), (aT, .inr (7, [.int 0, .ref aT1, .ref aT2, .ref aT3, .ref aT4, .ref aT5, .ref aT6])), (ou, .inl (cJ, 1, .inr (.inl (fun _ => 0)))), (mm, .inr (10, [.ref w, .int 0])), (w, .inr (9, [.int 0, .int 0, .ref b2, .ref b3, .ref b4, .ref b5, .int 0, .ref b7, .ref b8, .ref b9, .ref b10, .ref b11, .ref b12, .int 0, .ref b14, .ref b15, .ref b16, .ref b17, .int 0, .ref b19, .ref b20, .ref b21, .ref b22, .ref b23, .ref b24, .ref b25, .ref b26, .ref b27, .int 0, .ref b29, .ref b30, .ref b31, .ref b32, .ref b33, .ref b34, .ref b35])), (b35, .inl (cI, 5, .inl (fun _ => 0)))] H) (hD : va_D (LA s) [(g, .inr (8, [.ref nw, .ref la, .ref pn])), (nw, .inr (6, [.int 0, .ref aI, .ref aS, .ref aP, .ref aL, .ref aO, .ref aT, .ref aA, .ref aQ])), (aI, .inr (0, [.int 0, .ref aI1, .ref aI2, .ref aI3, .ref aI4])), (aS, .inr (5, [.int 0, .ref aS1, .ref aS2])), (aL, .inr (1, [.int 0, .ref aL1, .ref aL2, .ref aL3, .ref aL4, .ref aL5])), (aO, .inr (2, [.int 0, .ref aO1, .ref aO2, .ref aO3, .ref aO4, .ref aO5, .ref aO6, .ref aO7, .ref aO8, .ref aO9, .ref aO10])), (aT, .inr (7, [.int 0, .ref aT1, .ref aT2, .ref aT3, .ref aT4, .ref aT5, .ref aT6])), (ou, .inl (cJ, 1, .inr (.inl (fun _ => 0)))), (mm, .inr (10, [.ref w, .int 0])), (w, .inr (9, [.int 0, .int 0, .ref b2, .ref b3, .ref b4, .ref b5, .int 0, .ref b7, .ref b8, .ref b9, .ref b10, .ref b11, .ref b12, .int 0, .ref b14, .ref b15, .ref b16, .ref b17, .int 0, .ref b19, .ref b20, .ref b21, .ref b22, .ref b23, .ref b24, .ref b25, .ref b26, .ref b27, .int 0, .ref b29, .ref b30, .ref b31, .ref b32, .ref b33, .ref b34, .ref b35])), (b35, .inl (cI, 5, .inl (fun _ => 0)))]) (hS : va_S (LA s) s.heap H locs) (hl : lv_has ls 9 [(0, .ref b), (1, .ref g), (2, .ref mm), (3, .ref ou), (4, .int 0)]) : W p l e room_1 s m #[Value.ref b] below meth c H locs 123 42908 Q (F0 m 904 ls []) := by
  obtain ⟨hx, hb, hml, hown, hts, hX, hbl, hC⟩ := C0
  have hK := hC.K
  have hA : ∀ q : Nat, s.heap.size ≤ q → LA s q := fun _ h => h
  have hAlo : ∀ q, LA s q → s.heap.size ≤ q := fun _ h => h
  have hbA : ¬ LA s b := Nat.not_le.mpr hbl
  refine lv_aload_n hx hb dL_law_904 rfl (lv_at hl 1 rfl) ?_
  refine lv_aload_n hx hb dL_law_905 rfl (lv_at hl 0 rfl) ?_
  refine lv_iload hx hb dL_law_906 (lv_at hl 4 rfl) ?_
  refine lv_iconst (v := 1) hx hb dL_law_908 (by decide) ?_
  refine lv_iadd hx hb dL_law_909 ?_
  refine lv_toi (y := 1) (by decide) ?_
  refine va_sld hx hb hX hbl hbA hS (by unfold vp_in; decide) dL_law_910 ?_
  refine lv_toi (y := xs 1) (congrArg xs (by decide)) ?_
  refine lv_aload_n hx hb dL_law_911 rfl (lv_at hl 3 rfl) ?_
  have hPc := hP.sub (ws' := [(g, .inr (8, [.ref nw, .ref la, .ref pn])), (nw, .inr (6, [.int 0, .ref aI, .ref aS, .ref aP, .ref aL, .ref aO, .ref aT, .ref aA, .ref aQ])), (aI, .inr (0, [.int 0, .ref aI1, .ref aI2, .ref aI3, .ref aI4])), (aS, .inr (5, [.int 0, .ref aS1, .ref aS2])), (aL, .inr (1, [.int 0, .ref aL1, .ref aL2, .ref aL3, .ref aL4, .ref aL5])), (aO, .inr (2, [.int 0, .ref aO1, .ref aO2, .ref aO3, .ref aO4, .ref aO5, .ref aO6, .ref aO7, .ref aO8, .ref aO9, .ref aO10])), (aT, .inr (7, [.int 0, .ref aT1, .ref aT2, .ref aT3, .ref aT4, .ref aT5, .ref aT6])), (ou, .inl (cJ, 1, .inr (.inl (fun _ => 0))))]) [0, 1, 2, 3, 4, 5, 6, 7] rfl
  have hDc := hD.sub (ws' := [(g, .inr (8, [.ref nw, .ref la, .ref pn])), (nw, .inr (6, [.int 0, .ref aI, .ref aS, .ref aP, .ref aL, .ref aO, .ref aT, .ref aA, .ref aQ])), (aI, .inr (0, [.int 0, .ref aI1, .ref aI2, .ref aI3, .ref aI4])), (aS, .inr (5, [.int 0, .ref aS1, .ref aS2])), (aL, .inr (1, [.int 0, .ref aL1, .ref aL2, .ref aL3, .ref aL4, .ref aL5])), (aO, .inr (2, [.int 0, .ref aO1, .ref aO2, .ref aO3, .ref aO4, .ref aO5, .ref aO6, .ref aO7, .ref aO8, .ref aO9, .ref aO10])), (aT, .inr (7, [.int 0, .ref aT1, .ref aT2, .ref aT3, .ref aT4, .ref aT5, .ref aT6])), (ou, .inl (cJ, 1, .inr (.inl (fun _ => 0))))]) [0, 1, 2, 3, 4, 5, 6, 7] (by decide) rfl
  have hFc := va_free (wc := [(g, .inr (8, [.ref nw, .ref la, .ref pn])), (nw, .inr (6, [.int 0, .ref aI, .ref aS, .ref aP, .ref aL, .ref aO, .ref aT, .ref aA, .ref aQ])), (aI, .inr (0, [.int 0, .ref aI1, .ref aI2, .ref aI3, .ref aI4])), (aS, .inr (5, [.int 0, .ref aS1, .ref aS2])), (aL, .inr (1, [.int 0, .ref aL1, .ref aL2, .ref aL3, .ref aL4, .ref aL5])), (aO, .inr (2, [.int 0, .ref aO1, .ref aO2, .ref aO3, .ref aO4, .ref aO5, .ref aO6, .ref aO7, .ref aO8, .ref aO9, .ref aO10])), (aT, .inr (7, [.int 0, .ref aT1, .ref aT2, .ref aT3, .ref aT4, .ref aT5, .ref aT6])), (ou, .inl (cJ, 1, .inr (.inl (fun _ => 0))))]) hD hS hA [0, 1, 2, 3, 4, 5, 6, 7] rfl
  refine va_calli (vx_runSW (As := [.ref g, .int (xs 1), .ref ou]) (rest := []) ⟨hx, hb, hml, hown, hts⟩ (h_pass l hl9 D cI cZ cJ s.heap.size H.size g nw la pn aI aS aP aL aO aT aA aQ aI1 aI2 aI3 aI4 aS1 aS2 aL1 aL2 aL3 aL4 aL5 aO1 aO2 aO3 aO4 aO5 aO6 aO7 aO8 aO9 aO10 aT1 aT2 aT3 aT4 aT5 aT6 (xs 1) ou) (vx_cwSW 3 hts gL_law_L_pass rfl rfl rfl (by decide +kernel) ⟨(Nat.le_of_ble_eq_true rfl), (Nat.le_of_ble_eq_true rfl)⟩) ⟨Pre.blind, Pre.mk hPc (hDc.weaken (fun _ _ _ h => hAlo _ h)) hC hS hAlo⟩ rfl rfl hl.1 rfl (lv_room (Nat.le_of_ble_eq_true rfl)) dL_law_912 ⟨(Nat.le_of_ble_eq_true rfl), (Nat.le_of_ble_eq_true rfl)⟩) hS (fun q _ h => hFc q h) hFc (fun r_1 u t H1 locs1 ht hvm e_2 hB hz1 hk1 hS1 => ?_)
  have hS := hS1
  refine W.widen (k := 124) (n := 42914) (by omega) (by omega) ?_
  obtain ⟨fo_3, hP1, hD1, b_4⟩ := hB
  rw [ht] at hP1
  obtain ⟨hP, hD⟩ := va_join (wr := [(mm, .inr (10, [.ref w, .int 0])), (w, .inr (9, [.int 0, .int 0, .ref b2, .ref b3, .ref b4, .ref b5, .int 0, .ref b7, .ref b8, .ref b9, .ref b10, .ref b11, .ref b12, .int 0, .ref b14, .ref b15, .ref b16, .ref b17, .int 0, .ref b19, .ref b20, .ref b21, .ref b22, .ref b23, .ref b24, .ref b25, .ref b26, .ref b27, .int 0, .ref b29, .ref b30, .ref b31, .ref b32, .ref b33, .ref b34, .ref b35])), (b35, .inl (cI, 5, .inl (fun _ => 0)))]) (w1 := [(ou, .inl (cJ, 1, .inr (.inl (fo_3))))]) hP hD [0, 1, 2, 3, 4, 5, 6, 7] [8, 9, 10] rfl rfl (by decide) (by decide) hk1 hFc hP1 hD1
  have e_2 : (r_1 = 0 ∧ (1 ≤ (xs 1) ∧ (xs 1) ≤ 30)) ∨ (r_1 = 1 ∧ ¬ (1 ≤ (xs 1) ∧ (xs 1) ≤ 30)) := e_2
  clear hFc hPc hDc ht hvm hz1 hk1 hS1 hP1 hD1
  generalize H1 = H at hP hS ⊢
  replace hP : va_P D vwCl [(mm, .inr (10, [.ref w, .int 0])), (w, .inr (9, [.int 0, .int 0, .ref b2, .ref b3, .ref b4, .ref b5, .int 0, .ref b7, .ref b8, .ref b9, .ref b10, .ref b11, .ref b12, .int 0, .ref b14, .ref b15, .ref b16, .ref b17, .int 0, .ref b19, .ref b20, .ref b21, .ref b22, .ref b23, .ref b24, .ref b25, .ref b26, .ref b27, .int 0, .ref b29, .ref b30, .ref b31, .ref b32, .ref b33, .ref b34, .ref b35])), (b35, .inl (cI, 5, .inl (fun _ => 0))), (ou, .inl (cJ, 1, .inr (.inl (fo_3))))] H := hP
  replace hD : va_D (LA s) [(mm, .inr (10, [.ref w, .int 0])), (w, .inr (9, [.int 0, .int 0, .ref b2, .ref b3, .ref b4, .ref b5, .int 0, .ref b7, .ref b8, .ref b9, .ref b10, .ref b11, .ref b12, .int 0, .ref b14, .ref b15, .ref b16, .ref b17, .int 0, .ref b19, .ref b20, .ref b21, .ref b22, .ref b23, .ref b24, .ref b25, .ref b26, .ref b27, .int 0, .ref b29, .ref b30, .ref b31, .ref b32, .ref b33, .ref b34, .ref b35])), (b35, .inl (cI, 5, .inl (fun _ => 0))), (ou, .inl (cJ, 1, .inr (.inl (fo_3))))] := hD
  rcases e_2 with ⟨hr9, h_5⟩ | ⟨hr9, h_6⟩
  · have hr9 := Eq.symm hr9
    subst hr9
    refine lv_istore (lv' := [(5, .int 0), (0, .ref b), (1, .ref g), (2, .ref mm), (3, .ref ou), (4, .int 0)]) hx hb dL_law_915 hl (by decide) rfl (fun ls hl => ?_)
    refine lv_aload_n hx hb dL_law_917 rfl (lv_at hl 3 rfl) ?_
    refine lv_aload_n hx hb dL_law_918 rfl (lv_at hl 1 rfl) ?_
    refine lv_iload hx hb dL_law_919 (lv_at hl 5 rfl) ?_
    refine lv_iconst (v := 1) hx hb dL_law_921 (by decide) ?_
    refine lv_iadd hx hb dL_law_922 ?_
    refine lv_toi (y := 1) (by decide) ?_
    refine va_sld hx hb hX hbl hbA hS (by unfold vp_in; decide) dL_law_923 ?_
    refine lv_toi (y := xs 1) (congrArg xs (by decide)) ?_
    have hPc := hP.sub (ws' := [(mm, .inr (10, [.ref w, .int 0])), (w, .inr (9, [.int 0, .int 0, .ref b2, .ref b3, .ref b4, .ref b5, .int 0, .ref b7, .ref b8, .ref b9, .ref b10, .ref b11, .ref b12, .int 0, .ref b14, .ref b15, .ref b16, .ref b17, .int 0, .ref b19, .ref b20, .ref b21, .ref b22, .ref b23, .ref b24, .ref b25, .ref b26, .ref b27, .int 0, .ref b29, .ref b30, .ref b31, .ref b32, .ref b33, .ref b34, .ref b35])), (b35, .inl (cI, 5, .inl (fun _ => 0)))]) [0, 1, 2] rfl
    have hDc := hD.sub (ws' := [(mm, .inr (10, [.ref w, .int 0])), (w, .inr (9, [.int 0, .int 0, .ref b2, .ref b3, .ref b4, .ref b5, .int 0, .ref b7, .ref b8, .ref b9, .ref b10, .ref b11, .ref b12, .int 0, .ref b14, .ref b15, .ref b16, .ref b17, .int 0, .ref b19, .ref b20, .ref b21, .ref b22, .ref b23, .ref b24, .ref b25, .ref b26, .ref b27, .int 0, .ref b29, .ref b30, .ref b31, .ref b32, .ref b33, .ref b34, .ref b35])), (b35, .inl (cI, 5, .inl (fun _ => 0)))]) [0, 1, 2] (by decide) rfl
    have hFc := va_free (wc := [(mm, .inr (10, [.ref w, .int 0])), (w, .inr (9, [.int 0, .int 0, .ref b2, .ref b3, .ref b4, .ref b5, .int 0, .ref b7, .ref b8, .ref b9, .ref b10, .ref b11, .ref b12, .int 0, .ref b14, .ref b15, .ref b16, .ref b17, .int 0, .ref b19, .ref b20, .ref b21, .ref b22, .ref b23, .ref b24, .ref b25, .ref b26, .ref b27, .int 0, .ref b29, .ref b30, .ref b31, .ref b32, .ref b33, .ref b34, .ref b35])), (b35, .inl (cI, 5, .inl (fun _ => 0)))]) hD hS hA [0, 1, 2] rfl
    refine va_calli (va_runV (As := [.int (xs 1)]) (rest := []) ⟨hx, hb, hml, hown, hts⟩ (m_pass l D cI cZ cJ s.heap.size H.size mm 0 w b2 b3 b4 b5 b7 b8 b9 b10 b11 b12 b14 b15 b16 b17 b19 b20 b21 b22 b23 b24 b25 b26 b27 b29 b30 b31 b32 b33 b34 b35 (xs 1)) (cwV 1 hts gL_law_X10_pass rfl rfl rfl (by decide +kernel) ⟨(Nat.le_of_ble_eq_true rfl), (Nat.le_of_ble_eq_true rfl)⟩) ⟨Pre.blind, va_recv hK hP (ci := 10) (q0 := 0) rfl rfl, Pre.mk hPc (hDc.weaken (fun _ _ _ h => hAlo _ h)) hC hS hAlo⟩ rfl rfl hl.1 rfl (lv_room (Nat.le_of_ble_eq_true rfl)) dL_law_924 ⟨(Nat.le_of_ble_eq_true rfl), (Nat.le_of_ble_eq_true rfl)⟩) hS (fun q _ h => hFc q h) hFc (fun r_7 u t H1 locs1 ht hvm e_8 hB hz1 hk1 hS1 => ?_)
    have hS := hS1
    refine W.widen (k := 154) (n := 42914) (by omega) (by omega) ?_
    obtain ⟨tz_9, hP1, hD1, b_10⟩ := hB
    rw [ht] at hP1
    obtain ⟨hP, hD⟩ := va_join (wr := [(ou, .inl (cJ, 1, .inr (.inl (fo_3))))]) (w1 := [(mm, .inr (10, [.ref w, .int tz_9]))]) hP hD [0, 1, 2] [3] rfl rfl (by decide) (by decide) hk1 hFc hP1 hD1
    have e_8 : ((1 ≤ (xs 1) ∧ (xs 1) ≤ 30) → r_7 = (xs 1)) := e_8
    clear hFc hPc hDc ht hvm hz1 hk1 hS1 hP1 hD1
    generalize H1 = H at hP hS ⊢
    replace hP : va_P D vwCl [(ou, .inl (cJ, 1, .inr (.inl (fo_3)))), (mm, .inr (10, [.ref w, .int tz_9]))] H := hP
    replace hD : va_D (LA s) [(ou, .inl (cJ, 1, .inr (.inl (fo_3)))), (mm, .inr (10, [.ref w, .int tz_9]))] := hD
    have ht9 := Eq.symm (b_10.1 h_5)
    subst ht9
    have ht9 := Eq.symm (e_8 h_5)
    subst ht9
    refine lv_istore (lv' := [(6, .int (xs 1)), (5, .int 0), (0, .ref b), (1, .ref g), (2, .ref mm), (3, .ref ou), (4, .int 0)]) hx hb dL_law_927 hl (by decide) rfl (fun ls hl => ?_)
    refine lv_aload_n hx hb dL_law_929 rfl (lv_at hl 4 rfl) ?_
    have hPc := hP.sub (ws' := [(mm, .inr (10, [.ref w, .int 0]))]) [1] rfl
    have hDc := hD.sub (ws' := [(mm, .inr (10, [.ref w, .int 0]))]) [1] (by decide) rfl
    refine vp_callSi (W.runV (As := []) (rest := []) ⟨hx, hb, hml, hown, hts⟩ (c_thrown l D cI cZ cJ s.heap.size H.size mm 0 w) (cwV 0 hts gL_law_X10_thrown rfl rfl rfl (by decide +kernel) ⟨(Nat.le_of_ble_eq_true rfl), (Nat.le_of_ble_eq_true rfl)⟩) ⟨Pre.blind, va_recv hK hP (ci := 10) (q0 := 1) rfl rfl, Pre.mk hPc (hDc.weaken (fun _ _ _ h => hAlo _ h)) hC hS hAlo⟩ rfl rfl hl.1 rfl (lv_room (Nat.le_of_ble_eq_true rfl)) dL_law_930 ⟨(Nat.le_of_ble_eq_true rfl), (Nat.le_of_ble_eq_true rfl)⟩) (fun r_11 e_12 => ?_)
    clear hPc hDc
    have e_12 : 0 = r_11 := Eq.symm e_12
    subst e_12
    refine lv_iload hx hb dL_law_933 (lv_at hl 1 rfl) ?_
    refine lv_icmp_eq (tgt := 940) hx hb dL_law_935 (by decide) (fun _ => ?_) (fun c9 => absurd (show (0 : Int32) = (0 : Int32) from (by decide)) c9)
    refine lv_iload hx hb dL_law_940 (lv_at hl 1 rfl) ?_
    refine lv_if_ne (tgt := 957) hx hb dL_law_942 (by decide) (fun c9 => absurd (show (0 : Int32) = (0 : Int32) from (by decide)) c9) (fun _ => ?_)
    refine lv_aload_n hx hb dL_law_945 rfl (lv_at hl 5 rfl) ?_
    refine lv_iconst (v := 0) hx hb dL_law_946 (by decide) ?_
    refine va_lald hx hb hK hP 0 2 rfl rfl (by unfold vp_in; decide) dL_law_947 ?_
    refine lv_tol (y := (xs 1).toInt64) (b_4 h_5) ?_
    refine lv_iload hx hb dL_law_948 (lv_at hl 0 rfl) ?_
    refine lv_i2l (v := (xs 1).toInt64) hx hb dL_law_950 rfl ?_
    refine W.lcmp hx hb dL_law_951 ?_
    refine lv_toi (y := 0) (lg_cmp_self _) ?_
    refine lv_if_eq (tgt := 957) hx hb dL_law_952 (by decide) (fun _ => ?_) (fun c9 => absurd (show (0 : Int32) = (0 : Int32) from (by decide)) c9)
    refine lv_goto (tgt := 2855) hx hb dL_law_957 (by decide) ?_
    refine W.widen (k := 1000) (n := 200000) (Nat.le_of_ble_eq_true rfl) (Nat.le_of_ble_eq_true rfl) ?_
    exact T H _ ls hS (lv_sub hl [2, 6] rfl)
  · have hr9 := Eq.symm hr9
    subst hr9
    refine lv_istore (lv' := [(5, .int 1), (0, .ref b), (1, .ref g), (2, .ref mm), (3, .ref ou), (4, .int 0)]) hx hb dL_law_915 hl (by decide) rfl (fun ls hl => ?_)
    refine lv_aload_n hx hb dL_law_917 rfl (lv_at hl 3 rfl) ?_
    refine lv_aload_n hx hb dL_law_918 rfl (lv_at hl 1 rfl) ?_
    refine lv_iload hx hb dL_law_919 (lv_at hl 5 rfl) ?_
    refine lv_iconst (v := 1) hx hb dL_law_921 (by decide) ?_
    refine lv_iadd hx hb dL_law_922 ?_
    refine lv_toi (y := 1) (by decide) ?_
    refine va_sld hx hb hX hbl hbA hS (by unfold vp_in; decide) dL_law_923 ?_
    refine lv_toi (y := xs 1) (congrArg xs (by decide)) ?_
    have hPc := hP.sub (ws' := [(mm, .inr (10, [.ref w, .int 0])), (w, .inr (9, [.int 0, .int 0, .ref b2, .ref b3, .ref b4, .ref b5, .int 0, .ref b7, .ref b8, .ref b9, .ref b10, .ref b11, .ref b12, .int 0, .ref b14, .ref b15, .ref b16, .ref b17, .int 0, .ref b19, .ref b20, .ref b21, .ref b22, .ref b23, .ref b24, .ref b25, .ref b26, .ref b27, .int 0, .ref b29, .ref b30, .ref b31, .ref b32, .ref b33, .ref b34, .ref b35])), (b35, .inl (cI, 5, .inl (fun _ => 0)))]) [0, 1, 2] rfl
    have hDc := hD.sub (ws' := [(mm, .inr (10, [.ref w, .int 0])), (w, .inr (9, [.int 0, .int 0, .ref b2, .ref b3, .ref b4, .ref b5, .int 0, .ref b7, .ref b8, .ref b9, .ref b10, .ref b11, .ref b12, .int 0, .ref b14, .ref b15, .ref b16, .ref b17, .int 0, .ref b19, .ref b20, .ref b21, .ref b22, .ref b23, .ref b24, .ref b25, .ref b26, .ref b27, .int 0, .ref b29, .ref b30, .ref b31, .ref b32, .ref b33, .ref b34, .ref b35])), (b35, .inl (cI, 5, .inl (fun _ => 0)))]) [0, 1, 2] (by decide) rfl
    have hFc := va_free (wc := [(mm, .inr (10, [.ref w, .int 0])), (w, .inr (9, [.int 0, .int 0, .ref b2, .ref b3, .ref b4, .ref b5, .int 0, .ref b7, .ref b8, .ref b9, .ref b10, .ref b11, .ref b12, .int 0, .ref b14, .ref b15, .ref b16, .ref b17, .int 0, .ref b19, .ref b20, .ref b21, .ref b22, .ref b23, .ref b24, .ref b25, .ref b26, .ref b27, .int 0, .ref b29, .ref b30, .ref b31, .ref b32, .ref b33, .ref b34, .ref b35])), (b35, .inl (cI, 5, .inl (fun _ => 0)))]) hD hS hA [0, 1, 2] rfl
    refine va_calli (va_runV (As := [.int (xs 1)]) (rest := []) ⟨hx, hb, hml, hown, hts⟩ (m_pass l D cI cZ cJ s.heap.size H.size mm 0 w b2 b3 b4 b5 b7 b8 b9 b10 b11 b12 b14 b15 b16 b17 b19 b20 b21 b22 b23 b24 b25 b26 b27 b29 b30 b31 b32 b33 b34 b35 (xs 1)) (cwV 1 hts gL_law_X10_pass rfl rfl rfl (by decide +kernel) ⟨(Nat.le_of_ble_eq_true rfl), (Nat.le_of_ble_eq_true rfl)⟩) ⟨Pre.blind, va_recv hK hP (ci := 10) (q0 := 0) rfl rfl, Pre.mk hPc (hDc.weaken (fun _ _ _ h => hAlo _ h)) hC hS hAlo⟩ rfl rfl hl.1 rfl (lv_room (Nat.le_of_ble_eq_true rfl)) dL_law_924 ⟨(Nat.le_of_ble_eq_true rfl), (Nat.le_of_ble_eq_true rfl)⟩) hS (fun q _ h => hFc q h) hFc (fun r_13 u t H1 locs1 ht hvm e_14 hB hz1 hk1 hS1 => ?_)
    have hS := hS1
    refine W.widen (k := 154) (n := 42914) (by omega) (by omega) ?_
    obtain ⟨tz_15, hP1, hD1, b_16⟩ := hB
    rw [ht] at hP1
    obtain ⟨hP, hD⟩ := va_join (wr := [(ou, .inl (cJ, 1, .inr (.inl (fo_3))))]) (w1 := [(mm, .inr (10, [.ref w, .int tz_15]))]) hP hD [0, 1, 2] [3] rfl rfl (by decide) (by decide) hk1 hFc hP1 hD1
    have e_14 : ((1 ≤ (xs 1) ∧ (xs 1) ≤ 30) → r_13 = (xs 1)) := e_14
    clear hFc hPc hDc ht hvm hz1 hk1 hS1 hP1 hD1
    generalize H1 = H at hP hS ⊢
    replace hP : va_P D vwCl [(ou, .inl (cJ, 1, .inr (.inl (fo_3)))), (mm, .inr (10, [.ref w, .int tz_15]))] H := hP
    replace hD : va_D (LA s) [(ou, .inl (cJ, 1, .inr (.inl (fo_3)))), (mm, .inr (10, [.ref w, .int tz_15]))] := hD
    have ht9 := Eq.symm (b_16.2 h_6)
    subst ht9
    refine lv_istore (lv' := [(6, .int r_13), (5, .int 1), (0, .ref b), (1, .ref g), (2, .ref mm), (3, .ref ou), (4, .int 0)]) hx hb dL_law_927 hl (by decide) rfl (fun ls hl => ?_)
    refine lv_aload_n hx hb dL_law_929 rfl (lv_at hl 4 rfl) ?_
    have hPc := hP.sub (ws' := [(mm, .inr (10, [.ref w, .int 1]))]) [1] rfl
    have hDc := hD.sub (ws' := [(mm, .inr (10, [.ref w, .int 1]))]) [1] (by decide) rfl
    refine vp_callSi (W.runV (As := []) (rest := []) ⟨hx, hb, hml, hown, hts⟩ (c_thrown l D cI cZ cJ s.heap.size H.size mm 1 w) (cwV 0 hts gL_law_X10_thrown rfl rfl rfl (by decide +kernel) ⟨(Nat.le_of_ble_eq_true rfl), (Nat.le_of_ble_eq_true rfl)⟩) ⟨Pre.blind, va_recv hK hP (ci := 10) (q0 := 1) rfl rfl, Pre.mk hPc (hDc.weaken (fun _ _ _ h => hAlo _ h)) hC hS hAlo⟩ rfl rfl hl.1 rfl (lv_room (Nat.le_of_ble_eq_true rfl)) dL_law_930 ⟨(Nat.le_of_ble_eq_true rfl), (Nat.le_of_ble_eq_true rfl)⟩) (fun r_17 e_18 => ?_)
    clear hPc hDc
    have e_18 : 1 = r_17 := Eq.symm e_18
    subst e_18
    refine lv_iload hx hb dL_law_933 (lv_at hl 1 rfl) ?_
    refine lv_icmp_eq (tgt := 940) hx hb dL_law_935 (by decide) (fun _ => ?_) (fun c9 => absurd (show (1 : Int32) = (1 : Int32) from (by decide)) c9)
    refine lv_iload hx hb dL_law_940 (lv_at hl 1 rfl) ?_
    refine lv_if_ne (tgt := 957) hx hb dL_law_942 (by decide) (fun _ => ?_) (fun c9 => absurd c9 (show ¬ (1 : Int32) = (0 : Int32) from (by decide)))
    refine lv_goto (tgt := 2855) hx hb dL_law_957 (by decide) ?_
    refine W.widen (k := 1000) (n := 200000) (Nat.le_of_ble_eq_true rfl) (Nat.le_of_ble_eq_true rfl) ?_
    exact T H _ ls hS (lv_sub hl [2, 6] rfl)

set_option maxHeartbeats 4000000 in
set_option maxRecDepth 100000 in
/-- the law at a call of send -/
theorem law_send {p : Program} {l : Launch} {e : Env} {s : State} {m : MethodId} {below : List Frame} {meth : Method} {c : Code} {Q : State → Prop} (hl9 : l.stackTraces = false) (D : va_G) (cI cZ cJ : ClassId) (b : Nat) (xs : Nat → Int32) (C0 : LC s p m c D cI cZ cJ b xs) (g : Nat) (nw : Nat) (la : Nat) (pn : Nat) (aI : Nat) (aS : Nat) (aP : Nat) (aL : Nat) (aO : Nat) (aT : Nat) (aA : Nat) (aQ : Nat) (aI1 : Nat) (aI2 : Nat) (aI3 : Nat) (aI4 : Nat) (mm : Nat) (w : Nat) (b2 : Nat) (b3 : Nat) (b4 : Nat) (b5 : Nat) (b7 : Nat) (b8 : Nat) (b9 : Nat) (b10 : Nat) (b11 : Nat) (b12 : Nat) (b14 : Nat) (b15 : Nat) (b16 : Nat) (b17 : Nat) (b19 : Nat) (b20 : Nat) (b21 : Nat) (b22 : Nat) (b23 : Nat) (b24 : Nat) (b25 : Nat) (b26 : Nat) (b27 : Nat) (b29 : Nat) (b30 : Nat) (b31 : Nat) (b32 : Nat) (b33 : Nat) (b34 : Nat) (b35 : Nat) (ou : Nat) (T : LT p l e s m below meth c b Q) {H : Heap} {locs : List Loc} {ls : Array Slot} (hP : va_P D vwCl [(g, .inr (8, [.ref nw, .ref la, .ref pn])), (nw, .inr (6, [.int 0, .ref aI, .ref aS, .ref aP, .ref aL, .ref aO, .ref aT, .ref aA, .ref aQ])), (aI, .inr (0, [.int 0, .ref aI1, .ref aI2, .ref aI3, .ref aI4])), (mm, .inr (10, [.ref w, .int 0])), (w, .inr (9, [.int 0, .int 0, .ref b2, .ref b3, .ref b4, .ref b5, .int 0, .ref b7, .ref b8, .ref b9, .ref b10, .ref b11, .ref b12, .int 0, .ref b14, .ref b15, .ref b16, .ref b17, .int 0, .ref b19, .ref b20, .ref b21, .ref b22, .ref b23, .ref b24, .ref b25, .ref b26, .ref b27, .int 0, .ref b29, .ref b30, .ref b31, .ref b32, .ref b33, .ref b34, .ref b35]))] H) (hD : va_D (LA s) [(g, .inr (8, [.ref nw, .ref la, .ref pn])), (nw, .inr (6, [.int 0, .ref aI, .ref aS, .ref aP, .ref aL, .ref aO, .ref aT, .ref aA, .ref aQ])), (aI, .inr (0, [.int 0, .ref aI1, .ref aI2, .ref aI3, .ref aI4])), (mm, .inr (10, [.ref w, .int 0])), (w, .inr (9, [.int 0, .int 0, .ref b2, .ref b3, .ref b4, .ref b5, .int 0, .ref b7, .ref b8, .ref b9, .ref b10, .ref b11, .ref b12, .int 0, .ref b14, .ref b15, .ref b16, .ref b17, .int 0, .ref b19, .ref b20, .ref b21, .ref b22, .ref b23, .ref b24, .ref b25, .ref b26, .ref b27, .int 0, .ref b29, .ref b30, .ref b31, .ref b32, .ref b33, .ref b34, .ref b35]))]) (hS : va_S (LA s) s.heap H locs) (hl : lv_has ls 9 [(0, .ref b), (1, .ref g), (2, .ref mm), (3, .ref ou), (4, .int 0)]) : W p l e room_1 s m #[Value.ref b] below meth c H locs 123 42908 Q (F0 m 960 ls []) := by
  obtain ⟨hx, hb, hml, hown, hts, hX, hbl, hC⟩ := C0
  have hK := hC.K
  have hA : ∀ q : Nat, s.heap.size ≤ q → LA s q := fun _ h => h
  have hAlo : ∀ q, LA s q → s.heap.size ≤ q := fun _ h => h
  have hbA : ¬ LA s b := Nat.not_le.mpr hbl
  refine lv_aload_n hx hb dL_law_960 rfl (lv_at hl 1 rfl) ?_
  refine lv_aload_n hx hb dL_law_961 rfl (lv_at hl 0 rfl) ?_
  refine lv_iload hx hb dL_law_962 (lv_at hl 4 rfl) ?_
  refine lv_iconst (v := 1) hx hb dL_law_964 (by decide) ?_
  refine lv_iadd hx hb dL_law_965 ?_
  refine lv_toi (y := 1) (by decide) ?_
  refine va_sld hx hb hX hbl hbA hS (by unfold vp_in; decide) dL_law_966 ?_
  refine lv_toi (y := xs 1) (congrArg xs (by decide)) ?_
  refine lv_aload_n hx hb dL_law_967 rfl (lv_at hl 0 rfl) ?_
  refine lv_iload hx hb dL_law_968 (lv_at hl 4 rfl) ?_
  refine lv_iconst (v := 2) hx hb dL_law_970 (by decide) ?_
  refine lv_iadd hx hb dL_law_971 ?_
  refine lv_toi (y := 2) (by decide) ?_
  refine va_sld hx hb hX hbl hbA hS (by unfold vp_in; decide) dL_law_972 ?_
  refine lv_toi (y := xs 2) (congrArg xs (by decide)) ?_
  refine lv_aload_n hx hb dL_law_973 rfl (lv_at hl 0 rfl) ?_
  refine lv_iload hx hb dL_law_974 (lv_at hl 4 rfl) ?_
  refine lv_iconst (v := 3) hx hb dL_law_976 (by decide) ?_
  refine lv_iadd hx hb dL_law_977 ?_
  refine lv_toi (y := 3) (by decide) ?_
  refine va_sld hx hb hX hbl hbA hS (by unfold vp_in; decide) dL_law_978 ?_
  refine lv_toi (y := xs 3) (congrArg xs (by decide)) ?_
  refine lv_aload_n hx hb dL_law_979 rfl (lv_at hl 0 rfl) ?_
  refine lv_iload hx hb dL_law_980 (lv_at hl 4 rfl) ?_
  refine lv_iconst (v := 4) hx hb dL_law_982 (by decide) ?_
  refine lv_iadd hx hb dL_law_983 ?_
  refine lv_toi (y := 4) (by decide) ?_
  refine va_sld hx hb hX hbl hbA hS (by unfold vp_in; decide) dL_law_984 ?_
  refine lv_toi (y := xs 4) (congrArg xs (by decide)) ?_
  refine lv_aload_n hx hb dL_law_985 rfl (lv_at hl 3 rfl) ?_
  have hPc := hP.sub (ws' := [(g, .inr (8, [.ref nw, .ref la, .ref pn])), (nw, .inr (6, [.int 0, .ref aI, .ref aS, .ref aP, .ref aL, .ref aO, .ref aT, .ref aA, .ref aQ])), (aI, .inr (0, [.int 0, .ref aI1, .ref aI2, .ref aI3, .ref aI4]))]) [0, 1, 2] rfl
  have hDc := hD.sub (ws' := [(g, .inr (8, [.ref nw, .ref la, .ref pn])), (nw, .inr (6, [.int 0, .ref aI, .ref aS, .ref aP, .ref aL, .ref aO, .ref aT, .ref aA, .ref aQ])), (aI, .inr (0, [.int 0, .ref aI1, .ref aI2, .ref aI3, .ref aI4]))]) [0, 1, 2] (by decide) rfl
  have hFc := va_free (wc := [(g, .inr (8, [.ref nw, .ref la, .ref pn])), (nw, .inr (6, [.int 0, .ref aI, .ref aS, .ref aP, .ref aL, .ref aO, .ref aT, .ref aA, .ref aQ])), (aI, .inr (0, [.int 0, .ref aI1, .ref aI2, .ref aI3, .ref aI4]))]) hD hS hA [0, 1, 2] rfl
  refine va_calli (vx_runSW (As := [.ref g, .int (xs 1), .int (xs 2), .int (xs 3), .int (xs 4), .ref ou]) (rest := []) ⟨hx, hb, hml, hown, hts⟩ (h_send l hl9 D cI cZ cJ s.heap.size H.size g nw la pn 0 aI aS aP aL aO aT aA aQ aI1 aI2 aI3 aI4 (xs 1) (xs 2) (xs 3) (xs 4) ou) (vx_cwSW 6 hts gL_law_L_send rfl rfl rfl (by decide +kernel) ⟨(Nat.le_of_ble_eq_true rfl), (Nat.le_of_ble_eq_true rfl)⟩) ⟨Pre.blind, Pre.mk hPc (hDc.weaken (fun _ _ _ h => hAlo _ h)) hC hS hAlo⟩ rfl rfl hl.1 rfl (lv_room (Nat.le_of_ble_eq_true rfl)) dL_law_986 ⟨(Nat.le_of_ble_eq_true rfl), (Nat.le_of_ble_eq_true rfl)⟩) hS (fun q _ h => hFc q h) hFc (fun r_1 u t H1 locs1 ht hvm e_2 hB hz1 hk1 hS1 => ?_)
  have hS := hS1
  refine W.widen (k := 124) (n := 42914) (by omega) (by omega) ?_
  obtain ⟨hP, hD⟩ := va_rest (wr := [(mm, .inr (10, [.ref w, .int 0])), (w, .inr (9, [.int 0, .int 0, .ref b2, .ref b3, .ref b4, .ref b5, .int 0, .ref b7, .ref b8, .ref b9, .ref b10, .ref b11, .ref b12, .int 0, .ref b14, .ref b15, .ref b16, .ref b17, .int 0, .ref b19, .ref b20, .ref b21, .ref b22, .ref b23, .ref b24, .ref b25, .ref b26, .ref b27, .int 0, .ref b29, .ref b30, .ref b31, .ref b32, .ref b33, .ref b34, .ref b35]))]) hP hD [0, 1, 2] [3, 4] rfl rfl (by decide) (by decide) hk1 hFc
  have e_2 : 1 = r_1 := Eq.symm e_2
  subst e_2
  clear hFc hPc hDc ht hvm hz1 hk1 hS1 hB
  generalize H1 = H at hP hS ⊢
  replace hP : va_P D vwCl [(mm, .inr (10, [.ref w, .int 0])), (w, .inr (9, [.int 0, .int 0, .ref b2, .ref b3, .ref b4, .ref b5, .int 0, .ref b7, .ref b8, .ref b9, .ref b10, .ref b11, .ref b12, .int 0, .ref b14, .ref b15, .ref b16, .ref b17, .int 0, .ref b19, .ref b20, .ref b21, .ref b22, .ref b23, .ref b24, .ref b25, .ref b26, .ref b27, .int 0, .ref b29, .ref b30, .ref b31, .ref b32, .ref b33, .ref b34, .ref b35]))] H := hP
  replace hD : va_D (LA s) [(mm, .inr (10, [.ref w, .int 0])), (w, .inr (9, [.int 0, .int 0, .ref b2, .ref b3, .ref b4, .ref b5, .int 0, .ref b7, .ref b8, .ref b9, .ref b10, .ref b11, .ref b12, .int 0, .ref b14, .ref b15, .ref b16, .ref b17, .int 0, .ref b19, .ref b20, .ref b21, .ref b22, .ref b23, .ref b24, .ref b25, .ref b26, .ref b27, .int 0, .ref b29, .ref b30, .ref b31, .ref b32, .ref b33, .ref b34, .ref b35]))] := hD
  refine lv_istore (lv' := [(5, .int 1), (0, .ref b), (1, .ref g), (2, .ref mm), (3, .ref ou), (4, .int 0)]) hx hb dL_law_989 hl (by decide) rfl (fun ls hl => ?_)
  refine lv_aload_n hx hb dL_law_991 rfl (lv_at hl 3 rfl) ?_
  refine lv_aload_n hx hb dL_law_992 rfl (lv_at hl 1 rfl) ?_
  refine lv_iload hx hb dL_law_993 (lv_at hl 5 rfl) ?_
  refine lv_iconst (v := 1) hx hb dL_law_995 (by decide) ?_
  refine lv_iadd hx hb dL_law_996 ?_
  refine lv_toi (y := 1) (by decide) ?_
  refine va_sld hx hb hX hbl hbA hS (by unfold vp_in; decide) dL_law_997 ?_
  refine lv_toi (y := xs 1) (congrArg xs (by decide)) ?_
  refine lv_aload_n hx hb dL_law_998 rfl (lv_at hl 1 rfl) ?_
  refine lv_iload hx hb dL_law_999 (lv_at hl 5 rfl) ?_
  refine lv_iconst (v := 2) hx hb dL_law_1001 (by decide) ?_
  refine lv_iadd hx hb dL_law_1002 ?_
  refine lv_toi (y := 2) (by decide) ?_
  refine va_sld hx hb hX hbl hbA hS (by unfold vp_in; decide) dL_law_1003 ?_
  refine lv_toi (y := xs 2) (congrArg xs (by decide)) ?_
  refine lv_aload_n hx hb dL_law_1004 rfl (lv_at hl 1 rfl) ?_
  refine lv_iload hx hb dL_law_1005 (lv_at hl 5 rfl) ?_
  refine lv_iconst (v := 3) hx hb dL_law_1007 (by decide) ?_
  refine lv_iadd hx hb dL_law_1008 ?_
  refine lv_toi (y := 3) (by decide) ?_
  refine va_sld hx hb hX hbl hbA hS (by unfold vp_in; decide) dL_law_1009 ?_
  refine lv_toi (y := xs 3) (congrArg xs (by decide)) ?_
  refine lv_aload_n hx hb dL_law_1010 rfl (lv_at hl 1 rfl) ?_
  refine lv_iload hx hb dL_law_1011 (lv_at hl 5 rfl) ?_
  refine lv_iconst (v := 4) hx hb dL_law_1013 (by decide) ?_
  refine lv_iadd hx hb dL_law_1014 ?_
  refine lv_toi (y := 4) (by decide) ?_
  refine va_sld hx hb hX hbl hbA hS (by unfold vp_in; decide) dL_law_1015 ?_
  refine lv_toi (y := xs 4) (congrArg xs (by decide)) ?_
  have hPc := hP.sub (ws' := [(mm, .inr (10, [.ref w, .int 0])), (w, .inr (9, [.int 0, .int 0, .ref b2, .ref b3, .ref b4, .ref b5, .int 0, .ref b7, .ref b8, .ref b9, .ref b10, .ref b11, .ref b12, .int 0, .ref b14, .ref b15, .ref b16, .ref b17, .int 0, .ref b19, .ref b20, .ref b21, .ref b22, .ref b23, .ref b24, .ref b25, .ref b26, .ref b27, .int 0, .ref b29, .ref b30, .ref b31, .ref b32, .ref b33, .ref b34, .ref b35]))]) [0, 1] rfl
  have hDc := hD.sub (ws' := [(mm, .inr (10, [.ref w, .int 0])), (w, .inr (9, [.int 0, .int 0, .ref b2, .ref b3, .ref b4, .ref b5, .int 0, .ref b7, .ref b8, .ref b9, .ref b10, .ref b11, .ref b12, .int 0, .ref b14, .ref b15, .ref b16, .ref b17, .int 0, .ref b19, .ref b20, .ref b21, .ref b22, .ref b23, .ref b24, .ref b25, .ref b26, .ref b27, .int 0, .ref b29, .ref b30, .ref b31, .ref b32, .ref b33, .ref b34, .ref b35]))]) [0, 1] (by decide) rfl
  have hFc := va_free (wc := [(mm, .inr (10, [.ref w, .int 0])), (w, .inr (9, [.int 0, .int 0, .ref b2, .ref b3, .ref b4, .ref b5, .int 0, .ref b7, .ref b8, .ref b9, .ref b10, .ref b11, .ref b12, .int 0, .ref b14, .ref b15, .ref b16, .ref b17, .int 0, .ref b19, .ref b20, .ref b21, .ref b22, .ref b23, .ref b24, .ref b25, .ref b26, .ref b27, .int 0, .ref b29, .ref b30, .ref b31, .ref b32, .ref b33, .ref b34, .ref b35]))]) hD hS hA [0, 1] rfl
  refine va_calli (va_runV (As := [.int (xs 1), .int (xs 2), .int (xs 3), .int (xs 4)]) (rest := []) ⟨hx, hb, hml, hown, hts⟩ (m_send l D cI cZ cJ s.heap.size H.size mm 0 w 0 b2 b3 b4 b5 b7 b8 b9 b10 b11 b12 b14 b15 b16 b17 b19 b20 b21 b22 b23 b24 b25 b26 b27 b29 b30 b31 b32 b33 b34 b35 (xs 1) (xs 2) (xs 3) (xs 4)) (cwV 4 hts gL_law_X10_send rfl rfl rfl (by decide +kernel) ⟨(Nat.le_of_ble_eq_true rfl), (Nat.le_of_ble_eq_true rfl)⟩) ⟨Pre.blind, va_recv hK hP (ci := 10) (q0 := 0) rfl rfl, Pre.mk hPc (hDc.weaken (fun _ _ _ h => hAlo _ h)) hC hS hAlo⟩ rfl rfl hl.1 rfl (lv_room (Nat.le_of_ble_eq_true rfl)) dL_law_1016 ⟨(Nat.le_of_ble_eq_true rfl), (Nat.le_of_ble_eq_true rfl)⟩) hS (fun q _ h => hFc q h) hFc (fun r_3 u t H1 locs1 ht hvm e_4 hB hz1 hk1 hS1 => ?_)
  have hS := hS1
  refine W.widen (k := 124) (n := 42914) (by omega) (by omega) ?_
  obtain ⟨hP1, hD1⟩ := hB
  rw [ht] at hP1
  obtain ⟨hP, hD⟩ := va_join (wr := []) (w1 := [(mm, .inr (10, [.ref w, .int 1]))]) hP hD [0, 1] [] rfl rfl (by decide) (by decide) hk1 hFc hP1 hD1
  have e_4 : 0 = r_3 := Eq.symm e_4
  subst e_4
  clear hFc hPc hDc ht hvm hz1 hk1 hS1 hP1 hD1
  generalize H1 = H at hP hS ⊢
  replace hP : va_P D vwCl [(mm, .inr (10, [.ref w, .int 1]))] H := hP
  replace hD : va_D (LA s) [(mm, .inr (10, [.ref w, .int 1]))] := hD
  refine lv_istore (lv' := [(6, .int 0), (5, .int 1), (0, .ref b), (1, .ref g), (2, .ref mm), (3, .ref ou), (4, .int 0)]) hx hb dL_law_1019 hl (by decide) rfl (fun ls hl => ?_)
  refine lv_aload_n hx hb dL_law_1021 rfl (lv_at hl 4 rfl) ?_
  have hPc := hP.sub (ws' := [(mm, .inr (10, [.ref w, .int 1]))]) [0] rfl
  have hDc := hD.sub (ws' := [(mm, .inr (10, [.ref w, .int 1]))]) [0] (by decide) rfl
  refine vp_callSi (W.runV (As := []) (rest := []) ⟨hx, hb, hml, hown, hts⟩ (c_thrown l D cI cZ cJ s.heap.size H.size mm 1 w) (cwV 0 hts gL_law_X10_thrown rfl rfl rfl (by decide +kernel) ⟨(Nat.le_of_ble_eq_true rfl), (Nat.le_of_ble_eq_true rfl)⟩) ⟨Pre.blind, va_recv hK hP (ci := 10) (q0 := 0) rfl rfl, Pre.mk hPc (hDc.weaken (fun _ _ _ h => hAlo _ h)) hC hS hAlo⟩ rfl rfl hl.1 rfl (lv_room (Nat.le_of_ble_eq_true rfl)) dL_law_1022 ⟨(Nat.le_of_ble_eq_true rfl), (Nat.le_of_ble_eq_true rfl)⟩) (fun r_5 e_6 => ?_)
  clear hPc hDc
  have e_6 : 1 = r_5 := Eq.symm e_6
  subst e_6
  refine lv_iload hx hb dL_law_1025 (lv_at hl 1 rfl) ?_
  refine lv_icmp_eq (tgt := 1032) hx hb dL_law_1027 (by decide) (fun _ => ?_) (fun c9 => absurd (show (1 : Int32) = (1 : Int32) from (by decide)) c9)
  refine lv_iload hx hb dL_law_1032 (lv_at hl 1 rfl) ?_
  refine lv_if_ne (tgt := 1049) hx hb dL_law_1034 (by decide) (fun _ => ?_) (fun c9 => absurd c9 (show ¬ (1 : Int32) = (0 : Int32) from (by decide)))
  refine lv_goto (tgt := 2855) hx hb dL_law_1049 (by decide) ?_
  refine W.widen (k := 1000) (n := 200000) (Nat.le_of_ble_eq_true rfl) (Nat.le_of_ble_eq_true rfl) ?_
  exact T H _ ls hS (lv_sub hl [2, 6] rfl)

set_option maxHeartbeats 4000000 in
set_option maxRecDepth 100000 in
/-- the law at a call of balance -/
theorem law_balance {p : Program} {l : Launch} {e : Env} {s : State} {m : MethodId} {below : List Frame} {meth : Method} {c : Code} {Q : State → Prop} (hl9 : l.stackTraces = false) (D : va_G) (cI cZ cJ : ClassId) (b : Nat) (xs : Nat → Int32) (C0 : LC s p m c D cI cZ cJ b xs) (g : Nat) (nw : Nat) (la : Nat) (pn : Nat) (aI : Nat) (aS : Nat) (aP : Nat) (aL : Nat) (aO : Nat) (aT : Nat) (aA : Nat) (aQ : Nat) (aI1 : Nat) (aI2 : Nat) (aI3 : Nat) (aI4 : Nat) (mm : Nat) (w : Nat) (b2 : Nat) (b3 : Nat) (b4 : Nat) (b5 : Nat) (b7 : Nat) (b8 : Nat) (b9 : Nat) (b10 : Nat) (b11 : Nat) (b12 : Nat) (b14 : Nat) (b15 : Nat) (b16 : Nat) (b17 : Nat) (b19 : Nat) (b20 : Nat) (b21 : Nat) (b22 : Nat) (b23 : Nat) (b24 : Nat) (b25 : Nat) (b26 : Nat) (b27 : Nat) (b29 : Nat) (b30 : Nat) (b31 : Nat) (b32 : Nat) (b33 : Nat) (b34 : Nat) (b35 : Nat) (ou : Nat) (T : LT p l e s m below meth c b Q) {H : Heap} {locs : List Loc} {ls : Array Slot} (hP : va_P D vwCl [(g, .inr (8, [.ref nw, .ref la, .ref pn])), (nw, .inr (6, [.int 0, .ref aI, .ref aS, .ref aP, .ref aL, .ref aO, .ref aT, .ref aA, .ref aQ])), (aI, .inr (0, [.int 0, .ref aI1, .ref aI2, .ref aI3, .ref aI4])), (mm, .inr (10, [.ref w, .int 0])), (w, .inr (9, [.int 0, .int 0, .ref b2, .ref b3, .ref b4, .ref b5, .int 0, .ref b7, .ref b8, .ref b9, .ref b10, .ref b11, .ref b12, .int 0, .ref b14, .ref b15, .ref b16, .ref b17, .int 0, .ref b19, .ref b20, .ref b21, .ref b22, .ref b23, .ref b24, .ref b25, .ref b26, .ref b27, .int 0, .ref b29, .ref b30, .ref b31, .ref b32, .ref b33, .ref b34, .ref b35]))] H) (hD : va_D (LA s) [(g, .inr (8, [.ref nw, .ref la, .ref pn])), (nw, .inr (6, [.int 0, .ref aI, .ref aS, .ref aP, .ref aL, .ref aO, .ref aT, .ref aA, .ref aQ])), (aI, .inr (0, [.int 0, .ref aI1, .ref aI2, .ref aI3, .ref aI4])), (mm, .inr (10, [.ref w, .int 0])), (w, .inr (9, [.int 0, .int 0, .ref b2, .ref b3, .ref b4, .ref b5, .int 0, .ref b7, .ref b8, .ref b9, .ref b10, .ref b11, .ref b12, .int 0, .ref b14, .ref b15, .ref b16, .ref b17, .int 0, .ref b19, .ref b20, .ref b21, .ref b22, .ref b23, .ref b24, .ref b25, .ref b26, .ref b27, .int 0, .ref b29, .ref b30, .ref b31, .ref b32, .ref b33, .ref b34, .ref b35]))]) (hS : va_S (LA s) s.heap H locs) (hl : lv_has ls 9 [(0, .ref b), (1, .ref g), (2, .ref mm), (3, .ref ou), (4, .int 0)]) : W p l e room_1 s m #[Value.ref b] below meth c H locs 123 42908 Q (F0 m 1052 ls []) := by
  obtain ⟨hx, hb, hml, hown, hts, hX, hbl, hC⟩ := C0
  have hK := hC.K
  have hA : ∀ q : Nat, s.heap.size ≤ q → LA s q := fun _ h => h
  have hAlo : ∀ q, LA s q → s.heap.size ≤ q := fun _ h => h
  have hbA : ¬ LA s b := Nat.not_le.mpr hbl
  refine lv_aload_n hx hb dL_law_1052 rfl (lv_at hl 1 rfl) ?_
  refine lv_aload_n hx hb dL_law_1053 rfl (lv_at hl 0 rfl) ?_
  refine lv_iload hx hb dL_law_1054 (lv_at hl 4 rfl) ?_
  refine lv_iconst (v := 1) hx hb dL_law_1056 (by decide) ?_
  refine lv_iadd hx hb dL_law_1057 ?_
  refine lv_toi (y := 1) (by decide) ?_
  refine va_sld hx hb hX hbl hbA hS (by unfold vp_in; decide) dL_law_1058 ?_
  refine lv_toi (y := xs 1) (congrArg xs (by decide)) ?_
  refine lv_aload_n hx hb dL_law_1059 rfl (lv_at hl 3 rfl) ?_
  have hPc := hP.sub (ws' := [(g, .inr (8, [.ref nw, .ref la, .ref pn])), (nw, .inr (6, [.int 0, .ref aI, .ref aS, .ref aP, .ref aL, .ref aO, .ref aT, .ref aA, .ref aQ])), (aI, .inr (0, [.int 0, .ref aI1, .ref aI2, .ref aI3, .ref aI4]))]) [0, 1, 2] rfl
  have hDc := hD.sub (ws' := [(g, .inr (8, [.ref nw, .ref la, .ref pn])), (nw, .inr (6, [.int 0, .ref aI, .ref aS, .ref aP, .ref aL, .ref aO, .ref aT, .ref aA, .ref aQ])), (aI, .inr (0, [.int 0, .ref aI1, .ref aI2, .ref aI3, .ref aI4]))]) [0, 1, 2] (by decide) rfl
  have hFc := va_free (wc := [(g, .inr (8, [.ref nw, .ref la, .ref pn])), (nw, .inr (6, [.int 0, .ref aI, .ref aS, .ref aP, .ref aL, .ref aO, .ref aT, .ref aA, .ref aQ])), (aI, .inr (0, [.int 0, .ref aI1, .ref aI2, .ref aI3, .ref aI4]))]) hD hS hA [0, 1, 2] rfl
  refine va_calli (vx_runSW (As := [.ref g, .int (xs 1), .ref ou]) (rest := []) ⟨hx, hb, hml, hown, hts⟩ (h_balance l hl9 D cI cZ cJ s.heap.size H.size g nw la pn 0 aI aS aP aL aO aT aA aQ aI1 aI2 aI3 aI4 (xs 1) ou) (vx_cwSW 3 hts gL_law_L_balance rfl rfl rfl (by decide +kernel) ⟨(Nat.le_of_ble_eq_true rfl), (Nat.le_of_ble_eq_true rfl)⟩) ⟨Pre.blind, Pre.mk hPc (hDc.weaken (fun _ _ _ h => hAlo _ h)) hC hS hAlo⟩ rfl rfl hl.1 rfl (lv_room (Nat.le_of_ble_eq_true rfl)) dL_law_1060 ⟨(Nat.le_of_ble_eq_true rfl), (Nat.le_of_ble_eq_true rfl)⟩) hS (fun q _ h => hFc q h) hFc (fun r_1 u t H1 locs1 ht hvm e_2 hB hz1 hk1 hS1 => ?_)
  have hS := hS1
  refine W.widen (k := 124) (n := 42914) (by omega) (by omega) ?_
  obtain ⟨hP, hD⟩ := va_rest (wr := [(mm, .inr (10, [.ref w, .int 0])), (w, .inr (9, [.int 0, .int 0, .ref b2, .ref b3, .ref b4, .ref b5, .int 0, .ref b7, .ref b8, .ref b9, .ref b10, .ref b11, .ref b12, .int 0, .ref b14, .ref b15, .ref b16, .ref b17, .int 0, .ref b19, .ref b20, .ref b21, .ref b22, .ref b23, .ref b24, .ref b25, .ref b26, .ref b27, .int 0, .ref b29, .ref b30, .ref b31, .ref b32, .ref b33, .ref b34, .ref b35]))]) hP hD [0, 1, 2] [3, 4] rfl rfl (by decide) (by decide) hk1 hFc
  have e_2 : 1 = r_1 := Eq.symm e_2
  subst e_2
  clear hFc hPc hDc ht hvm hz1 hk1 hS1 hB
  generalize H1 = H at hP hS ⊢
  replace hP : va_P D vwCl [(mm, .inr (10, [.ref w, .int 0])), (w, .inr (9, [.int 0, .int 0, .ref b2, .ref b3, .ref b4, .ref b5, .int 0, .ref b7, .ref b8, .ref b9, .ref b10, .ref b11, .ref b12, .int 0, .ref b14, .ref b15, .ref b16, .ref b17, .int 0, .ref b19, .ref b20, .ref b21, .ref b22, .ref b23, .ref b24, .ref b25, .ref b26, .ref b27, .int 0, .ref b29, .ref b30, .ref b31, .ref b32, .ref b33, .ref b34, .ref b35]))] H := hP
  replace hD : va_D (LA s) [(mm, .inr (10, [.ref w, .int 0])), (w, .inr (9, [.int 0, .int 0, .ref b2, .ref b3, .ref b4, .ref b5, .int 0, .ref b7, .ref b8, .ref b9, .ref b10, .ref b11, .ref b12, .int 0, .ref b14, .ref b15, .ref b16, .ref b17, .int 0, .ref b19, .ref b20, .ref b21, .ref b22, .ref b23, .ref b24, .ref b25, .ref b26, .ref b27, .int 0, .ref b29, .ref b30, .ref b31, .ref b32, .ref b33, .ref b34, .ref b35]))] := hD
  refine lv_istore (lv' := [(5, .int 1), (0, .ref b), (1, .ref g), (2, .ref mm), (3, .ref ou), (4, .int 0)]) hx hb dL_law_1063 hl (by decide) rfl (fun ls hl => ?_)
  refine lv_aload_n hx hb dL_law_1065 rfl (lv_at hl 3 rfl) ?_
  refine lv_aload_n hx hb dL_law_1066 rfl (lv_at hl 1 rfl) ?_
  refine lv_iload hx hb dL_law_1067 (lv_at hl 5 rfl) ?_
  refine lv_iconst (v := 1) hx hb dL_law_1069 (by decide) ?_
  refine lv_iadd hx hb dL_law_1070 ?_
  refine lv_toi (y := 1) (by decide) ?_
  refine va_sld hx hb hX hbl hbA hS (by unfold vp_in; decide) dL_law_1071 ?_
  refine lv_toi (y := xs 1) (congrArg xs (by decide)) ?_
  have hPc := hP.sub (ws' := [(mm, .inr (10, [.ref w, .int 0])), (w, .inr (9, [.int 0, .int 0, .ref b2, .ref b3, .ref b4, .ref b5, .int 0, .ref b7, .ref b8, .ref b9, .ref b10, .ref b11, .ref b12, .int 0, .ref b14, .ref b15, .ref b16, .ref b17, .int 0, .ref b19, .ref b20, .ref b21, .ref b22, .ref b23, .ref b24, .ref b25, .ref b26, .ref b27, .int 0, .ref b29, .ref b30, .ref b31, .ref b32, .ref b33, .ref b34, .ref b35]))]) [0, 1] rfl
  have hDc := hD.sub (ws' := [(mm, .inr (10, [.ref w, .int 0])), (w, .inr (9, [.int 0, .int 0, .ref b2, .ref b3, .ref b4, .ref b5, .int 0, .ref b7, .ref b8, .ref b9, .ref b10, .ref b11, .ref b12, .int 0, .ref b14, .ref b15, .ref b16, .ref b17, .int 0, .ref b19, .ref b20, .ref b21, .ref b22, .ref b23, .ref b24, .ref b25, .ref b26, .ref b27, .int 0, .ref b29, .ref b30, .ref b31, .ref b32, .ref b33, .ref b34, .ref b35]))]) [0, 1] (by decide) rfl
  have hFc := va_free (wc := [(mm, .inr (10, [.ref w, .int 0])), (w, .inr (9, [.int 0, .int 0, .ref b2, .ref b3, .ref b4, .ref b5, .int 0, .ref b7, .ref b8, .ref b9, .ref b10, .ref b11, .ref b12, .int 0, .ref b14, .ref b15, .ref b16, .ref b17, .int 0, .ref b19, .ref b20, .ref b21, .ref b22, .ref b23, .ref b24, .ref b25, .ref b26, .ref b27, .int 0, .ref b29, .ref b30, .ref b31, .ref b32, .ref b33, .ref b34, .ref b35]))]) hD hS hA [0, 1] rfl
  refine va_calli (va_runV (As := [.int (xs 1)]) (rest := []) ⟨hx, hb, hml, hown, hts⟩ (m_balance l D cI cZ cJ s.heap.size H.size mm 0 w 0 b2 b3 b4 b5 b7 b8 b9 b10 b11 b12 b14 b15 b16 b17 b19 b20 b21 b22 b23 b24 b25 b26 b27 b29 b30 b31 b32 b33 b34 b35 (xs 1)) (cwV 1 hts gL_law_X10_balance rfl rfl rfl (by decide +kernel) ⟨(Nat.le_of_ble_eq_true rfl), (Nat.le_of_ble_eq_true rfl)⟩) ⟨Pre.blind, va_recv hK hP (ci := 10) (q0 := 0) rfl rfl, Pre.mk hPc (hDc.weaken (fun _ _ _ h => hAlo _ h)) hC hS hAlo⟩ rfl rfl hl.1 rfl (lv_room (Nat.le_of_ble_eq_true rfl)) dL_law_1072 ⟨(Nat.le_of_ble_eq_true rfl), (Nat.le_of_ble_eq_true rfl)⟩) hS (fun q _ h => hFc q h) hFc (fun r_3 u t H1 locs1 ht hvm e_4 hB hz1 hk1 hS1 => ?_)
  have hS := hS1
  refine W.widen (k := 124) (n := 42914) (by omega) (by omega) ?_
  obtain ⟨hP1, hD1⟩ := hB
  rw [ht] at hP1
  obtain ⟨hP, hD⟩ := va_join (wr := []) (w1 := [(mm, .inr (10, [.ref w, .int 1]))]) hP hD [0, 1] [] rfl rfl (by decide) (by decide) hk1 hFc hP1 hD1
  have e_4 : 0 = r_3 := Eq.symm e_4
  subst e_4
  clear hFc hPc hDc ht hvm hz1 hk1 hS1 hP1 hD1
  generalize H1 = H at hP hS ⊢
  replace hP : va_P D vwCl [(mm, .inr (10, [.ref w, .int 1]))] H := hP
  replace hD : va_D (LA s) [(mm, .inr (10, [.ref w, .int 1]))] := hD
  refine lv_istore (lv' := [(6, .int 0), (5, .int 1), (0, .ref b), (1, .ref g), (2, .ref mm), (3, .ref ou), (4, .int 0)]) hx hb dL_law_1075 hl (by decide) rfl (fun ls hl => ?_)
  refine lv_aload_n hx hb dL_law_1077 rfl (lv_at hl 4 rfl) ?_
  have hPc := hP.sub (ws' := [(mm, .inr (10, [.ref w, .int 1]))]) [0] rfl
  have hDc := hD.sub (ws' := [(mm, .inr (10, [.ref w, .int 1]))]) [0] (by decide) rfl
  refine vp_callSi (W.runV (As := []) (rest := []) ⟨hx, hb, hml, hown, hts⟩ (c_thrown l D cI cZ cJ s.heap.size H.size mm 1 w) (cwV 0 hts gL_law_X10_thrown rfl rfl rfl (by decide +kernel) ⟨(Nat.le_of_ble_eq_true rfl), (Nat.le_of_ble_eq_true rfl)⟩) ⟨Pre.blind, va_recv hK hP (ci := 10) (q0 := 0) rfl rfl, Pre.mk hPc (hDc.weaken (fun _ _ _ h => hAlo _ h)) hC hS hAlo⟩ rfl rfl hl.1 rfl (lv_room (Nat.le_of_ble_eq_true rfl)) dL_law_1078 ⟨(Nat.le_of_ble_eq_true rfl), (Nat.le_of_ble_eq_true rfl)⟩) (fun r_5 e_6 => ?_)
  clear hPc hDc
  have e_6 : 1 = r_5 := Eq.symm e_6
  subst e_6
  refine lv_iload hx hb dL_law_1081 (lv_at hl 1 rfl) ?_
  refine lv_icmp_eq (tgt := 1088) hx hb dL_law_1083 (by decide) (fun _ => ?_) (fun c9 => absurd (show (1 : Int32) = (1 : Int32) from (by decide)) c9)
  refine lv_iload hx hb dL_law_1088 (lv_at hl 1 rfl) ?_
  refine lv_if_ne (tgt := 1105) hx hb dL_law_1090 (by decide) (fun _ => ?_) (fun c9 => absurd c9 (show ¬ (1 : Int32) = (0 : Int32) from (by decide)))
  refine lv_goto (tgt := 2855) hx hb dL_law_1105 (by decide) ?_
  refine W.widen (k := 1000) (n := 200000) (Nat.le_of_ble_eq_true rfl) (Nat.le_of_ble_eq_true rfl) ?_
  exact T H _ ls hS (lv_sub hl [2, 6] rfl)

set_option maxHeartbeats 4000000 in
set_option maxRecDepth 100000 in
/-- the law at a call of day -/
theorem law_day {p : Program} {l : Launch} {e : Env} {s : State} {m : MethodId} {below : List Frame} {meth : Method} {c : Code} {Q : State → Prop} (hl9 : l.stackTraces = false) (D : va_G) (cI cZ cJ : ClassId) (b : Nat) (xs : Nat → Int32) (C0 : LC s p m c D cI cZ cJ b xs) (g : Nat) (nw : Nat) (la : Nat) (pn : Nat) (aI : Nat) (aS : Nat) (aP : Nat) (aL : Nat) (aO : Nat) (aT : Nat) (aA : Nat) (aQ : Nat) (mm : Nat) (w : Nat) (b2 : Nat) (b3 : Nat) (b4 : Nat) (b5 : Nat) (b7 : Nat) (b8 : Nat) (b9 : Nat) (b10 : Nat) (b11 : Nat) (b12 : Nat) (b14 : Nat) (b15 : Nat) (b16 : Nat) (b17 : Nat) (b19 : Nat) (b20 : Nat) (b21 : Nat) (b22 : Nat) (b23 : Nat) (b24 : Nat) (b25 : Nat) (b26 : Nat) (b27 : Nat) (b29 : Nat) (b30 : Nat) (b31 : Nat) (b32 : Nat) (b33 : Nat) (b34 : Nat) (b35 : Nat) (ou : Nat) (T : LT p l e s m below meth c b Q) {H : Heap} {locs : List Loc} {ls : Array Slot} (hP : va_P D vwCl [(g, .inr (8, [.ref nw, .ref la, .ref pn])), (nw, .inr (6, [.int 0, .ref aI, .ref aS, .ref aP, .ref aL, .ref aO, .ref aT, .ref aA, .ref aQ])), (mm, .inr (10, [.ref w, .int 0])), (w, .inr (9, [.int 0, .int 0, .ref b2, .ref b3, .ref b4, .ref b5, .int 0, .ref b7, .ref b8, .ref b9, .ref b10, .ref b11, .ref b12, .int 0, .ref b14, .ref b15, .ref b16, .ref b17, .int 0, .ref b19, .ref b20, .ref b21, .ref b22, .ref b23, .ref b24, .ref b25, .ref b26, .ref b27, .int 0, .ref b29, .ref b30, .ref b31, .ref b32, .ref b33, .ref b34, .ref b35]))] H) (hD : va_D (LA s) [(g, .inr (8, [.ref nw, .ref la, .ref pn])), (nw, .inr (6, [.int 0, .ref aI, .ref aS, .ref aP, .ref aL, .ref aO, .ref aT, .ref aA, .ref aQ])), (mm, .inr (10, [.ref w, .int 0])), (w, .inr (9, [.int 0, .int 0, .ref b2, .ref b3, .ref b4, .ref b5, .int 0, .ref b7, .ref b8, .ref b9, .ref b10, .ref b11, .ref b12, .int 0, .ref b14, .ref b15, .ref b16, .ref b17, .int 0, .ref b19, .ref b20, .ref b21, .ref b22, .ref b23, .ref b24, .ref b25, .ref b26, .ref b27, .int 0, .ref b29, .ref b30, .ref b31, .ref b32, .ref b33, .ref b34, .ref b35]))]) (hS : va_S (LA s) s.heap H locs) (hl : lv_has ls 9 [(0, .ref b), (1, .ref g), (2, .ref mm), (3, .ref ou), (4, .int 0)]) : W p l e room_1 s m #[Value.ref b] below meth c H locs 123 42908 Q (F0 m 1108 ls []) := by
  obtain ⟨hx, hb, hml, hown, hts, hX, hbl, hC⟩ := C0
  have hK := hC.K
  have hA : ∀ q : Nat, s.heap.size ≤ q → LA s q := fun _ h => h
  have hAlo : ∀ q, LA s q → s.heap.size ≤ q := fun _ h => h
  have hbA : ¬ LA s b := Nat.not_le.mpr hbl
  refine lv_aload_n hx hb dL_law_1108 rfl (lv_at hl 1 rfl) ?_
  have hPc := hP.sub (ws' := [(g, .inr (8, [.ref nw, .ref la, .ref pn])), (nw, .inr (6, [.int 0, .ref aI, .ref aS, .ref aP, .ref aL, .ref aO, .ref aT, .ref aA, .ref aQ]))]) [0, 1] rfl
  have hDc := hD.sub (ws' := [(g, .inr (8, [.ref nw, .ref la, .ref pn])), (nw, .inr (6, [.int 0, .ref aI, .ref aS, .ref aP, .ref aL, .ref aO, .ref aT, .ref aA, .ref aQ]))]) [0, 1] (by decide) rfl
  refine vp_callSi (W.runV (As := []) (rest := []) ⟨hx, hb, hml, hown, hts⟩ (c_day l D cI cZ cJ s.heap.size H.size g nw la pn 0 aI aS aP aL aO aT aA aQ) (cwV 0 hts gL_law_X8_day rfl rfl rfl (by decide +kernel) ⟨(Nat.le_of_ble_eq_true rfl), (Nat.le_of_ble_eq_true rfl)⟩) ⟨Pre.blind, va_recv hK hP (ci := 8) (q0 := 0) rfl rfl, Pre.mk hPc (hDc.weaken (fun _ _ _ h => hAlo _ h)) hC hS hAlo⟩ rfl rfl hl.1 rfl (lv_room (Nat.le_of_ble_eq_true rfl)) dL_law_1109 ⟨(Nat.le_of_ble_eq_true rfl), (Nat.le_of_ble_eq_true rfl)⟩) (fun r_1 e_2 => ?_)
  clear hPc hDc
  have e_2 : 0 = r_1 := Eq.symm e_2
  subst e_2
  refine lv_aload_n hx hb dL_law_1112 rfl (lv_at hl 2 rfl) ?_
  have hPc := hP.sub (ws' := [(mm, .inr (10, [.ref w, .int 0])), (w, .inr (9, [.int 0, .int 0, .ref b2, .ref b3, .ref b4, .ref b5, .int 0, .ref b7, .ref b8, .ref b9, .ref b10, .ref b11, .ref b12, .int 0, .ref b14, .ref b15, .ref b16, .ref b17, .int 0, .ref b19, .ref b20, .ref b21, .ref b22, .ref b23, .ref b24, .ref b25, .ref b26, .ref b27, .int 0, .ref b29, .ref b30, .ref b31, .ref b32, .ref b33, .ref b34, .ref b35]))]) [2, 3] rfl
  have hDc := hD.sub (ws' := [(mm, .inr (10, [.ref w, .int 0])), (w, .inr (9, [.int 0, .int 0, .ref b2, .ref b3, .ref b4, .ref b5, .int 0, .ref b7, .ref b8, .ref b9, .ref b10, .ref b11, .ref b12, .int 0, .ref b14, .ref b15, .ref b16, .ref b17, .int 0, .ref b19, .ref b20, .ref b21, .ref b22, .ref b23, .ref b24, .ref b25, .ref b26, .ref b27, .int 0, .ref b29, .ref b30, .ref b31, .ref b32, .ref b33, .ref b34, .ref b35]))]) [2, 3] (by decide) rfl
  have hFc := va_free (wc := [(mm, .inr (10, [.ref w, .int 0])), (w, .inr (9, [.int 0, .int 0, .ref b2, .ref b3, .ref b4, .ref b5, .int 0, .ref b7, .ref b8, .ref b9, .ref b10, .ref b11, .ref b12, .int 0, .ref b14, .ref b15, .ref b16, .ref b17, .int 0, .ref b19, .ref b20, .ref b21, .ref b22, .ref b23, .ref b24, .ref b25, .ref b26, .ref b27, .int 0, .ref b29, .ref b30, .ref b31, .ref b32, .ref b33, .ref b34, .ref b35]))]) hD hS hA [2, 3] rfl
  refine va_calli (va_runV (As := []) (rest := [.int 0]) ⟨hx, hb, hml, hown, hts⟩ (m_day l D cI cZ cJ s.heap.size H.size mm 0 w 0 b2 b3 b4 b5 b7 b8 b9 b10 b11 b12 b14 b15 b16 b17 b19 b20 b21 b22 b23 b24 b25 b26 b27 b29 b30 b31 b32 b33 b34 b35) (cwV 0 hts gL_law_X10_day rfl rfl rfl (by decide +kernel) ⟨(Nat.le_of_ble_eq_true rfl), (Nat.le_of_ble_eq_true rfl)⟩) ⟨Pre.blind, va_recv hK hP (ci := 10) (q0 := 2) rfl rfl, Pre.mk hPc (hDc.weaken (fun _ _ _ h => hAlo _ h)) hC hS hAlo⟩ rfl rfl hl.1 rfl (lv_room (Nat.le_of_ble_eq_true rfl)) dL_law_1113 ⟨(Nat.le_of_ble_eq_true rfl), (Nat.le_of_ble_eq_true rfl)⟩) hS (fun q _ h => hFc q h) hFc (fun r_3 u t H1 locs1 ht hvm e_4 hB hz1 hk1 hS1 => ?_)
  have hS := hS1
  refine W.widen (k := 123) (n := 42908) (by omega) (by omega) ?_
  obtain ⟨hP, hD⟩ := va_rest (wr := [(g, .inr (8, [.ref nw, .ref la, .ref pn])), (nw, .inr (6, [.int 0, .ref aI, .ref aS, .ref aP, .ref aL, .ref aO, .ref aT, .ref aA, .ref aQ]))]) hP hD [2, 3] [0, 1] rfl rfl (by decide) (by decide) hk1 hFc
  have e_4 : (0 : Int32) = r_3 := Eq.symm e_4
  subst e_4
  clear hFc hPc hDc ht hvm hz1 hk1 hS1 hB
  generalize H1 = H at hP hS ⊢
  replace hP : va_P D vwCl [(g, .inr (8, [.ref nw, .ref la, .ref pn])), (nw, .inr (6, [.int 0, .ref aI, .ref aS, .ref aP, .ref aL, .ref aO, .ref aT, .ref aA, .ref aQ]))] H := hP
  replace hD : va_D (LA s) [(g, .inr (8, [.ref nw, .ref la, .ref pn])), (nw, .inr (6, [.int 0, .ref aI, .ref aS, .ref aP, .ref aL, .ref aO, .ref aT, .ref aA, .ref aQ]))] := hD
  refine lv_icmp_eq (tgt := 2855) hx hb dL_law_1116 (by decide) (fun _ => ?_) (fun c9 => absurd (show (0 : Int32) = (0 : Int32) from (by decide)) c9)
  refine W.widen (k := 1000) (n := 200000) (Nat.le_of_ble_eq_true rfl) (Nat.le_of_ble_eq_true rfl) ?_
  exact T H _ ls hS (lv_sub hl [0, 4] rfl)

set_option maxHeartbeats 4000000 in
set_option maxRecDepth 100000 in
/-- the law at a call of items -/
theorem law_items {p : Program} {l : Launch} {e : Env} {s : State} {m : MethodId} {below : List Frame} {meth : Method} {c : Code} {Q : State → Prop} (hl9 : l.stackTraces = false) (D : va_G) (cI cZ cJ : ClassId) (b : Nat) (xs : Nat → Int32) (C0 : LC s p m c D cI cZ cJ b xs) (g : Nat) (nw : Nat) (la : Nat) (pn : Nat) (aI : Nat) (aS : Nat) (aP : Nat) (aL : Nat) (aO : Nat) (aT : Nat) (aA : Nat) (aQ : Nat) (aI1 : Nat) (aI2 : Nat) (aI3 : Nat) (aI4 : Nat) (mm : Nat) (w : Nat) (b2 : Nat) (b3 : Nat) (b4 : Nat) (b5 : Nat) (b7 : Nat) (b8 : Nat) (b9 : Nat) (b10 : Nat) (b11 : Nat) (b12 : Nat) (b14 : Nat) (b15 : Nat) (b16 : Nat) (b17 : Nat) (b19 : Nat) (b20 : Nat) (b21 : Nat) (b22 : Nat) (b23 : Nat) (b24 : Nat) (b25 : Nat) (b26 : Nat) (b27 : Nat) (b29 : Nat) (b30 : Nat) (b31 : Nat) (b32 : Nat) (b33 : Nat) (b34 : Nat) (b35 : Nat) (ou : Nat) (T : LT p l e s m below meth c b Q) {H : Heap} {locs : List Loc} {ls : Array Slot} (hP : va_P D vwCl [(g, .inr (8, [.ref nw, .ref la, .ref pn])), (nw, .inr (6, [.int 0, .ref aI, .ref aS, .ref aP, .ref aL, .ref aO, .ref aT, .ref aA, .ref aQ])), (aI, .inr (0, [.int 0, .ref aI1, .ref aI2, .ref aI3, .ref aI4])), (mm, .inr (10, [.ref w, .int 0])), (w, .inr (9, [.int 0, .int 0, .ref b2, .ref b3, .ref b4, .ref b5, .int 0, .ref b7, .ref b8, .ref b9, .ref b10, .ref b11, .ref b12, .int 0, .ref b14, .ref b15, .ref b16, .ref b17, .int 0, .ref b19, .ref b20, .ref b21, .ref b22, .ref b23, .ref b24, .ref b25, .ref b26, .ref b27, .int 0, .ref b29, .ref b30, .ref b31, .ref b32, .ref b33, .ref b34, .ref b35]))] H) (hD : va_D (LA s) [(g, .inr (8, [.ref nw, .ref la, .ref pn])), (nw, .inr (6, [.int 0, .ref aI, .ref aS, .ref aP, .ref aL, .ref aO, .ref aT, .ref aA, .ref aQ])), (aI, .inr (0, [.int 0, .ref aI1, .ref aI2, .ref aI3, .ref aI4])), (mm, .inr (10, [.ref w, .int 0])), (w, .inr (9, [.int 0, .int 0, .ref b2, .ref b3, .ref b4, .ref b5, .int 0, .ref b7, .ref b8, .ref b9, .ref b10, .ref b11, .ref b12, .int 0, .ref b14, .ref b15, .ref b16, .ref b17, .int 0, .ref b19, .ref b20, .ref b21, .ref b22, .ref b23, .ref b24, .ref b25, .ref b26, .ref b27, .int 0, .ref b29, .ref b30, .ref b31, .ref b32, .ref b33, .ref b34, .ref b35]))]) (hS : va_S (LA s) s.heap H locs) (hl : lv_has ls 9 [(0, .ref b), (1, .ref g), (2, .ref mm), (3, .ref ou), (4, .int 0)]) : W p l e room_1 s m #[Value.ref b] below meth c H locs 123 42908 Q (F0 m 1121 ls []) := by
  obtain ⟨hx, hb, hml, hown, hts, hX, hbl, hC⟩ := C0
  have hK := hC.K
  have hA : ∀ q : Nat, s.heap.size ≤ q → LA s q := fun _ h => h
  have hAlo : ∀ q, LA s q → s.heap.size ≤ q := fun _ h => h
  have hbA : ¬ LA s b := Nat.not_le.mpr hbl
  refine lv_aload_n hx hb dL_law_1121 rfl (lv_at hl 1 rfl) ?_
  have hPc := hP.sub (ws' := [(g, .inr (8, [.ref nw, .ref la, .ref pn])), (nw, .inr (6, [.int 0, .ref aI, .ref aS, .ref aP, .ref aL, .ref aO, .ref aT, .ref aA, .ref aQ])), (aI, .inr (0, [.int 0, .ref aI1, .ref aI2, .ref aI3, .ref aI4]))]) [0, 1, 2] rfl
  have hDc := hD.sub (ws' := [(g, .inr (8, [.ref nw, .ref la, .ref pn])), (nw, .inr (6, [.int 0, .ref aI, .ref aS, .ref aP, .ref aL, .ref aO, .ref aT, .ref aA, .ref aQ])), (aI, .inr (0, [.int 0, .ref aI1, .ref aI2, .ref aI3, .ref aI4]))]) [0, 1, 2] (by decide) rfl
  refine vp_callSi (W.runV (As := []) (rest := []) ⟨hx, hb, hml, hown, hts⟩ (c_items l D cI cZ cJ s.heap.size H.size g nw la pn 0 aI aS aP aL aO aT aA aQ aI1 aI2 aI3 aI4) (cwV 0 hts gL_law_X8_items rfl rfl rfl (by decide +kernel) ⟨(Nat.le_of_ble_eq_true rfl), (Nat.le_of_ble_eq_true rfl)⟩) ⟨Pre.blind, va_recv hK hP (ci := 8) (q0 := 0) rfl rfl, Pre.mk hPc (hDc.weaken (fun _ _ _ h => hAlo _ h)) hC hS hAlo⟩ rfl rfl hl.1 rfl (lv_room (Nat.le_of_ble_eq_true rfl)) dL_law_1122 ⟨(Nat.le_of_ble_eq_true rfl), (Nat.le_of_ble_eq_true rfl)⟩) (fun r_1 e_2 => ?_)
  clear hPc hDc
  have e_2 : 0 = r_1 := Eq.symm e_2
  subst e_2
  refine lv_aload_n hx hb dL_law_1125 rfl (lv_at hl 2 rfl) ?_
  have hPc := hP.sub (ws' := [(mm, .inr (10, [.ref w, .int 0])), (w, .inr (9, [.int 0, .int 0, .ref b2, .ref b3, .ref b4, .ref b5, .int 0, .ref b7, .ref b8, .ref b9, .ref b10, .ref b11, .ref b12, .int 0, .ref b14, .ref b15, .ref b16, .ref b17, .int 0, .ref b19, .ref b20, .ref b21, .ref b22, .ref b23, .ref b24, .ref b25, .ref b26, .ref b27, .int 0, .ref b29, .ref b30, .ref b31, .ref b32, .ref b33, .ref b34, .ref b35]))]) [3, 4] rfl
  have hDc := hD.sub (ws' := [(mm, .inr (10, [.ref w, .int 0])), (w, .inr (9, [.int 0, .int 0, .ref b2, .ref b3, .ref b4, .ref b5, .int 0, .ref b7, .ref b8, .ref b9, .ref b10, .ref b11, .ref b12, .int 0, .ref b14, .ref b15, .ref b16, .ref b17, .int 0, .ref b19, .ref b20, .ref b21, .ref b22, .ref b23, .ref b24, .ref b25, .ref b26, .ref b27, .int 0, .ref b29, .ref b30, .ref b31, .ref b32, .ref b33, .ref b34, .ref b35]))]) [3, 4] (by decide) rfl
  have hFc := va_free (wc := [(mm, .inr (10, [.ref w, .int 0])), (w, .inr (9, [.int 0, .int 0, .ref b2, .ref b3, .ref b4, .ref b5, .int 0, .ref b7, .ref b8, .ref b9, .ref b10, .ref b11, .ref b12, .int 0, .ref b14, .ref b15, .ref b16, .ref b17, .int 0, .ref b19, .ref b20, .ref b21, .ref b22, .ref b23, .ref b24, .ref b25, .ref b26, .ref b27, .int 0, .ref b29, .ref b30, .ref b31, .ref b32, .ref b33, .ref b34, .ref b35]))]) hD hS hA [3, 4] rfl
  refine va_calli (va_runV (As := []) (rest := [.int 0]) ⟨hx, hb, hml, hown, hts⟩ (m_items l D cI cZ cJ s.heap.size H.size mm 0 w 0 b2 b3 b4 b5 b7 b8 b9 b10 b11 b12 b14 b15 b16 b17 b19 b20 b21 b22 b23 b24 b25 b26 b27 b29 b30 b31 b32 b33 b34 b35) (cwV 0 hts gL_law_X10_items rfl rfl rfl (by decide +kernel) ⟨(Nat.le_of_ble_eq_true rfl), (Nat.le_of_ble_eq_true rfl)⟩) ⟨Pre.blind, va_recv hK hP (ci := 10) (q0 := 3) rfl rfl, Pre.mk hPc (hDc.weaken (fun _ _ _ h => hAlo _ h)) hC hS hAlo⟩ rfl rfl hl.1 rfl (lv_room (Nat.le_of_ble_eq_true rfl)) dL_law_1126 ⟨(Nat.le_of_ble_eq_true rfl), (Nat.le_of_ble_eq_true rfl)⟩) hS (fun q _ h => hFc q h) hFc (fun r_3 u t H1 locs1 ht hvm e_4 hB hz1 hk1 hS1 => ?_)
  have hS := hS1
  refine W.widen (k := 123) (n := 42908) (by omega) (by omega) ?_
  obtain ⟨hP, hD⟩ := va_rest (wr := [(g, .inr (8, [.ref nw, .ref la, .ref pn])), (nw, .inr (6, [.int 0, .ref aI, .ref aS, .ref aP, .ref aL, .ref aO, .ref aT, .ref aA, .ref aQ])), (aI, .inr (0, [.int 0, .ref aI1, .ref aI2, .ref aI3, .ref aI4]))]) hP hD [3, 4] [0, 1, 2] rfl rfl (by decide) (by decide) hk1 hFc
  have e_4 : 0 = r_3 := Eq.symm e_4
  subst e_4
  clear hFc hPc hDc ht hvm hz1 hk1 hS1 hB
  generalize H1 = H at hP hS ⊢
  replace hP : va_P D vwCl [(g, .inr (8, [.ref nw, .ref la, .ref pn])), (nw, .inr (6, [.int 0, .ref aI, .ref aS, .ref aP, .ref aL, .ref aO, .ref aT, .ref aA, .ref aQ])), (aI, .inr (0, [.int 0, .ref aI1, .ref aI2, .ref aI3, .ref aI4]))] H := hP
  replace hD : va_D (LA s) [(g, .inr (8, [.ref nw, .ref la, .ref pn])), (nw, .inr (6, [.int 0, .ref aI, .ref aS, .ref aP, .ref aL, .ref aO, .ref aT, .ref aA, .ref aQ])), (aI, .inr (0, [.int 0, .ref aI1, .ref aI2, .ref aI3, .ref aI4]))] := hD
  refine lv_icmp_eq (tgt := 2855) hx hb dL_law_1129 (by decide) (fun _ => ?_) (fun c9 => absurd (show (0 : Int32) = (0 : Int32) from (by decide)) c9)
  refine W.widen (k := 1000) (n := 200000) (Nat.le_of_ble_eq_true rfl) (Nat.le_of_ble_eq_true rfl) ?_
  exact T H _ ls hS (lv_sub hl [0, 4] rfl)

set_option maxHeartbeats 4000000 in
set_option maxRecDepth 100000 in
/-- the law at a call of sites -/
theorem law_sites {p : Program} {l : Launch} {e : Env} {s : State} {m : MethodId} {below : List Frame} {meth : Method} {c : Code} {Q : State → Prop} (hl9 : l.stackTraces = false) (D : va_G) (cI cZ cJ : ClassId) (b : Nat) (xs : Nat → Int32) (C0 : LC s p m c D cI cZ cJ b xs) (g : Nat) (nw : Nat) (la : Nat) (pn : Nat) (aI : Nat) (aS : Nat) (aP : Nat) (aL : Nat) (aO : Nat) (aT : Nat) (aA : Nat) (aQ : Nat) (aS1 : Nat) (aS2 : Nat) (mm : Nat) (w : Nat) (b2 : Nat) (b3 : Nat) (b4 : Nat) (b5 : Nat) (b7 : Nat) (b8 : Nat) (b9 : Nat) (b10 : Nat) (b11 : Nat) (b12 : Nat) (b14 : Nat) (b15 : Nat) (b16 : Nat) (b17 : Nat) (b19 : Nat) (b20 : Nat) (b21 : Nat) (b22 : Nat) (b23 : Nat) (b24 : Nat) (b25 : Nat) (b26 : Nat) (b27 : Nat) (b29 : Nat) (b30 : Nat) (b31 : Nat) (b32 : Nat) (b33 : Nat) (b34 : Nat) (b35 : Nat) (ou : Nat) (T : LT p l e s m below meth c b Q) {H : Heap} {locs : List Loc} {ls : Array Slot} (hP : va_P D vwCl [(g, .inr (8, [.ref nw, .ref la, .ref pn])), (nw, .inr (6, [.int 0, .ref aI, .ref aS, .ref aP, .ref aL, .ref aO, .ref aT, .ref aA, .ref aQ])), (aS, .inr (5, [.int 0, .ref aS1, .ref aS2])), (mm, .inr (10, [.ref w, .int 0])), (w, .inr (9, [.int 0, .int 0, .ref b2, .ref b3, .ref b4, .ref b5, .int 0, .ref b7, .ref b8, .ref b9, .ref b10, .ref b11, .ref b12, .int 0, .ref b14, .ref b15, .ref b16, .ref b17, .int 0, .ref b19, .ref b20, .ref b21, .ref b22, .ref b23, .ref b24, .ref b25, .ref b26, .ref b27, .int 0, .ref b29, .ref b30, .ref b31, .ref b32, .ref b33, .ref b34, .ref b35]))] H) (hD : va_D (LA s) [(g, .inr (8, [.ref nw, .ref la, .ref pn])), (nw, .inr (6, [.int 0, .ref aI, .ref aS, .ref aP, .ref aL, .ref aO, .ref aT, .ref aA, .ref aQ])), (aS, .inr (5, [.int 0, .ref aS1, .ref aS2])), (mm, .inr (10, [.ref w, .int 0])), (w, .inr (9, [.int 0, .int 0, .ref b2, .ref b3, .ref b4, .ref b5, .int 0, .ref b7, .ref b8, .ref b9, .ref b10, .ref b11, .ref b12, .int 0, .ref b14, .ref b15, .ref b16, .ref b17, .int 0, .ref b19, .ref b20, .ref b21, .ref b22, .ref b23, .ref b24, .ref b25, .ref b26, .ref b27, .int 0, .ref b29, .ref b30, .ref b31, .ref b32, .ref b33, .ref b34, .ref b35]))]) (hS : va_S (LA s) s.heap H locs) (hl : lv_has ls 9 [(0, .ref b), (1, .ref g), (2, .ref mm), (3, .ref ou), (4, .int 0)]) : W p l e room_1 s m #[Value.ref b] below meth c H locs 123 42908 Q (F0 m 1134 ls []) := by
  obtain ⟨hx, hb, hml, hown, hts, hX, hbl, hC⟩ := C0
  have hK := hC.K
  have hA : ∀ q : Nat, s.heap.size ≤ q → LA s q := fun _ h => h
  have hAlo : ∀ q, LA s q → s.heap.size ≤ q := fun _ h => h
  have hbA : ¬ LA s b := Nat.not_le.mpr hbl
  refine lv_aload_n hx hb dL_law_1134 rfl (lv_at hl 1 rfl) ?_
  have hPc := hP.sub (ws' := [(g, .inr (8, [.ref nw, .ref la, .ref pn])), (nw, .inr (6, [.int 0, .ref aI, .ref aS, .ref aP, .ref aL, .ref aO, .ref aT, .ref aA, .ref aQ])), (aS, .inr (5, [.int 0, .ref aS1, .ref aS2]))]) [0, 1, 2] rfl
  have hDc := hD.sub (ws' := [(g, .inr (8, [.ref nw, .ref la, .ref pn])), (nw, .inr (6, [.int 0, .ref aI, .ref aS, .ref aP, .ref aL, .ref aO, .ref aT, .ref aA, .ref aQ])), (aS, .inr (5, [.int 0, .ref aS1, .ref aS2]))]) [0, 1, 2] (by decide) rfl
  refine vp_callSi (W.runV (As := []) (rest := []) ⟨hx, hb, hml, hown, hts⟩ (c_sites l D cI cZ cJ s.heap.size H.size g nw la pn 0 aI aS aP aL aO aT aA aQ aS1 aS2) (cwV 0 hts gL_law_X8_sites rfl rfl rfl (by decide +kernel) ⟨(Nat.le_of_ble_eq_true rfl), (Nat.le_of_ble_eq_true rfl)⟩) ⟨Pre.blind, va_recv hK hP (ci := 8) (q0 := 0) rfl rfl, Pre.mk hPc (hDc.weaken (fun _ _ _ h => hAlo _ h)) hC hS hAlo⟩ rfl rfl hl.1 rfl (lv_room (Nat.le_of_ble_eq_true rfl)) dL_law_1135 ⟨(Nat.le_of_ble_eq_true rfl), (Nat.le_of_ble_eq_true rfl)⟩) (fun r_1 e_2 => ?_)
  clear hPc hDc
  have e_2 : 0 = r_1 := Eq.symm e_2
  subst e_2
  refine lv_aload_n hx hb dL_law_1138 rfl (lv_at hl 2 rfl) ?_
  have hPc := hP.sub (ws' := [(mm, .inr (10, [.ref w, .int 0])), (w, .inr (9, [.int 0, .int 0, .ref b2, .ref b3, .ref b4, .ref b5, .int 0, .ref b7, .ref b8, .ref b9, .ref b10, .ref b11, .ref b12, .int 0, .ref b14, .ref b15, .ref b16, .ref b17, .int 0, .ref b19, .ref b20, .ref b21, .ref b22, .ref b23, .ref b24, .ref b25, .ref b26, .ref b27, .int 0, .ref b29, .ref b30, .ref b31, .ref b32, .ref b33, .ref b34, .ref b35]))]) [3, 4] rfl
  have hDc := hD.sub (ws' := [(mm, .inr (10, [.ref w, .int 0])), (w, .inr (9, [.int 0, .int 0, .ref b2, .ref b3, .ref b4, .ref b5, .int 0, .ref b7, .ref b8, .ref b9, .ref b10, .ref b11, .ref b12, .int 0, .ref b14, .ref b15, .ref b16, .ref b17, .int 0, .ref b19, .ref b20, .ref b21, .ref b22, .ref b23, .ref b24, .ref b25, .ref b26, .ref b27, .int 0, .ref b29, .ref b30, .ref b31, .ref b32, .ref b33, .ref b34, .ref b35]))]) [3, 4] (by decide) rfl
  have hFc := va_free (wc := [(mm, .inr (10, [.ref w, .int 0])), (w, .inr (9, [.int 0, .int 0, .ref b2, .ref b3, .ref b4, .ref b5, .int 0, .ref b7, .ref b8, .ref b9, .ref b10, .ref b11, .ref b12, .int 0, .ref b14, .ref b15, .ref b16, .ref b17, .int 0, .ref b19, .ref b20, .ref b21, .ref b22, .ref b23, .ref b24, .ref b25, .ref b26, .ref b27, .int 0, .ref b29, .ref b30, .ref b31, .ref b32, .ref b33, .ref b34, .ref b35]))]) hD hS hA [3, 4] rfl
  refine va_calli (va_runV (As := []) (rest := [.int 0]) ⟨hx, hb, hml, hown, hts⟩ (m_sites l D cI cZ cJ s.heap.size H.size mm 0 w 0 b2 b3 b4 b5 b7 b8 b9 b10 b11 b12 b14 b15 b16 b17 b19 b20 b21 b22 b23 b24 b25 b26 b27 b29 b30 b31 b32 b33 b34 b35) (cwV 0 hts gL_law_X10_sites rfl rfl rfl (by decide +kernel) ⟨(Nat.le_of_ble_eq_true rfl), (Nat.le_of_ble_eq_true rfl)⟩) ⟨Pre.blind, va_recv hK hP (ci := 10) (q0 := 3) rfl rfl, Pre.mk hPc (hDc.weaken (fun _ _ _ h => hAlo _ h)) hC hS hAlo⟩ rfl rfl hl.1 rfl (lv_room (Nat.le_of_ble_eq_true rfl)) dL_law_1139 ⟨(Nat.le_of_ble_eq_true rfl), (Nat.le_of_ble_eq_true rfl)⟩) hS (fun q _ h => hFc q h) hFc (fun r_3 u t H1 locs1 ht hvm e_4 hB hz1 hk1 hS1 => ?_)
  have hS := hS1
  refine W.widen (k := 123) (n := 42908) (by omega) (by omega) ?_
  obtain ⟨hP, hD⟩ := va_rest (wr := [(g, .inr (8, [.ref nw, .ref la, .ref pn])), (nw, .inr (6, [.int 0, .ref aI, .ref aS, .ref aP, .ref aL, .ref aO, .ref aT, .ref aA, .ref aQ])), (aS, .inr (5, [.int 0, .ref aS1, .ref aS2]))]) hP hD [3, 4] [0, 1, 2] rfl rfl (by decide) (by decide) hk1 hFc
  have e_4 : 0 = r_3 := Eq.symm e_4
  subst e_4
  clear hFc hPc hDc ht hvm hz1 hk1 hS1 hB
  generalize H1 = H at hP hS ⊢
  replace hP : va_P D vwCl [(g, .inr (8, [.ref nw, .ref la, .ref pn])), (nw, .inr (6, [.int 0, .ref aI, .ref aS, .ref aP, .ref aL, .ref aO, .ref aT, .ref aA, .ref aQ])), (aS, .inr (5, [.int 0, .ref aS1, .ref aS2]))] H := hP
  replace hD : va_D (LA s) [(g, .inr (8, [.ref nw, .ref la, .ref pn])), (nw, .inr (6, [.int 0, .ref aI, .ref aS, .ref aP, .ref aL, .ref aO, .ref aT, .ref aA, .ref aQ])), (aS, .inr (5, [.int 0, .ref aS1, .ref aS2]))] := hD
  refine lv_icmp_eq (tgt := 2855) hx hb dL_law_1142 (by decide) (fun _ => ?_) (fun c9 => absurd (show (0 : Int32) = (0 : Int32) from (by decide)) c9)
  refine W.widen (k := 1000) (n := 200000) (Nat.le_of_ble_eq_true rfl) (Nat.le_of_ble_eq_true rfl) ?_
  exact T H _ ls hS (lv_sub hl [0, 4] rfl)

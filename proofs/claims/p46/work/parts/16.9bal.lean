def sg_g_balance_38 (U : sg_Pic) (V : sg_PiL) (P : sg_Pic) (xi : Nat) (j21 : Nat) (x21_2 : Int32) (P21 : sg_Pic) : Nat → Int32 × sg_Pic
  | 0 => (x21_2, P21)
  | j38 + 1 => (((sg_g_balance_38 U V P xi j21 x21_2 P21 j38).1) + (sg_sendUnits_r ((sg_g_balance_38 U V P xi j21 x21_2 P21 j38).2) (nI xi) (nI j21) (nI j38) ((sg_make_U U V P xi) 6 ((j21 * 5) + j38))), sg_sendUnits ((sg_g_balance_38 U V P xi j21 x21_2 P21 j38).2) (nI xi) (nI j21) (nI j38) ((sg_make_U U V P xi) 6 ((j21 * 5) + j38)))
theorem sg_g_balance_38_K (U : sg_Pic) (V : sg_PiL) (P : sg_Pic) (xi : Nat) (j21 : Nat) (x21_2 : Int32) (P21 : sg_Pic) : ∀ j : Nat, sg_K5 ((sg_g_balance_38 U V P xi j21 x21_2 P21 j).2) P21
  | 0 => by exact sg_K5.of ⟨rfl, rfl⟩
  | j + 1 => by
    have h := sg_g_balance_38_K U V P xi j21 x21_2 P21 j
    rw [sg_g_balance_38]
    repeat' split
    all_goals first | exact h | (refine sg_K5.trans ?_ h; exact sg_K5.of ⟨rfl, rfl⟩) | (refine sg_K5.trans ?_ h; exact sg_sendUnits_K _ _ _ _ _)

def sg_g_balance_21 (U : sg_Pic) (V : sg_PiL) (P : sg_Pic) (xi : Nat) : Nat → Int32 × sg_Pic
  | 0 => (0, P)
  | j21 + 1 => ((sg_g_balance_38 U V P xi j21 ((sg_g_balance_21 U V P xi j21).1) ((sg_g_balance_21 U V P xi j21).2) (sg_cn P 2)).1, (sg_g_balance_38 U V P xi j21 ((sg_g_balance_21 U V P xi j21).1) ((sg_g_balance_21 U V P xi j21).2) (sg_cn P 2)).2)
theorem sg_g_balance_21_K (U : sg_Pic) (V : sg_PiL) (P : sg_Pic) (xi : Nat) : ∀ j : Nat, sg_K5 ((sg_g_balance_21 U V P xi j).2) P
  | 0 => by exact sg_K5.of ⟨rfl, rfl⟩
  | j + 1 => by
    have h := sg_g_balance_21_K U V P xi j
    rw [sg_g_balance_21]
    repeat' split
    all_goals first | exact h | (refine sg_K5.trans ?_ h; exact sg_K5.of ⟨rfl, rfl⟩) | (refine sg_K5.trans ?_ h; exact sg_g_balance_38_K _ _ _ _ _ _ _ _)

def sg_g_balance_r (U : sg_Pic) (V : sg_PiL) (P : sg_Pic) (xi : Nat) : Int32 := ((sg_g_balance_21 U V P xi (sg_cn P 2)).1)

def sg_g_balance (U : sg_Pic) (V : sg_PiL) (P : sg_Pic) (xi : Nat) : sg_Pic := ((sg_g_balance_21 U V P xi (sg_cn P 2)).2)

def sg_g_balance_U (U : sg_Pic) (V : sg_PiL) (P : sg_Pic) (xi : Nat) : sg_Pic := (sg_make_U U V P xi)

def sg_g_balance_V (U : sg_Pic) (V : sg_PiL) (P : sg_Pic) (xi : Nat) : sg_PiL := (sg_make_V U V P xi)

set_option maxHeartbeats 4000000 in
set_option maxRecDepth 100000 in
/-- X8_balance -/
theorem c_g_balance (l : Launch) (D : va_G) (cI cZ cJ : ClassId) (lo sz : Nat) (g : Nat) (pa : Nat → Nat) (b : Nat → Nat) (U : sg_Pic) (V : sg_PiL) (a : Nat → Nat) (P : sg_Pic) (q : Nat → Int32) (xi : Nat) (hw : sg_W P) (hi : xi < sg_cn P 1) : Met l yX8_balance wsX8_balance ({ frames := 5, cells := 0, slots := 0, locals := 117 }) (Pre lo D cI cZ cJ [.ref g, .int (nI xi)] sz ([(g, .inr (8, [.ref (a 0), .ref (b 0), .ref (pa 0)]))] ++ sg_St cI cZ a P q ++ sg_Pl cI cJ pa U V)) (va_Qi (fun (r : Int32) (_ : Unit) => r = sg_g_balance_r U V P xi) (fun _ t => va_P D vwCl ([(g, .inr (8, [.ref (a 0), .ref (b 0), .ref (pa 0)]))] ++ sg_St cI cZ a (sg_g_balance U V P xi) q ++ sg_Pl cI cJ pa (sg_g_balance_U U V P xi) (sg_g_balance_V U V P xi)) t.heap ∧ va_D (va_A ([(g, .inr (8, [.ref (a 0), .ref (b 0), .ref (pa 0)]))] ++ sg_St cI cZ a P q ++ sg_Pl cI cJ pa U V) sz) ([(g, .inr (8, [.ref (a 0), .ref (b 0), .ref (pa 0)]))] ++ sg_St cI cZ a (sg_g_balance U V P xi) q ++ sg_Pl cI cJ pa (sg_g_balance_U U V P xi) (sg_g_balance_V U V P xi))) (va_A ([(g, .inr (8, [.ref (a 0), .ref (b 0), .ref (pa 0)]))] ++ sg_St cI cZ a P q ++ sg_Pl cI cJ pa U V) sz)) 0 0 (va_A ([(g, .inr (8, [.ref (a 0), .ref (b 0), .ref (pa 0)]))] ++ sg_St cI cZ a P q ++ sg_Pl cI cJ pa U V) sz) := by
  refine Met.ofW (cc := cX8_balance) (maxL := 5) (ret := (some .int)) (by decide) rfl ?_
  intro p e s m args below meth c s₁ B hml hv
  obtain ⟨rfl, hsz, hP, hD0, hC⟩ := hv
  have hx := B.exec
  have hb := B.bytes
  have hr := B.returns
  have hts := atoms_spec (ws := wsX8_balance) B.pre
  have hown : s.vm.findClass RX8 = some m.cls := findClass_of_methodNamed B.named
  have hlocks := B.notSynchronized
  subst hsz
  have hn1 : sg_cn P 1 ≤ 6 := hw.n1
  have hn2 : sg_cn P 2 ≤ 5 := hw.n2
  have hn3 : sg_cn P 3 ≤ 200 := hw.n3
  have hn4 : sg_cn P 4 ≤ 60 := hw.n4
  have hn5 : sg_cn P 5 ≤ 90 := hw.n5
  have hK := hC.K
  have hD := hD0.self (sz := s.heap.size)
  have hAlo0 := va_A_lo hD0 hC.1
  generalize hAe : va_A ([(g, .inr (8, [.ref (a 0), .ref (b 0), .ref (pa 0)]))] ++ sg_St cI cZ a P q ++ sg_Pl cI cJ pa U V) s.heap.size = A at hD hAlo0 ⊢
  have hA : ∀ q : Nat, s.heap.size ≤ q → A q := fun q h => by rw [← hAe]; exact Or.inr h
  have hAlo : ∀ q, A q → lo ≤ q := hAlo0
  have hS : va_S A s.heap s.heap [] := va_S.rf
  have hP : va_P D vwCl ([(g, .inr (8, [.ref (a 0), .ref (b 0), .ref (pa 0)]))] ++ sg_St cI cZ a P q ++ sg_Pl cI cJ pa U V) s.heap := hP
  have hl := lv_entry ([.ref g, .int (nI xi)]) (n := 5) (Nat.le_of_ble_eq_true rfl)
  rw [lg_entry_eq]
  generalize (lg_sl ([.ref g, .int (nI xi)]) ++ List.replicate (5 - (lg_sl ([.ref g, .int (nI xi)])).length) Slot.unset).toArray = ls at hl ⊢
  have hl : lv_has ls 5 [(0, .ref g), (1, .int (nI xi))] := hl
  have in3 : ∀ w ∈ u_ws RX3 TX3 7, w ∈ wsX8_balance := by decide +kernel
  have in5 : ∀ w ∈ u_ws RX5 TX5 3, w ∈ wsX8_balance := by decide +kernel
  have in6 : ∀ w ∈ u_ws RX6 TX6 9, w ∈ wsX8_balance := by decide +kernel
  have in8 : ∀ w ∈ u_ws RX8 TX8 3, w ∈ wsX8_balance := by decide +kernel
  refine lv_aload_n hx hb dX8_balance_0 rfl (lv_at hl 0 rfl) ?_
  refine lv_iload_n hx hb dX8_balance_1 rfl (lv_at hl 1 rfl) ?_
  have hPc := hP.sub (ws' := [(g, .inr (8, [.ref (a 0), .ref (b 0), .ref (pa 0)])), (a 0, .inr (6, [.int (P 0 0), .ref (a 1), .ref (a 2), .ref (a 3), .ref (a 4), .ref (a 5), .ref (a 6), .ref (a 70), .ref (a 71)])), (a 1, .inr (0, [.int (P 0 1), .ref (a 10), .ref (a 11), .ref (a 12), .ref (a 13)]))]) [0, 1, 2] rfl
  have hDc := hD.sub (ws' := [(g, .inr (8, [.ref (a 0), .ref (b 0), .ref (pa 0)])), (a 0, .inr (6, [.int (P 0 0), .ref (a 1), .ref (a 2), .ref (a 3), .ref (a 4), .ref (a 5), .ref (a 6), .ref (a 70), .ref (a 71)])), (a 1, .inr (0, [.int (P 0 1), .ref (a 10), .ref (a 11), .ref (a 12), .ref (a 13)]))]) [0, 1, 2] (by decide) rfl
  refine va_csv (W.runV (As := [.int (nI xi)]) (rest := []) ⟨hx, hb, hml, hown, hts⟩ (c_needItem l D cI cZ cJ lo s.heap.size g pa b a P xi hw (by omega)) (cwV 1 hts gX8_balance_X8_needItem rfl rfl rfl (by decide +kernel) ⟨(Nat.le_of_ble_eq_true rfl), (Nat.le_of_ble_eq_true rfl)⟩) ⟨Pre.blind, va_recv hK hP (ci := 8) (q0 := 0) rfl rfl, Pre.mk hPc (hDc.weaken (fun _ _ _ h => hAlo _ h)) hC hS hAlo⟩ rfl rfl hl.1 rfl (lv_room (Nat.le_of_ble_eq_true rfl)) dX8_balance_2 ⟨(Nat.le_of_ble_eq_true rfl), (Nat.le_of_ble_eq_true rfl)⟩) (fun e_1 => ?_)
  clear hPc hDc
  refine lv_aload_n hx hb dX8_balance_5 rfl (lv_at hl 0 rfl) ?_
  refine va_get (D := D) (ci := 8) (v := .ref (pa 0)) (C := RX8) (T := TX8) (N := 3) hx hb hts in8 hown hK hP 0 rfl rfl 2 (by decide) (hts (.fieldLink RX8 22 "Granary" "plan" "LGranary$Plan;") (by decide +kernel)) (fun _ h9 => h9) rfl dX8_balance_6 ?_
  refine lv_aload_n hx hb dX8_balance_9 rfl (lv_at hl 0 rfl) ?_
  refine va_get (D := D) (ci := 8) (v := .ref (a 0)) (C := RX8) (T := TX8) (N := 3) hx hb hts in8 hown hK hP 0 rfl rfl 0 (by decide) (hts (.fieldLink RX8 10 "Granary" "now" "LGranary$Stock;") (by decide +kernel)) (fun _ h9 => h9) rfl dX8_balance_10 ?_
  refine lv_iload_n hx hb dX8_balance_13 rfl (lv_at hl 1 rfl) ?_
  have hPc := hP.sub (ws' := (sg_St cI cZ a P q ++ sg_Pl cI cJ pa U V)) [1, 2, 3, 4, 5, 6, 7, 8, 9, 10, 11, 12, 13, 14, 15, 16, 17, 18, 19, 20, 21, 22, 23, 24, 25, 26, 27, 28, 29, 30, 31, 32, 33, 34, 35, 36, 37, 38, 39, 40, 41, 42, 43, 44, 45, 46, 47, 48] rfl
  have hDc := hD.sub (ws' := (sg_St cI cZ a P q ++ sg_Pl cI cJ pa U V)) [1, 2, 3, 4, 5, 6, 7, 8, 9, 10, 11, 12, 13, 14, 15, 16, 17, 18, 19, 20, 21, 22, 23, 24, 25, 26, 27, 28, 29, 30, 31, 32, 33, 34, 35, 36, 37, 38, 39, 40, 41, 42, 43, 44, 45, 46, 47, 48] (by decide) rfl
  have hFc := va_free (wc := (sg_St cI cZ a P q ++ sg_Pl cI cJ pa U V)) hD hS hA [1, 2, 3, 4, 5, 6, 7, 8, 9, 10, 11, 12, 13, 14, 15, 16, 17, 18, 19, 20, 21, 22, 23, 24, 25, 26, 27, 28, 29, 30, 31, 32, 33, 34, 35, 36, 37, 38, 39, 40, 41, 42, 43, 44, 45, 46, 47, 48] rfl
  refine va_callv (va_runV (As := [.ref (a 0), .int (nI xi)]) (rest := []) ⟨hx, hb, hml, hown, hts⟩ (c_make l D cI cZ cJ lo s.heap.size pa U V a P q xi hw (by omega)) (cwV 2 hts gX8_balance_X3_make rfl rfl rfl (by decide +kernel) ⟨(Nat.le_of_ble_eq_true rfl), (Nat.le_of_ble_eq_true rfl)⟩) ⟨Pre.blind, va_recv hK hP (ci := 3) (q0 := 42) rfl rfl, Pre.mk hPc (hDc.weaken (fun _ _ _ h => hAlo _ h)) hC hS hAlo⟩ rfl rfl hl.1 rfl (lv_room (Nat.le_of_ble_eq_true rfl)) dX8_balance_14 ⟨(Nat.le_of_ble_eq_true rfl), (Nat.le_of_ble_eq_true rfl)⟩) hS (fun q _ h => hFc q h) hFc (fun u t H1 locs1 ht hvm e_2 hB hz1 hk1 hS1 => ?_)
  have hS := hS1
  obtain ⟨hP1, hD1⟩ := hB
  rw [ht] at hP1
  obtain ⟨hP, hD⟩ := va_join (wr := [(g, .inr (8, [.ref (a 0), .ref (b 0), .ref (pa 0)]))]) (w1 := (sg_St cI cZ a P q ++ sg_Pl cI cJ pa (sg_make_U U V P xi) (sg_make_V U V P xi))) hP hD [1, 2, 3, 4, 5, 6, 7, 8, 9, 10, 11, 12, 13, 14, 15, 16, 17, 18, 19, 20, 21, 22, 23, 24, 25, 26, 27, 28, 29, 30, 31, 32, 33, 34, 35, 36, 37, 38, 39, 40, 41, 42, 43, 44, 45, 46, 47, 48] [0] rfl rfl (by decide) (by decide) hk1 hFc hP1 hD1
  have e_2 : True := e_2
  clear hFc hPc hDc ht hvm hz1 hk1 hS1 hP1 hD1
  generalize H1 = H at hP hS ⊢
  replace hP : va_P D vwCl ([(g, .inr (8, [.ref (a 0), .ref (b 0), .ref (pa 0)]))] ++ sg_St cI cZ a P q ++ sg_Pl cI cJ pa (sg_make_U U V P xi) (sg_make_V U V P xi)) H := hP
  replace hD : va_D A ([(g, .inr (8, [.ref (a 0), .ref (b 0), .ref (pa 0)]))] ++ sg_St cI cZ a P q ++ sg_Pl cI cJ pa (sg_make_U U V P xi) (sg_make_V U V P xi)) := hD
  refine lv_iconst (v := 0) hx hb dX8_balance_17 (by decide) ?_
  refine lv_istore_n (lv' := [(2, .int 0), (0, .ref g), (1, .int (nI xi))]) hx hb dX8_balance_18 rfl hl (by decide) rfl (fun ls hl => ?_)
  refine lv_iconst (v := 0) hx hb dX8_balance_19 (by decide) ?_
  refine lv_istore_n (lv' := [(3, .int 0), (2, .int 0), (0, .ref g), (1, .int (nI xi))]) hx hb dX8_balance_20 rfl hl (by decide) rfl (fun ls hl => ?_)
  generalize locs1 = locs at hS ⊢
  obtain ⟨j21, h0j21⟩ : ∃ j : Nat, j = 0 := ⟨_, rfl⟩
  obtain ⟨x21_2, hx21_2⟩ : ∃ z9 : Int32, z9 = (sg_g_balance_21 U V P xi j21).1 := ⟨_, rfl⟩
  obtain ⟨P21, hP21⟩ : ∃ z9 : sg_Pic, z9 = (sg_g_balance_21 U V P xi j21).2 := ⟨_, rfl⟩
  replace hl : lv_has ls 5 [(3, .int (nI j21)), (2, .int x21_2), (0, .ref g), (1, .int (nI xi))] := by rw [hx21_2, h0j21]; exact hl
  replace hP : va_P D vwCl ([(g, .inr (8, [.ref (a 0), .ref (b 0), .ref (pa 0)]))] ++ sg_St cI cZ a P21 q ++ sg_Pl cI cJ pa (sg_make_U U V P xi) (sg_make_V U V P xi)) H := by rw [hP21, h0j21]; exact hP
  replace hD : va_D A ([(g, .inr (8, [.ref (a 0), .ref (b 0), .ref (pa 0)]))] ++ sg_St cI cZ a P21 q ++ sg_Pl cI cJ pa (sg_make_U U V P xi) (sg_make_V U V P xi)) := by rw [hP21, h0j21]; exact hD
  have hjj21 : j21 ≤ sg_cn P 2 := by omega
  clear h0j21
  obtain ⟨n21, hn21⟩ : ∃ n : Nat, sg_cn P 2 < j21 + n := ⟨sg_cn P 2 + 1, by omega⟩
  revert hP
  revert hD
  revert hS
  revert hl
  revert hn21
  revert hjj21
  revert hx21_2
  revert hP21
  revert ls
  revert locs
  revert H
  revert x21_2
  revert P21
  revert j21
  induction n21 with
  | zero =>
    intro j21 P21 x21_2 H locs ls hP21 hx21_2 hjj21 hn21 hl hS hD hP
    exact absurd hn21 (by omega)
  | succ n21 ih21 =>
    intro j21 P21 x21_2 H locs ls hP21 hx21_2 hjj21 hn21 hl hS hD hP
    refine lv_iload_n hx hb dX8_balance_21 rfl (lv_at hl 0 rfl) ?_
    refine lv_aload_n hx hb dX8_balance_22 rfl (lv_at hl 2 rfl) ?_
    refine va_get (D := D) (ci := 8) (v := .ref (a 0)) (C := RX8) (T := TX8) (N := 3) hx hb hts in8 hown hK hP 0 rfl rfl 0 (by decide) (hts (.fieldLink RX8 10 "Granary" "now" "LGranary$Stock;") (by decide +kernel)) (fun _ h9 => h9) rfl dX8_balance_23 ?_
    refine va_get (D := D) (ci := 6) (v := .ref (a 2)) (C := RX6) (T := TX6) (N := 9) hx hb hts in6 hown hK hP 1 rfl rfl 2 (by decide) (hts (.fieldLink RX8 48 "Granary$Stock" "sites" "LGranary$Sites;") (by decide +kernel)) (fun _ h9 => h9) rfl dX8_balance_26 ?_
    refine va_get (D := D) (ci := 5) (v := .int (P21 0 2)) (C := RX5) (T := TX5) (N := 3) hx hb hts in5 hown hK hP 3 rfl rfl 0 (by decide) (hts (.fieldLink RX8 52 "Granary$Sites" "count" "I") (by decide +kernel)) (fun _ h9 => h9) rfl dX8_balance_29 ?_
    have hkP21 : sg_K5 P21 P := by rw [hP21]; exact sg_g_balance_21_K U V P xi j21
    have hB21 : ((P21 0 2) : Int32) = nI (sg_cn P 2) := ((hkP21.e 2 (by decide)).trans hw.e2)
    refine lv_icmp_ge (tgt := 93) hx hb dX8_balance_32 (by decide) (fun c_3 => ?_) (fun c_3 => ?_)
    · have hE21 : sg_cn P 2 = j21 := (sg_eq hB21 c_3 hjj21 (by omega)).symm
      clear ih21 hn21
      subst hE21
      subst hx21_2
      subst hP21
      refine lv_iload_n hx hb dX8_balance_93 rfl (lv_at hl 1 rfl) ?_
      refine W.widen (k := 0) (n := 0) (by omega) (by omega) ?_
      have hP9 : va_P D vwCl ([(g, .inr (8, [.ref (a 0), .ref (b 0), .ref (pa 0)]))] ++ sg_St cI cZ a (sg_g_balance U V P xi) q ++ sg_Pl cI cJ pa (sg_g_balance_U U V P xi) (sg_g_balance_V U V P xi)) H := by exact hP
      have hD9 : va_D A ([(g, .inr (8, [.ref (a 0), .ref (b 0), .ref (pa 0)]))] ++ sg_St cI cZ a (sg_g_balance U V P xi) q ++ sg_Pl cI cJ pa (sg_g_balance_U U V P xi) (sg_g_balance_V U V P xi)) := by exact hD
      exact W.iret (v := ((sg_g_balance_21 U V P xi (sg_cn P 2)).1)) hx hb hr (fun t ht hW => ⟨⟨((sg_g_balance_21 U V P xi (sg_cn P 2)).1), (), rfl, rfl, by rw [ht]; exact hP9, hD9⟩, hS.F ht⟩) hS.2.2 dX8_balance_94
    · have hL21 : j21 < sg_cn P 2 := sg_lt hB21 c_3 (by omega)
      refine lv_iconst (v := 0) hx hb dX8_balance_35 (by decide) ?_
      refine lv_istore (lv' := [(4, .int 0), (3, .int (nI j21)), (2, .int x21_2), (0, .ref g), (1, .int (nI xi))]) hx hb dX8_balance_36 hl (by decide) rfl (fun ls hl => ?_)
      obtain ⟨j38, h0j38⟩ : ∃ j : Nat, j = 0 := ⟨_, rfl⟩
      obtain ⟨x38_2, hx38_2⟩ : ∃ z9 : Int32, z9 = (sg_g_balance_38 U V P xi j21 x21_2 P21 j38).1 := ⟨_, rfl⟩
      obtain ⟨P38, hP38⟩ : ∃ z9 : sg_Pic, z9 = (sg_g_balance_38 U V P xi j21 x21_2 P21 j38).2 := ⟨_, rfl⟩
      replace hl : lv_has ls 5 [(4, .int (nI j38)), (3, .int (nI j21)), (2, .int x38_2), (0, .ref g), (1, .int (nI xi))] := by rw [hx38_2, h0j38]; exact hl
      replace hP : va_P D vwCl ([(g, .inr (8, [.ref (a 0), .ref (b 0), .ref (pa 0)]))] ++ sg_St cI cZ a P38 q ++ sg_Pl cI cJ pa (sg_make_U U V P xi) (sg_make_V U V P xi)) H := by rw [hP38, h0j38]; exact hP
      replace hD : va_D A ([(g, .inr (8, [.ref (a 0), .ref (b 0), .ref (pa 0)]))] ++ sg_St cI cZ a P38 q ++ sg_Pl cI cJ pa (sg_make_U U V P xi) (sg_make_V U V P xi)) := by rw [hP38, h0j38]; exact hD
      have hjj38 : j38 ≤ sg_cn P 2 := by omega
      clear h0j38
      obtain ⟨n38, hn38⟩ : ∃ n : Nat, sg_cn P 2 < j38 + n := ⟨sg_cn P 2 + 1, by omega⟩
      revert hP
      revert hD
      revert hS
      revert hl
      revert hn38
      revert hjj38
      revert hx38_2
      revert hP38
      revert ls
      revert locs
      revert H
      revert x38_2
      revert P38
      revert j38
      induction n38 with
      | zero =>
        intro j38 P38 x38_2 H locs ls hP38 hx38_2 hjj38 hn38 hl hS hD hP
        exact absurd hn38 (by omega)
      | succ n38 ih38 =>
        intro j38 P38 x38_2 H locs ls hP38 hx38_2 hjj38 hn38 hl hS hD hP
        refine lv_iload hx hb dX8_balance_38 (lv_at hl 0 rfl) ?_
        refine lv_aload_n hx hb dX8_balance_40 rfl (lv_at hl 3 rfl) ?_
        refine va_get (D := D) (ci := 8) (v := .ref (a 0)) (C := RX8) (T := TX8) (N := 3) hx hb hts in8 hown hK hP 0 rfl rfl 0 (by decide) (hts (.fieldLink RX8 10 "Granary" "now" "LGranary$Stock;") (by decide +kernel)) (fun _ h9 => h9) rfl dX8_balance_41 ?_
        refine va_get (D := D) (ci := 6) (v := .ref (a 2)) (C := RX6) (T := TX6) (N := 9) hx hb hts in6 hown hK hP 1 rfl rfl 2 (by decide) (hts (.fieldLink RX8 48 "Granary$Stock" "sites" "LGranary$Sites;") (by decide +kernel)) (fun _ h9 => h9) rfl dX8_balance_44 ?_
        refine va_get (D := D) (ci := 5) (v := .int (P38 0 2)) (C := RX5) (T := TX5) (N := 3) hx hb hts in5 hown hK hP 3 rfl rfl 0 (by decide) (hts (.fieldLink RX8 52 "Granary$Sites" "count" "I") (by decide +kernel)) (fun _ h9 => h9) rfl dX8_balance_47 ?_
        have hkP38 : sg_K5 P38 P21 := by rw [hP38]; exact sg_g_balance_38_K U V P xi j21 x21_2 P21 j38
        have hB38 : ((P38 0 2) : Int32) = nI (sg_cn P 2) := ((hkP38.e 2 (by decide)).trans ((hkP21.e 2 (by decide)).trans hw.e2))
        refine lv_icmp_ge (tgt := 87) hx hb dX8_balance_50 (by decide) (fun c_4 => ?_) (fun c_4 => ?_)
        · have hE38 : sg_cn P 2 = j38 := (sg_eq hB38 c_4 hjj38 (by omega)).symm
          clear ih38 hn38
          subst hE38
          subst hx38_2
          subst hP38
          refine lv_iinc (v := nI (j21 + 1)) (lv' := [(3, .int (nI (j21 + 1))), (4, .int (nI (sg_cn P 2))), (2, .int ((sg_g_balance_38 U V P xi j21 x21_2 P21 (sg_cn P 2)).1)), (0, .ref g), (1, .int (nI xi))]) hx hb dX8_balance_87 hl (k := 1) rfl (nI_1 j21) (by decide) rfl (fun ls hl => ?_)
          refine lv_goto (tgt := 21) hx hb dX8_balance_90 (by decide) ?_
          have hl8 := hl; have hS8 := hS; have hD8 := hD; have hP8 := hP
          subst hx21_2
          subst hP21
          exact ih21 (j21 + 1) ((sg_g_balance_38 U V P xi j21 ((sg_g_balance_21 U V P xi j21).1) ((sg_g_balance_21 U V P xi j21).2) (sg_cn P 2)).2) ((sg_g_balance_38 U V P xi j21 ((sg_g_balance_21 U V P xi j21).1) ((sg_g_balance_21 U V P xi j21).2) (sg_cn P 2)).1) _ _ _ (show ((sg_g_balance_38 U V P xi j21 ((sg_g_balance_21 U V P xi j21).1) ((sg_g_balance_21 U V P xi j21).2) (sg_cn P 2)).2 : sg_Pic) = (sg_g_balance_21 U V P xi (j21 + 1)).2 from by rw [sg_g_balance_21]) (show ((sg_g_balance_38 U V P xi j21 ((sg_g_balance_21 U V P xi j21).1) ((sg_g_balance_21 U V P xi j21).2) (sg_cn P 2)).1 : Int32) = (sg_g_balance_21 U V P xi (j21 + 1)).1 from by rw [sg_g_balance_21]) (by omega) (by omega) (lv_sub hl8 [0, 2, 3, 4] rfl) hS8 hD8 hP8
        · have hL38 : j38 < sg_cn P 2 := sg_lt hB38 c_4 (by omega)
          refine lv_iload_n hx hb dX8_balance_53 rfl (lv_at hl 2 rfl) ?_
          refine lv_aload_n hx hb dX8_balance_54 rfl (lv_at hl 3 rfl) ?_
          refine va_get (D := D) (ci := 8) (v := .ref (a 0)) (C := RX8) (T := TX8) (N := 3) hx hb hts in8 hown hK hP 0 rfl rfl 0 (by decide) (hts (.fieldLink RX8 10 "Granary" "now" "LGranary$Stock;") (by decide +kernel)) (fun _ h9 => h9) rfl dX8_balance_55 ?_
          refine lv_iload_n hx hb dX8_balance_58 rfl (lv_at hl 4 rfl) ?_
          refine lv_iload_n hx hb dX8_balance_59 rfl (lv_at hl 1 rfl) ?_
          refine lv_iload hx hb dX8_balance_60 (lv_at hl 0 rfl) ?_
          refine lv_aload_n hx hb dX8_balance_62 rfl (lv_at hl 3 rfl) ?_
          refine va_get (D := D) (ci := 8) (v := .ref (pa 0)) (C := RX8) (T := TX8) (N := 3) hx hb hts in8 hown hK hP 0 rfl rfl 2 (by decide) (hts (.fieldLink RX8 22 "Granary" "plan" "LGranary$Plan;") (by decide +kernel)) (fun _ h9 => h9) rfl dX8_balance_63 ?_
          refine va_get (D := D) (ci := 3) (v := .ref (pa 6)) (C := RX3) (T := TX3) (N := 7) hx hb hts in3 hown hK hP 42 rfl rfl 6 (by decide) (hts (.fieldLink RX8 182 "Granary$Plan" "units" "[I") (by decide +kernel)) (fun _ h9 => h9) rfl dX8_balance_66 ?_
          refine lv_iload_n hx hb dX8_balance_69 rfl (lv_at hl 1 rfl) ?_
          refine lv_iload hx hb dX8_balance_70 (lv_at hl 0 rfl) ?_
          have hPc := hP.sub (ws' := []) [] rfl
          have hDc := hD.sub (ws' := []) [] (by decide) rfl
          refine vp_callSi (W.runS (As := [.int (nI j21), .int (nI j38)]) (rest := [.ref (pa 6), .int (nI j38), .int (nI j21), .int (nI xi), .ref (a 0), .int x38_2]) ⟨hx, hb, hml, hown, hts⟩ (c_pair l D cI cZ cJ lo H.size j21 j38) (va_cwS 2 hts gX8_balance_X8_pair rfl rfl rfl (by decide +kernel) ⟨(Nat.le_of_ble_eq_true rfl), (Nat.le_of_ble_eq_true rfl)⟩) ⟨Pre.blind, Pre.mk hPc (hDc.weaken (fun _ _ _ h => hAlo _ h)) hC hS hAlo⟩ rfl rfl hl.1 rfl (lv_room (Nat.le_of_ble_eq_true rfl)) dX8_balance_72 ⟨(Nat.le_of_ble_eq_true rfl), (Nat.le_of_ble_eq_true rfl)⟩) (fun r_5 e_6 => ?_)
          clear hPc hDc
          have e_6 : nI ((j21 * 5) + j38) = r_5 := Eq.symm e_6
          subst e_6
          refine sg_iald hx hb hK hP 48 0 rfl rfl (j := (j21 * 5) + j38) rfl (by omega) (Nat.le_of_ble_eq_true rfl) dX8_balance_75 ?_
          refine lv_toi (y := (sg_make_U U V P xi) 6 ((j21 * 5) + j38)) rfl ?_
          have hPc := hP.sub (ws' := (sg_St cI cZ a P38 q)) [1, 2, 3, 4, 5, 6, 7, 8, 9, 10, 11, 12, 13, 14, 15, 16, 17, 18, 19, 20, 21, 22, 23, 24, 25, 26, 27, 28, 29, 30, 31, 32, 33, 34, 35, 36, 37, 38, 39, 40, 41] rfl
          have hDc := hD.sub (ws' := (sg_St cI cZ a P38 q)) [1, 2, 3, 4, 5, 6, 7, 8, 9, 10, 11, 12, 13, 14, 15, 16, 17, 18, 19, 20, 21, 22, 23, 24, 25, 26, 27, 28, 29, 30, 31, 32, 33, 34, 35, 36, 37, 38, 39, 40, 41] (by decide) rfl
          have hFc := va_free (wc := (sg_St cI cZ a P38 q)) hD hS hA [1, 2, 3, 4, 5, 6, 7, 8, 9, 10, 11, 12, 13, 14, 15, 16, 17, 18, 19, 20, 21, 22, 23, 24, 25, 26, 27, 28, 29, 30, 31, 32, 33, 34, 35, 36, 37, 38, 39, 40, 41] rfl
          refine va_calli (va_runV (As := [.int (nI xi), .int (nI j21), .int (nI j38), .int ((sg_make_U U V P xi) 6 ((j21 * 5) + j38))]) (rest := [.int x38_2]) ⟨hx, hb, hml, hown, hts⟩ (c_sendUnits l D cI cZ cJ lo H.size a P38 q (nI xi) (nI j21) (nI j38) ((sg_make_U U V P xi) 6 ((j21 * 5) + j38)) (hkP38.W (hkP21.W hw))) (cwV 4 hts gX8_balance_X6_sendUnits rfl rfl rfl (by decide +kernel) ⟨(Nat.le_of_ble_eq_true rfl), (Nat.le_of_ble_eq_true rfl)⟩) ⟨Pre.blind, va_recv hK hP (ci := 6) (q0 := 1) rfl rfl, Pre.mk hPc (hDc.weaken (fun _ _ _ h => hAlo _ h)) hC hS hAlo⟩ rfl rfl hl.1 rfl (lv_room (Nat.le_of_ble_eq_true rfl)) dX8_balance_76 ⟨(Nat.le_of_ble_eq_true rfl), (Nat.le_of_ble_eq_true rfl)⟩) hS (fun q _ h => hFc q h) hFc (fun r_7 u t H1 locs1 ht hvm e_8 hB hz1 hk1 hS1 => ?_)
          have hS := hS1
          obtain ⟨hP1, hD1⟩ := hB
          rw [ht] at hP1
          obtain ⟨hP, hD⟩ := va_join (wr := ([(g, .inr (8, [.ref (a 0), .ref (b 0), .ref (pa 0)]))] ++ sg_Pl cI cJ pa (sg_make_U U V P xi) (sg_make_V U V P xi))) (w1 := (sg_St cI cZ a (sg_sendUnits P38 (nI xi) (nI j21) (nI j38) ((sg_make_U U V P xi) 6 ((j21 * 5) + j38))) q)) hP hD [1, 2, 3, 4, 5, 6, 7, 8, 9, 10, 11, 12, 13, 14, 15, 16, 17, 18, 19, 20, 21, 22, 23, 24, 25, 26, 27, 28, 29, 30, 31, 32, 33, 34, 35, 36, 37, 38, 39, 40, 41] [0, 42, 43, 44, 45, 46, 47, 48] rfl rfl (by decide) (by decide) hk1 hFc hP1 hD1
          have e_8 : sg_sendUnits_r P38 (nI xi) (nI j21) (nI j38) ((sg_make_U U V P xi) 6 ((j21 * 5) + j38)) = r_7 := Eq.symm e_8
          subst e_8
          clear hFc hPc hDc ht hvm hz1 hk1 hS1 hP1 hD1
          generalize H1 = H at hP hS ⊢
          replace hP : va_P D vwCl ([(g, .inr (8, [.ref (a 0), .ref (b 0), .ref (pa 0)]))] ++ sg_Pl cI cJ pa (sg_make_U U V P xi) (sg_make_V U V P xi) ++ sg_St cI cZ a (sg_sendUnits P38 (nI xi) (nI j21) (nI j38) ((sg_make_U U V P xi) 6 ((j21 * 5) + j38))) q) H := hP
          replace hD : va_D A ([(g, .inr (8, [.ref (a 0), .ref (b 0), .ref (pa 0)]))] ++ sg_Pl cI cJ pa (sg_make_U U V P xi) (sg_make_V U V P xi) ++ sg_St cI cZ a (sg_sendUnits P38 (nI xi) (nI j21) (nI j38) ((sg_make_U U V P xi) 6 ((j21 * 5) + j38))) q) := hD
          refine lv_iadd hx hb dX8_balance_79 ?_
          refine lv_istore_n (lv' := [(2, .int (x38_2 + (sg_sendUnits_r P38 (nI xi) (nI j21) (nI j38) ((sg_make_U U V P xi) 6 ((j21 * 5) + j38))))), (4, .int (nI j38)), (3, .int (nI j21)), (0, .ref g), (1, .int (nI xi))]) hx hb dX8_balance_80 rfl hl (by decide) rfl (fun ls hl => ?_)
          refine lv_iinc (v := nI (j38 + 1)) (lv' := [(4, .int (nI (j38 + 1))), (2, .int (x38_2 + (sg_sendUnits_r P38 (nI xi) (nI j21) (nI j38) ((sg_make_U U V P xi) 6 ((j21 * 5) + j38))))), (3, .int (nI j21)), (0, .ref g), (1, .int (nI xi))]) hx hb dX8_balance_81 hl (k := 1) rfl (nI_1 j38) (by decide) rfl (fun ls hl => ?_)
          refine lv_goto (tgt := 38) hx hb dX8_balance_84 (by decide) ?_
          replace hD : va_D A ([(g, .inr (8, [.ref (a 0), .ref (b 0), .ref (pa 0)]))] ++ sg_St cI cZ a (sg_sendUnits P38 (nI xi) (nI j21) (nI j38) ((sg_make_U U V P xi) 6 ((j21 * 5) + j38))) q ++ sg_Pl cI cJ pa (sg_make_U U V P xi) (sg_make_V U V P xi)) := hD.sub (ws' := ([(g, .inr (8, [.ref (a 0), .ref (b 0), .ref (pa 0)]))] ++ sg_St cI cZ a (sg_sendUnits P38 (nI xi) (nI j21) (nI j38) ((sg_make_U U V P xi) 6 ((j21 * 5) + j38))) q ++ sg_Pl cI cJ pa (sg_make_U U V P xi) (sg_make_V U V P xi))) [0, 8, 9, 10, 11, 12, 13, 14, 15, 16, 17, 18, 19, 20, 21, 22, 23, 24, 25, 26, 27, 28, 29, 30, 31, 32, 33, 34, 35, 36, 37, 38, 39, 40, 41, 42, 43, 44, 45, 46, 47, 48, 1, 2, 3, 4, 5, 6, 7] (by decide) rfl
          replace hP : va_P D vwCl ([(g, .inr (8, [.ref (a 0), .ref (b 0), .ref (pa 0)]))] ++ sg_St cI cZ a (sg_sendUnits P38 (nI xi) (nI j21) (nI j38) ((sg_make_U U V P xi) 6 ((j21 * 5) + j38))) q ++ sg_Pl cI cJ pa (sg_make_U U V P xi) (sg_make_V U V P xi)) H := hP.sub (ws' := ([(g, .inr (8, [.ref (a 0), .ref (b 0), .ref (pa 0)]))] ++ sg_St cI cZ a (sg_sendUnits P38 (nI xi) (nI j21) (nI j38) ((sg_make_U U V P xi) 6 ((j21 * 5) + j38))) q ++ sg_Pl cI cJ pa (sg_make_U U V P xi) (sg_make_V U V P xi))) [0, 8, 9, 10, 11, 12, 13, 14, 15, 16, 17, 18, 19, 20, 21, 22, 23, 24, 25, 26, 27, 28, 29, 30, 31, 32, 33, 34, 35, 36, 37, 38, 39, 40, 41, 42, 43, 44, 45, 46, 47, 48, 1, 2, 3, 4, 5, 6, 7] rfl
          have hl8 := hl; have hS8 := hS; have hD8 := hD; have hP8 := hP
          subst hx38_2
          subst hP38
          exact ih38 (j38 + 1) (sg_sendUnits ((sg_g_balance_38 U V P xi j21 x21_2 P21 j38).2) (nI xi) (nI j21) (nI j38) ((sg_make_U U V P xi) 6 ((j21 * 5) + j38))) (((sg_g_balance_38 U V P xi j21 x21_2 P21 j38).1) + (sg_sendUnits_r ((sg_g_balance_38 U V P xi j21 x21_2 P21 j38).2) (nI xi) (nI j21) (nI j38) ((sg_make_U U V P xi) 6 ((j21 * 5) + j38)))) _ _ _ (show (sg_sendUnits ((sg_g_balance_38 U V P xi j21 x21_2 P21 j38).2) (nI xi) (nI j21) (nI j38) ((sg_make_U U V P xi) 6 ((j21 * 5) + j38)) : sg_Pic) = (sg_g_balance_38 U V P xi j21 x21_2 P21 (j38 + 1)).2 from by rw [sg_g_balance_38]) (show (((sg_g_balance_38 U V P xi j21 x21_2 P21 j38).1) + (sg_sendUnits_r ((sg_g_balance_38 U V P xi j21 x21_2 P21 j38).2) (nI xi) (nI j21) (nI j38) ((sg_make_U U V P xi) 6 ((j21 * 5) + j38))) : Int32) = (sg_g_balance_38 U V P xi j21 x21_2 P21 (j38 + 1)).1 from by rw [sg_g_balance_38]) (by omega) (by omega) (lv_sub hl8 [0, 2, 1, 3, 4] rfl) hS8 hD8 hP8

theorem sg_0_W : sg_W sg_0 := ⟨⟨rfl, by decide⟩, ⟨rfl, by decide⟩, ⟨rfl, by decide⟩, ⟨rfl, by decide⟩, ⟨rfl, by decide⟩, fun _ => Or.inl rfl⟩
/-- a stock with items and sites alone -/
def sg_F0 (ni ns : Nat) (P : sg_Pic) : Prop := sg_W P ∧ (sg_cn P 1 = ni ∧ sg_cn P 2 = ns ∧ sg_cn P 3 = 0 ∧ sg_cn P 4 = 0 ∧ sg_cn P 5 = 0 ∧ P 0 0 = 0) ∧ (∀ i, i < 6 → (0 ≤ (P 11 i).toInt ∧ (P 11 i).toInt ≤ 20) ∧ (0 ≤ (P 12 i).toInt ∧ (P 12 i).toInt ≤ 20) ∧ (0 ≤ (P 10 i).toInt ∧ (P 10 i).toInt ≤ 99)) ∧ (∀ s, s < 5 → 0 ≤ (P 20 s).toInt ∧ (P 20 s).toInt ≤ 9999) ∧ (∀ r, 21 ≤ r → P r = sg_z)
theorem sg_F0_0 : sg_F0 0 0 sg_0 := ⟨sg_0_W, ⟨rfl, rfl, rfl, rfl, rfl, rfl⟩, fun _ _ => (by decide : (0 ≤ (0 : Int32).toInt ∧ (0 : Int32).toInt ≤ 20) ∧ (0 ≤ (0 : Int32).toInt ∧ (0 : Int32).toInt ≤ 20) ∧ 0 ≤ (0 : Int32).toInt ∧ (0 : Int32).toInt ≤ 99), fun _ _ => (by decide : 0 ≤ (0 : Int32).toInt ∧ (0 : Int32).toInt ≤ 9999), fun _ _ => rfl⟩
theorem sg_F0.W {ni ns : Nat} {P : sg_Pic} (h : sg_F0 ni ns P) : sg_W P := h.1
theorem sg_F0.item {ni ns : Nat} {P : sg_Pic} {x y z : Int32} (h : sg_F0 ni ns P) (hn : ni < 6) (hx : 0 ≤ x.toInt ∧ x.toInt ≤ 99) (hy : 0 ≤ y.toInt ∧ y.toInt ≤ 20) (hz : 0 ≤ z.toInt ∧ z.toInt ≤ 20) : sg_F0 (ni + 1) ns (sg_iadd P x y z) ∧ (sg_iadd P x y z) 11 = upd (P 11) ni y := by
  have hW := sg_iadd_W (x := x) (y := y) (z := z) h.1
  obtain ⟨c1, c2, c3, c4, c5, c6⟩ := h.2.1
  have e : sg_iadd P x y z = sg_up (sg_up (sg_up (sg_up (sg_up P 10 (sg_cn P 1) x) 11 (sg_cn P 1) y) 12 (sg_cn P 1) z) 13 (sg_cn P 1) 0) 0 1 ((P 0 1) + 1) := by
    unfold sg_iadd
    rw [if_pos (by rw [h.1.e1, c1]; exact nI_lt hn (by decide))]
  rw [e] at hW ⊢
  rw [c1] at hW ⊢
  have hl := h.2.2.1
  refine ⟨⟨hW, ⟨?_, c2, c3, c4, c5, c6⟩, fun i hi => ?_, h.2.2.2.1, fun r hr => ?_⟩, rfl⟩
  · show Int32.toNatClampNeg (upd (P 0) 1 ((P 0 1) + 1) 1) = ni + 1
    rw [pk_us, h.1.e1, c1, nI_1, nI_clamp (by omega)]
  · have q := hl i hi
    show (0 ≤ (upd (P 11) ni y i).toInt ∧ (upd (P 11) ni y i).toInt ≤ 20) ∧ (0 ≤ (upd (P 12) ni z i).toInt ∧ (upd (P 12) ni z i).toInt ≤ 20) ∧ (0 ≤ (upd (P 10) ni x i).toInt ∧ (upd (P 10) ni x i).toInt ≤ 99)
    by_cases c : i = ni
    · rw [c, pk_us, pk_us, pk_us]
      exact ⟨hy, hz, hx⟩
    · rw [pk_un c, pk_un c, pk_un c]
      exact q
  · rw [sg_up_n (by omega), sg_up_n (by omega), sg_up_n (by omega), sg_up_n (by omega), sg_up_n (by omega)]
    exact h.2.2.2.2 r hr
theorem sg_F0.site {ni ns : Nat} {P : sg_Pic} {x : Int32} (h : sg_F0 ni ns P) (hn : ns < 5) (hx : 0 ≤ x.toInt ∧ x.toInt ≤ 9999) : sg_F0 ni (ns + 1) (sg_sadd P x) ∧ (sg_sadd P x) 11 = P 11 := by
  have hW := sg_sadd_W (x := x) h.1
  obtain ⟨c1, c2, c3, c4, c5, c6⟩ := h.2.1
  have e : sg_sadd P x = sg_up (sg_up P 20 (sg_cn P 2) x) 0 2 ((P 0 2) + 1) := by
    unfold sg_sadd
    rw [if_pos (by rw [h.1.e2, c2]; exact nI_lt hn (by decide))]
  rw [e] at hW ⊢
  rw [c2] at hW ⊢
  have hs := h.2.2.2.1
  refine ⟨⟨hW, ⟨c1, ?_, c3, c4, c5, c6⟩, h.2.2.1, fun s hs1 => ?_, fun r hr => ?_⟩, rfl⟩
  · show Int32.toNatClampNeg (upd (P 0) 2 ((P 0 2) + 1) 2) = ns + 1
    rw [pk_us, h.1.e2, c2, nI_1, nI_clamp (by omega)]
  · show 0 ≤ (upd (P 20) ns x s).toInt ∧ (upd (P 20) ns x s).toInt ≤ 9999
    by_cases c : s = ns
    · rw [c, pk_us]
      exact hx
    · rw [pk_un c]
      exact hs s hs1
  · rw [sg_up_n (by omega), sg_up_n (by omega)]
    exact h.2.2.2.2 r hr
theorem sg_nb {k M : Nat} (h : k ≤ M) (hM : M < 2 ^ 31) : 0 ≤ (nI k).toInt ∧ (nI k).toInt ≤ (M : Int) := by
  rw [nI_toInt (by omega)]
  omega
theorem sg_fp_up {f g : Nat → Int32} {j : Nat} {y : Int32} (h : ∀ i, i < j → f i = g i) : ∀ i, i < j + 1 → upd f j y i = upd g j y i := fun i hi => by
  by_cases c : i = j
  · subst c
    rw [pk_us, pk_us]
  · rw [pk_un c, pk_un c]
    exact h i (by omega)

set_option maxHeartbeats 4000000 in
set_option maxRecDepth 100000 in
/-- X9_make -/
theorem c_make9 (l : Launch) (D : va_G) (cI cZ cJ : ClassId) (lo sz : Nat) (b0 L0 : Nat) (xs : Nat → Int32) (st : Nat) (dd : Nat) (g1 : Nat) (a : Nat → Nat) (b : Nat → Nat) (pa : Nat → Nat) (pr : Nat) (lf : Nat) (pk : Nat) (rm : Nat) (f_route : Nat) (f_policy : Nat) (f_transports : Int32) (f_transport : Nat) (f_day : Int32) (f_lots : Int32) (f_lot : Nat) (f_orders : Int32) (f_order : Nat) (f_reserved : Nat) (f_earned : Int32) (f_spent : Int32) (f_waste : Int32) (f_lacking : Int32) (f_holding : Int32) (hd0 : dd < 90000) : Met l yX9_make wsX9_make ({ frames := 3, cells := 0, slots := 0, locals := 65 }) (sg_PreS b0 L0 xs lo D cI cZ cJ [.ref st] sz ([(st, .inr (9, [.ref g1, .ref b0, .int (nI dd), .int 0, .ref pr, .ref lf, .ref pk, .ref f_route, .ref f_policy, .int f_transports, .ref f_transport, .int 0, .ref rm, .int f_day, .int f_lots, .ref f_lot, .int f_orders, .ref f_order, .ref f_reserved, .int f_earned, .int f_spent, .int f_waste, .int f_lacking, .int f_holding])), (g1, .inr (8, [.ref (a 0), .ref (b 0), .ref (pa 0)]))] ++ sg_St cI cZ a sg_0 sg_z ++ [(pr, .inl (cI, 3, .inl (fun _ => 0))), (lf, .inl (cI, 3, .inl (fun _ => 0))), (pk, .inl (cI, 3, .inl (fun _ => 0))), (rm, .inl (cI, 4, .inl (fun _ => 0)))])) (va_Qi (fun (r : Int32) (_ : Unit) => r = 1) (fun _ t => ∃ (d2 : Nat) (ni : Nat) (ns : Nat) (P : sg_Pic) (fp : Nat → Int32), va_P D vwCl ([(st, .inr (9, [.ref g1, .ref b0, .int (nI d2), .int (nI ni), .ref pr, .ref lf, .ref pk, .ref f_route, .ref f_policy, .int f_transports, .ref f_transport, .int (nI ns), .ref rm, .int f_day, .int f_lots, .ref f_lot, .int f_orders, .ref f_order, .ref f_reserved, .int f_earned, .int f_spent, .int f_waste, .int f_lacking, .int f_holding])), (g1, .inr (8, [.ref (a 0), .ref (b 0), .ref (pa 0)]))] ++ sg_St cI cZ a P sg_z ++ [(pr, .inl (cI, 3, .inl (fp)))]) t.heap ∧ va_D (va_A ([(st, .inr (9, [.ref g1, .ref b0, .int (nI dd), .int 0, .ref pr, .ref lf, .ref pk, .ref f_route, .ref f_policy, .int f_transports, .ref f_transport, .int 0, .ref rm, .int f_day, .int f_lots, .ref f_lot, .int f_orders, .ref f_order, .ref f_reserved, .int f_earned, .int f_spent, .int f_waste, .int f_lacking, .int f_holding])), (g1, .inr (8, [.ref (a 0), .ref (b 0), .ref (pa 0)]))] ++ sg_St cI cZ a sg_0 sg_z ++ [(pr, .inl (cI, 3, .inl (fun _ => 0))), (lf, .inl (cI, 3, .inl (fun _ => 0))), (pk, .inl (cI, 3, .inl (fun _ => 0))), (rm, .inl (cI, 4, .inl (fun _ => 0)))]) sz) ([(st, .inr (9, [.ref g1, .ref b0, .int (nI d2), .int (nI ni), .ref pr, .ref lf, .ref pk, .ref f_route, .ref f_policy, .int f_transports, .ref f_transport, .int (nI ns), .ref rm, .int f_day, .int f_lots, .ref f_lot, .int f_orders, .ref f_order, .ref f_reserved, .int f_earned, .int f_spent, .int f_waste, .int f_lacking, .int f_holding])), (g1, .inr (8, [.ref (a 0), .ref (b 0), .ref (pa 0)]))] ++ sg_St cI cZ a P sg_z ++ [(pr, .inl (cI, 3, .inl (fp)))]) ∧ (sg_F0 ni ns P ∧ (1 ≤ ni ∧ ni ≤ 3) ∧ (2 ≤ ns ∧ ns ≤ 4) ∧ d2 ≤ dd + 30 ∧ ∀ i9, i9 < ni → fp i9 = P 11 i9)) (va_A ([(st, .inr (9, [.ref g1, .ref b0, .int (nI dd), .int 0, .ref pr, .ref lf, .ref pk, .ref f_route, .ref f_policy, .int f_transports, .ref f_transport, .int 0, .ref rm, .int f_day, .int f_lots, .ref f_lot, .int f_orders, .ref f_order, .ref f_reserved, .int f_earned, .int f_spent, .int f_waste, .int f_lacking, .int f_holding])), (g1, .inr (8, [.ref (a 0), .ref (b 0), .ref (pa 0)]))] ++ sg_St cI cZ a sg_0 sg_z ++ [(pr, .inl (cI, 3, .inl (fun _ => 0))), (lf, .inl (cI, 3, .inl (fun _ => 0))), (pk, .inl (cI, 3, .inl (fun _ => 0))), (rm, .inl (cI, 4, .inl (fun _ => 0)))]) sz)) 0 0 (va_A ([(st, .inr (9, [.ref g1, .ref b0, .int (nI dd), .int 0, .ref pr, .ref lf, .ref pk, .ref f_route, .ref f_policy, .int f_transports, .ref f_transport, .int 0, .ref rm, .int f_day, .int f_lots, .ref f_lot, .int f_orders, .ref f_order, .ref f_reserved, .int f_earned, .int f_spent, .int f_waste, .int f_lacking, .int f_holding])), (g1, .inr (8, [.ref (a 0), .ref (b 0), .ref (pa 0)]))] ++ sg_St cI cZ a sg_0 sg_z ++ [(pr, .inl (cI, 3, .inl (fun _ => 0))), (lf, .inl (cI, 3, .inl (fun _ => 0))), (pk, .inl (cI, 3, .inl (fun _ => 0))), (rm, .inl (cI, 4, .inl (fun _ => 0)))]) sz) := by
  refine Met.ofW (cc := cX9_make) (maxL := 2) (ret := (some .boolean)) (by decide) rfl ?_
  intro p e s m args below meth c s₁ B hml hv
  obtain ⟨rfl, hsz, hP, hD0, hC, hX0⟩ := hv
  have hx := B.exec
  have hb := B.bytes
  have hr := B.returns
  have hts := atoms_spec (ws := wsX9_make) B.pre
  have hown : s.vm.findClass RX9 = some m.cls := findClass_of_methodNamed B.named
  have hlocks := B.notSynchronized
  subst hsz
  have hK := hC.K
  have hD := hD0.self (sz := s.heap.size)
  have hAlo0 := va_A_lo hD0 hC.1
  generalize hAe : va_A ([(st, .inr (9, [.ref g1, .ref b0, .int (nI dd), .int 0, .ref pr, .ref lf, .ref pk, .ref f_route, .ref f_policy, .int f_transports, .ref f_transport, .int 0, .ref rm, .int f_day, .int f_lots, .ref f_lot, .int f_orders, .ref f_order, .ref f_reserved, .int f_earned, .int f_spent, .int f_waste, .int f_lacking, .int f_holding])), (g1, .inr (8, [.ref (a 0), .ref (b 0), .ref (pa 0)]))] ++ sg_St cI cZ a sg_0 sg_z ++ [(pr, .inl (cI, 3, .inl (fun _ => 0))), (lf, .inl (cI, 3, .inl (fun _ => 0))), (pk, .inl (cI, 3, .inl (fun _ => 0))), (rm, .inl (cI, 4, .inl (fun _ => 0)))]) s.heap.size = A at hD hAlo0 ⊢
  have hA : ∀ q : Nat, s.heap.size ≤ q → A q := fun q h => by rw [← hAe]; exact Or.inr h
  have hAlo : ∀ q, A q → lo ≤ q := hAlo0
  have hS : va_S A s.heap s.heap [] := va_S.rf
  have hP : va_P D vwCl ([(st, .inr (9, [.ref g1, .ref b0, .int (nI dd), .int 0, .ref pr, .ref lf, .ref pk, .ref f_route, .ref f_policy, .int f_transports, .ref f_transport, .int 0, .ref rm, .int f_day, .int f_lots, .ref f_lot, .int f_orders, .ref f_order, .ref f_reserved, .int f_earned, .int f_spent, .int f_waste, .int f_lacking, .int f_holding])), (g1, .inr (8, [.ref (a 0), .ref (b 0), .ref (pa 0)]))] ++ sg_St cI cZ a sg_0 sg_z ++ [(pr, .inl (cI, 3, .inl (fun _ => 0))), (lf, .inl (cI, 3, .inl (fun _ => 0))), (pk, .inl (cI, 3, .inl (fun _ => 0))), (rm, .inl (cI, 4, .inl (fun _ => 0)))]) s.heap := hP
  have hl := lv_entry ([.ref st]) (n := 2) (Nat.le_of_ble_eq_true rfl)
  rw [lg_entry_eq]
  generalize (lg_sl ([.ref st]) ++ List.replicate (2 - (lg_sl ([.ref st])).length) Slot.unset).toArray = ls at hl ⊢
  have hl : lv_has ls 2 [(0, .ref st)] := hl
  have in9 : ∀ w ∈ u_ws RX9 TX9 24, w ∈ wsX9_make := by decide +kernel
  refine lv_aload_n hx hb dX9_make_0 rfl (lv_at hl 0 rfl) ?_
  refine lv_iconst (v := 1) hx hb dX9_make_1 (by decide) ?_
  refine lv_aload_n hx hb dX9_make_2 rfl (lv_at hl 0 rfl) ?_
  refine lv_iconst (v := 3) hx hb dX9_make_3 (by decide) ?_
  have hPc := hP.sub (ws' := [(st, .inr (9, [.ref g1, .ref b0, .int (nI dd), .int 0, .ref pr, .ref lf, .ref pk, .ref f_route, .ref f_policy, .int f_transports, .ref f_transport, .int 0, .ref rm, .int f_day, .int f_lots, .ref f_lot, .int f_orders, .ref f_order, .ref f_reserved, .int f_earned, .int f_spent, .int f_waste, .int f_lacking, .int f_holding]))]) [0] rfl
  have hDc := hD.sub (ws' := [(st, .inr (9, [.ref g1, .ref b0, .int (nI dd), .int 0, .ref pr, .ref lf, .ref pk, .ref f_route, .ref f_policy, .int f_transports, .ref f_transport, .int 0, .ref rm, .int f_day, .int f_lots, .ref f_lot, .int f_orders, .ref f_order, .ref f_reserved, .int f_earned, .int f_spent, .int f_waste, .int f_lacking, .int f_holding]))]) [0] (by decide) rfl
  have hFc := va_free (wc := [(st, .inr (9, [.ref g1, .ref b0, .int (nI dd), .int 0, .ref pr, .ref lf, .ref pk, .ref f_route, .ref f_policy, .int f_transports, .ref f_transport, .int 0, .ref rm, .int f_day, .int f_lots, .ref f_lot, .int f_orders, .ref f_order, .ref f_reserved, .int f_earned, .int f_spent, .int f_waste, .int f_lacking, .int f_holding]))]) hD hS hA [0] rfl
  refine va_calli (va_runV (As := [.int 3]) (rest := [.int 1, .ref st]) ⟨hx, hb, hml, hown, hts⟩ (c_draw l D cI cZ cJ lo s.heap.size b0 L0 xs st dd 3 g1 0 pr lf pk f_route f_policy f_transports f_transport 0 rm f_day f_lots f_lot f_orders f_order f_reserved f_earned f_spent f_waste f_lacking f_holding (by omega) (by omega) (by omega)) (cwV 1 hts gX9_make_X9_draw rfl rfl rfl (by decide +kernel) ⟨(Nat.le_of_ble_eq_true rfl), (Nat.le_of_ble_eq_true rfl)⟩) ⟨sg_PreS.blind, va_recv hK hP (ci := 9) (q0 := 0) rfl rfl, sg_PreS.mk hPc (hDc.weaken (fun _ _ _ h => hAlo _ h)) hC hS hAlo hX0⟩ rfl rfl hl.1 rfl (lv_room (Nat.le_of_ble_eq_true rfl)) dX9_make_4 ⟨(Nat.le_of_ble_eq_true rfl), (Nat.le_of_ble_eq_true rfl)⟩) hS (fun q _ h => hFc q h) hFc (fun r_1 u t H1 locs1 ht hvm e_2 hB hz1 hk1 hS1 => ?_)
  have hS := hS1
  obtain ⟨hP1, hD1⟩ := hB
  rw [ht] at hP1
  obtain ⟨hP, hD⟩ := va_join (wr := ([(g1, .inr (8, [.ref (a 0), .ref (b 0), .ref (pa 0)]))] ++ sg_St cI cZ a sg_0 sg_z ++ [(pr, .inl (cI, 3, .inl (fun _ => 0))), (lf, .inl (cI, 3, .inl (fun _ => 0))), (pk, .inl (cI, 3, .inl (fun _ => 0))), (rm, .inl (cI, 4, .inl (fun _ => 0)))])) (w1 := [(st, .inr (9, [.ref g1, .ref b0, .int (nI (dd + 1)), .int 0, .ref pr, .ref lf, .ref pk, .ref f_route, .ref f_policy, .int f_transports, .ref f_transport, .int 0, .ref rm, .int f_day, .int f_lots, .ref f_lot, .int f_orders, .ref f_order, .ref f_reserved, .int f_earned, .int f_spent, .int f_waste, .int f_lacking, .int f_holding]))]) hP hD [0] [1, 2, 3, 4, 5, 6, 7, 8, 9, 10, 11, 12, 13, 14, 15, 16, 17, 18, 19, 20, 21, 22, 23, 24, 25, 26, 27, 28, 29, 30, 31, 32, 33, 34, 35, 36, 37, 38, 39, 40, 41, 42, 43, 44, 45, 46] rfl rfl (by decide) (by decide) hk1 hFc hP1 hD1
  have e_2 : ∃ k9, k9 < 3 ∧ r_1 = nI k9 := e_2
  clear hFc hPc hDc ht hvm hz1 hk1 hS1 hP1 hD1
  generalize H1 = H at hP hS ⊢
  replace hP : va_P D vwCl ([(g1, .inr (8, [.ref (a 0), .ref (b 0), .ref (pa 0)]))] ++ sg_St cI cZ a sg_0 sg_z ++ [(pr, .inl (cI, 3, .inl (fun _ => 0))), (lf, .inl (cI, 3, .inl (fun _ => 0))), (pk, .inl (cI, 3, .inl (fun _ => 0))), (rm, .inl (cI, 4, .inl (fun _ => 0))), (st, .inr (9, [.ref g1, .ref b0, .int (nI (dd + 1)), .int 0, .ref pr, .ref lf, .ref pk, .ref f_route, .ref f_policy, .int f_transports, .ref f_transport, .int 0, .ref rm, .int f_day, .int f_lots, .ref f_lot, .int f_orders, .ref f_order, .ref f_reserved, .int f_earned, .int f_spent, .int f_waste, .int f_lacking, .int f_holding]))]) H := hP
  replace hD : va_D A ([(g1, .inr (8, [.ref (a 0), .ref (b 0), .ref (pa 0)]))] ++ sg_St cI cZ a sg_0 sg_z ++ [(pr, .inl (cI, 3, .inl (fun _ => 0))), (lf, .inl (cI, 3, .inl (fun _ => 0))), (pk, .inl (cI, 3, .inl (fun _ => 0))), (rm, .inl (cI, 4, .inl (fun _ => 0))), (st, .inr (9, [.ref g1, .ref b0, .int (nI (dd + 1)), .int 0, .ref pr, .ref lf, .ref pk, .ref f_route, .ref f_policy, .int f_transports, .ref f_transport, .int 0, .ref rm, .int f_day, .int f_lots, .ref f_lot, .int f_orders, .ref f_order, .ref f_reserved, .int f_earned, .int f_spent, .int f_waste, .int f_lacking, .int f_holding]))]) := hD
  obtain ⟨k_3, hk_3, ek_3⟩ := e_2
  subst ek_3
  refine lv_iadd hx hb dX9_make_7 ?_
  refine lv_toi (y := nI (1 + k_3)) (nI_add 1 k_3) ?_
  refine va_put (D := D) (ci := 9) (v := .int (nI (1 + k_3))) (ty := .int) (C := RX9) (T := TX9) (N := 24) hx hb hts in9 tyX9 tyX9_ok nmX9 hown hK hP hD hS 46 rfl rfl 3 (by decide) (hts (.fieldLink RX9 71 "GranaryLaw$Store" "items" "I") (by decide +kernel)) (fun _ h9 => h9) rfl (by decide +kernel) rfl rfl (Nat.le_of_ble_eq_true rfl) dX9_make_8 (fun H locs hP hD hS => ?_)
  replace hP : va_P D vwCl ([(g1, .inr (8, [.ref (a 0), .ref (b 0), .ref (pa 0)]))] ++ sg_St cI cZ a sg_0 sg_z ++ [(pr, .inl (cI, 3, .inl (fun _ => 0))), (lf, .inl (cI, 3, .inl (fun _ => 0))), (pk, .inl (cI, 3, .inl (fun _ => 0))), (rm, .inl (cI, 4, .inl (fun _ => 0))), (st, .inr (9, [.ref g1, .ref b0, .int (nI (dd + 1)), .int (nI (1 + k_3)), .ref pr, .ref lf, .ref pk, .ref f_route, .ref f_policy, .int f_transports, .ref f_transport, .int 0, .ref rm, .int f_day, .int f_lots, .ref f_lot, .int f_orders, .ref f_order, .ref f_reserved, .int f_earned, .int f_spent, .int f_waste, .int f_lacking, .int f_holding]))]) H := hP
  replace hD : va_D A ([(g1, .inr (8, [.ref (a 0), .ref (b 0), .ref (pa 0)]))] ++ sg_St cI cZ a sg_0 sg_z ++ [(pr, .inl (cI, 3, .inl (fun _ => 0))), (lf, .inl (cI, 3, .inl (fun _ => 0))), (pk, .inl (cI, 3, .inl (fun _ => 0))), (rm, .inl (cI, 4, .inl (fun _ => 0))), (st, .inr (9, [.ref g1, .ref b0, .int (nI (dd + 1)), .int (nI (1 + k_3)), .ref pr, .ref lf, .ref pk, .ref f_route, .ref f_policy, .int f_transports, .ref f_transport, .int 0, .ref rm, .int f_day, .int f_lots, .ref f_lot, .int f_orders, .ref f_order, .ref f_reserved, .int f_earned, .int f_spent, .int f_waste, .int f_lacking, .int f_holding]))]) := hD
  refine lv_aload_n hx hb dX9_make_11 rfl (lv_at hl 0 rfl) ?_
  refine lv_iconst (v := 2) hx hb dX9_make_12 (by decide) ?_
  refine lv_aload_n hx hb dX9_make_13 rfl (lv_at hl 0 rfl) ?_
  refine lv_iconst (v := 3) hx hb dX9_make_14 (by decide) ?_
  have hPc := hP.sub (ws' := [(st, .inr (9, [.ref g1, .ref b0, .int (nI (dd + 1)), .int (nI (1 + k_3)), .ref pr, .ref lf, .ref pk, .ref f_route, .ref f_policy, .int f_transports, .ref f_transport, .int 0, .ref rm, .int f_day, .int f_lots, .ref f_lot, .int f_orders, .ref f_order, .ref f_reserved, .int f_earned, .int f_spent, .int f_waste, .int f_lacking, .int f_holding]))]) [46] rfl
  have hDc := hD.sub (ws' := [(st, .inr (9, [.ref g1, .ref b0, .int (nI (dd + 1)), .int (nI (1 + k_3)), .ref pr, .ref lf, .ref pk, .ref f_route, .ref f_policy, .int f_transports, .ref f_transport, .int 0, .ref rm, .int f_day, .int f_lots, .ref f_lot, .int f_orders, .ref f_order, .ref f_reserved, .int f_earned, .int f_spent, .int f_waste, .int f_lacking, .int f_holding]))]) [46] (by decide) rfl
  have hFc := va_free (wc := [(st, .inr (9, [.ref g1, .ref b0, .int (nI (dd + 1)), .int (nI (1 + k_3)), .ref pr, .ref lf, .ref pk, .ref f_route, .ref f_policy, .int f_transports, .ref f_transport, .int 0, .ref rm, .int f_day, .int f_lots, .ref f_lot, .int f_orders, .ref f_order, .ref f_reserved, .int f_earned, .int f_spent, .int f_waste, .int f_lacking, .int f_holding]))]) hD hS hA [46] rfl
  refine va_calli (va_runV (As := [.int 3]) (rest := [.int 2, .ref st]) ⟨hx, hb, hml, hown, hts⟩ (c_draw l D cI cZ cJ lo H.size b0 L0 xs st (dd + 1) 3 g1 (nI (1 + k_3)) pr lf pk f_route f_policy f_transports f_transport 0 rm f_day f_lots f_lot f_orders f_order f_reserved f_earned f_spent f_waste f_lacking f_holding (by omega) (by omega) (by omega)) (cwV 1 hts gX9_make_X9_draw rfl rfl rfl (by decide +kernel) ⟨(Nat.le_of_ble_eq_true rfl), (Nat.le_of_ble_eq_true rfl)⟩) ⟨sg_PreS.blind, va_recv hK hP (ci := 9) (q0 := 46) rfl rfl, sg_PreS.mk hPc (hDc.weaken (fun _ _ _ h => hAlo _ h)) hC hS hAlo hX0⟩ rfl rfl hl.1 rfl (lv_room (Nat.le_of_ble_eq_true rfl)) dX9_make_15 ⟨(Nat.le_of_ble_eq_true rfl), (Nat.le_of_ble_eq_true rfl)⟩) hS (fun q _ h => hFc q h) hFc (fun r_4 u t H1 locs1 ht hvm e_5 hB hz1 hk1 hS1 => ?_)
  have hS := hS1
  obtain ⟨hP1, hD1⟩ := hB
  rw [ht] at hP1
  obtain ⟨hP, hD⟩ := va_join (wr := ([(g1, .inr (8, [.ref (a 0), .ref (b 0), .ref (pa 0)]))] ++ sg_St cI cZ a sg_0 sg_z ++ [(pr, .inl (cI, 3, .inl (fun _ => 0))), (lf, .inl (cI, 3, .inl (fun _ => 0))), (pk, .inl (cI, 3, .inl (fun _ => 0))), (rm, .inl (cI, 4, .inl (fun _ => 0)))])) (w1 := [(st, .inr (9, [.ref g1, .ref b0, .int (nI ((dd + 1) + 1)), .int (nI (1 + k_3)), .ref pr, .ref lf, .ref pk, .ref f_route, .ref f_policy, .int f_transports, .ref f_transport, .int 0, .ref rm, .int f_day, .int f_lots, .ref f_lot, .int f_orders, .ref f_order, .ref f_reserved, .int f_earned, .int f_spent, .int f_waste, .int f_lacking, .int f_holding]))]) hP hD [46] [0, 1, 2, 3, 4, 5, 6, 7, 8, 9, 10, 11, 12, 13, 14, 15, 16, 17, 18, 19, 20, 21, 22, 23, 24, 25, 26, 27, 28, 29, 30, 31, 32, 33, 34, 35, 36, 37, 38, 39, 40, 41, 42, 43, 44, 45] rfl rfl (by decide) (by decide) hk1 hFc hP1 hD1
  have e_5 : ∃ k9, k9 < 3 ∧ r_4 = nI k9 := e_5
  clear hFc hPc hDc ht hvm hz1 hk1 hS1 hP1 hD1
  generalize H1 = H at hP hS ⊢
  replace hP : va_P D vwCl ([(g1, .inr (8, [.ref (a 0), .ref (b 0), .ref (pa 0)]))] ++ sg_St cI cZ a sg_0 sg_z ++ [(pr, .inl (cI, 3, .inl (fun _ => 0))), (lf, .inl (cI, 3, .inl (fun _ => 0))), (pk, .inl (cI, 3, .inl (fun _ => 0))), (rm, .inl (cI, 4, .inl (fun _ => 0))), (st, .inr (9, [.ref g1, .ref b0, .int (nI ((dd + 1) + 1)), .int (nI (1 + k_3)), .ref pr, .ref lf, .ref pk, .ref f_route, .ref f_policy, .int f_transports, .ref f_transport, .int 0, .ref rm, .int f_day, .int f_lots, .ref f_lot, .int f_orders, .ref f_order, .ref f_reserved, .int f_earned, .int f_spent, .int f_waste, .int f_lacking, .int f_holding]))]) H := hP
  replace hD : va_D A ([(g1, .inr (8, [.ref (a 0), .ref (b 0), .ref (pa 0)]))] ++ sg_St cI cZ a sg_0 sg_z ++ [(pr, .inl (cI, 3, .inl (fun _ => 0))), (lf, .inl (cI, 3, .inl (fun _ => 0))), (pk, .inl (cI, 3, .inl (fun _ => 0))), (rm, .inl (cI, 4, .inl (fun _ => 0))), (st, .inr (9, [.ref g1, .ref b0, .int (nI ((dd + 1) + 1)), .int (nI (1 + k_3)), .ref pr, .ref lf, .ref pk, .ref f_route, .ref f_policy, .int f_transports, .ref f_transport, .int 0, .ref rm, .int f_day, .int f_lots, .ref f_lot, .int f_orders, .ref f_order, .ref f_reserved, .int f_earned, .int f_spent, .int f_waste, .int f_lacking, .int f_holding]))]) := hD
  obtain ⟨k_6, hk_6, ek_6⟩ := e_5
  subst ek_6
  refine lv_iadd hx hb dX9_make_18 ?_
  refine lv_toi (y := nI (2 + k_6)) (nI_add 2 k_6) ?_
  refine va_put (D := D) (ci := 9) (v := .int (nI (2 + k_6))) (ty := .int) (C := RX9) (T := TX9) (N := 24) hx hb hts in9 tyX9 tyX9_ok nmX9 hown hK hP hD hS 46 rfl rfl 11 (by decide) (hts (.fieldLink RX9 74 "GranaryLaw$Store" "sites" "I") (by decide +kernel)) (fun _ h9 => h9) rfl (by decide +kernel) rfl rfl (Nat.le_of_ble_eq_true rfl) dX9_make_19 (fun H locs hP hD hS => ?_)
  replace hP : va_P D vwCl ([(g1, .inr (8, [.ref (a 0), .ref (b 0), .ref (pa 0)]))] ++ sg_St cI cZ a sg_0 sg_z ++ [(pr, .inl (cI, 3, .inl (fun _ => 0))), (lf, .inl (cI, 3, .inl (fun _ => 0))), (pk, .inl (cI, 3, .inl (fun _ => 0))), (rm, .inl (cI, 4, .inl (fun _ => 0))), (st, .inr (9, [.ref g1, .ref b0, .int (nI ((dd + 1) + 1)), .int (nI (1 + k_3)), .ref pr, .ref lf, .ref pk, .ref f_route, .ref f_policy, .int f_transports, .ref f_transport, .int (nI (2 + k_6)), .ref rm, .int f_day, .int f_lots, .ref f_lot, .int f_orders, .ref f_order, .ref f_reserved, .int f_earned, .int f_spent, .int f_waste, .int f_lacking, .int f_holding]))]) H := hP
  replace hD : va_D A ([(g1, .inr (8, [.ref (a 0), .ref (b 0), .ref (pa 0)]))] ++ sg_St cI cZ a sg_0 sg_z ++ [(pr, .inl (cI, 3, .inl (fun _ => 0))), (lf, .inl (cI, 3, .inl (fun _ => 0))), (pk, .inl (cI, 3, .inl (fun _ => 0))), (rm, .inl (cI, 4, .inl (fun _ => 0))), (st, .inr (9, [.ref g1, .ref b0, .int (nI ((dd + 1) + 1)), .int (nI (1 + k_3)), .ref pr, .ref lf, .ref pk, .ref f_route, .ref f_policy, .int f_transports, .ref f_transport, .int (nI (2 + k_6)), .ref rm, .int f_day, .int f_lots, .ref f_lot, .int f_orders, .ref f_order, .ref f_reserved, .int f_earned, .int f_spent, .int f_waste, .int f_lacking, .int f_holding]))]) := hD
  refine lv_iconst (v := 0) hx hb dX9_make_22 (by decide) ?_
  refine lv_istore_n (lv' := [(1, .int 0), (0, .ref st)]) hx hb dX9_make_23 rfl hl (by decide) rfl (fun ls hl => ?_)
  obtain ⟨j24, h0j24⟩ : ∃ j : Nat, j = 0 := ⟨_, rfl⟩
  obtain ⟨dd24, h0dd24⟩ : ∃ z9 : Nat, z9 = ((dd + 1) + 1) := ⟨_, rfl⟩
  obtain ⟨P24, h0P24⟩ : ∃ z9 : sg_Pic, z9 = (sg_0) := ⟨_, rfl⟩
  obtain ⟨fp24, h0fp24⟩ : ∃ z9 : Nat → Int32, z9 = (fun _ => 0) := ⟨_, rfl⟩
  obtain ⟨fl24, h0fl24⟩ : ∃ z9 : Nat → Int32, z9 = (fun _ => 0) := ⟨_, rfl⟩
  obtain ⟨fk24, h0fk24⟩ : ∃ z9 : Nat → Int32, z9 = (fun _ => 0) := ⟨_, rfl⟩
  have hF24 : sg_F0 j24 0 P24 := by first | (simp only [h0dd24, h0P24, h0fp24, h0fl24, h0fk24, h0j24]; exact sg_F0_0) | (exact sg_F0_0)
  have hd24 : dd24 ≤ dd + 2 + 3 * j24 := by first | (simp only [h0dd24, h0P24, h0fp24, h0fl24, h0fk24, h0j24]; omega) | (omega)
  have hf24 : ∀ i9, i9 < j24 → fp24 i9 = P24 11 i9 := by first | (simp only [h0dd24, h0P24, h0fp24, h0fl24, h0fk24, h0j24]; intro i9 hi9; exact absurd hi9 (Nat.not_lt_zero _)) | (intro i9 hi9; exact absurd hi9 (Nat.not_lt_zero _))
  replace hl : lv_has ls 2 [(1, .int (nI j24)), (0, .ref st)] := by (try simp only [h0dd24, h0P24, h0fp24, h0fl24, h0fk24, h0j24]); exact hl
  replace hP : va_P D vwCl ([(g1, .inr (8, [.ref (a 0), .ref (b 0), .ref (pa 0)]))] ++ sg_St cI cZ a P24 sg_z ++ [(pr, .inl (cI, 3, .inl (fp24))), (lf, .inl (cI, 3, .inl (fl24))), (pk, .inl (cI, 3, .inl (fk24))), (rm, .inl (cI, 4, .inl (fun _ => 0))), (st, .inr (9, [.ref g1, .ref b0, .int (nI dd24), .int (nI (1 + k_3)), .ref pr, .ref lf, .ref pk, .ref f_route, .ref f_policy, .int f_transports, .ref f_transport, .int (nI (2 + k_6)), .ref rm, .int f_day, .int f_lots, .ref f_lot, .int f_orders, .ref f_order, .ref f_reserved, .int f_earned, .int f_spent, .int f_waste, .int f_lacking, .int f_holding]))]) H := by (try simp only [h0dd24, h0P24, h0fp24, h0fl24, h0fk24, h0j24]); exact hP
  replace hD : va_D A ([(g1, .inr (8, [.ref (a 0), .ref (b 0), .ref (pa 0)]))] ++ sg_St cI cZ a P24 sg_z ++ [(pr, .inl (cI, 3, .inl (fp24))), (lf, .inl (cI, 3, .inl (fl24))), (pk, .inl (cI, 3, .inl (fk24))), (rm, .inl (cI, 4, .inl (fun _ => 0))), (st, .inr (9, [.ref g1, .ref b0, .int (nI dd24), .int (nI (1 + k_3)), .ref pr, .ref lf, .ref pk, .ref f_route, .ref f_policy, .int f_transports, .ref f_transport, .int (nI (2 + k_6)), .ref rm, .int f_day, .int f_lots, .ref f_lot, .int f_orders, .ref f_order, .ref f_reserved, .int f_earned, .int f_spent, .int f_waste, .int f_lacking, .int f_holding]))]) := by (try simp only [h0dd24, h0P24, h0fp24, h0fl24, h0fk24, h0j24]); exact hD
  have hjj24 : j24 ≤ 1 + k_3 := by omega
  clear h0j24 h0dd24 h0P24 h0fp24 h0fl24 h0fk24
  obtain ⟨n24, hn24⟩ : ∃ n : Nat, 1 + k_3 < j24 + n := ⟨1 + k_3 + 1, by omega⟩
  have hS9 := hS
  repeat clear hS
  have hS := hS9
  clear hS9
  revert hP
  revert hD
  revert hS
  revert hl
  revert hn24
  revert hjj24
  revert hf24
  revert hd24
  revert hF24
  revert ls
  revert locs
  revert H
  revert fk24
  revert fl24
  revert fp24
  revert P24
  revert dd24
  revert j24
  induction n24 with
  | zero =>
    intro j24 dd24 P24 fp24 fl24 fk24 H locs ls hF24 hd24 hf24 hjj24 hn24 hl hS hD hP
    exact absurd hn24 (by omega)
  | succ n24 ih24 =>
    intro j24 dd24 P24 fp24 fl24 fk24 H locs ls hF24 hd24 hf24 hjj24 hn24 hl hS hD hP
    refine lv_iload_n hx hb dX9_make_24 rfl (lv_at hl 0 rfl) ?_
    refine lv_aload_n hx hb dX9_make_25 rfl (lv_at hl 1 rfl) ?_
    refine va_get (D := D) (ci := 9) (v := .int (nI (1 + k_3))) (C := RX9) (T := TX9) (N := 24) hx hb hts in9 hown hK hP 46 rfl rfl 3 (by decide) (hts (.fieldLink RX9 71 "GranaryLaw$Store" "items" "I") (by decide +kernel)) (fun _ h9 => h9) rfl dX9_make_26 ?_
    have hB24 : ((nI (1 + k_3)) : Int32) = nI (1 + k_3) := rfl
    refine lv_icmp_ge (tgt := 110) hx hb dX9_make_29 (by decide) (fun c_7 => ?_) (fun c_7 => ?_)
    · have hE24 : 1 + k_3 = j24 := (sg_eq hB24 c_7 hjj24 (by omega)).symm
      clear ih24 hn24
      subst hE24
      refine lv_iconst (v := 0) hx hb dX9_make_110 (by decide) ?_
      refine lv_istore_n (lv' := [(1, .int 0), (0, .ref st)]) hx hb dX9_make_111 rfl hl (by decide) rfl (fun ls hl => ?_)
      obtain ⟨j112, h0j112⟩ : ∃ j : Nat, j = 0 := ⟨_, rfl⟩
      obtain ⟨dd112, h0dd112⟩ : ∃ z9 : Nat, z9 = (dd24) := ⟨_, rfl⟩
      obtain ⟨P112, h0P112⟩ : ∃ z9 : sg_Pic, z9 = (P24) := ⟨_, rfl⟩
      obtain ⟨fr112, h0fr112⟩ : ∃ z9 : Nat → Int32, z9 = (fun _ => 0) := ⟨_, rfl⟩
      have hF112 : sg_F0 (1 + k_3) j112 P112 := by first | (simp only [h0dd112, h0P112, h0fr112, h0j112]; exact hF24) | (exact hF24)
      have hd112 : dd112 ≤ dd + 11 + 2 * j112 := by first | (simp only [h0dd112, h0P112, h0fr112, h0j112]; omega) | (omega)
      have hf112 : ∀ i9, i9 < 1 + k_3 → fp24 i9 = P112 11 i9 := by first | (simp only [h0dd112, h0P112, h0fr112, h0j112]; exact hf24) | (exact hf24)
      replace hl : lv_has ls 2 [(1, .int (nI j112)), (0, .ref st)] := by (try simp only [h0dd112, h0P112, h0fr112, h0j112]); exact hl
      replace hP : va_P D vwCl ([(g1, .inr (8, [.ref (a 0), .ref (b 0), .ref (pa 0)]))] ++ sg_St cI cZ a P112 sg_z ++ [(pr, .inl (cI, 3, .inl (fp24))), (lf, .inl (cI, 3, .inl (fl24))), (pk, .inl (cI, 3, .inl (fk24))), (rm, .inl (cI, 4, .inl (fr112))), (st, .inr (9, [.ref g1, .ref b0, .int (nI dd112), .int (nI (1 + k_3)), .ref pr, .ref lf, .ref pk, .ref f_route, .ref f_policy, .int f_transports, .ref f_transport, .int (nI (2 + k_6)), .ref rm, .int f_day, .int f_lots, .ref f_lot, .int f_orders, .ref f_order, .ref f_reserved, .int f_earned, .int f_spent, .int f_waste, .int f_lacking, .int f_holding]))]) H := by (try simp only [h0dd112, h0P112, h0fr112, h0j112]); exact hP
      replace hD : va_D A ([(g1, .inr (8, [.ref (a 0), .ref (b 0), .ref (pa 0)]))] ++ sg_St cI cZ a P112 sg_z ++ [(pr, .inl (cI, 3, .inl (fp24))), (lf, .inl (cI, 3, .inl (fl24))), (pk, .inl (cI, 3, .inl (fk24))), (rm, .inl (cI, 4, .inl (fr112))), (st, .inr (9, [.ref g1, .ref b0, .int (nI dd112), .int (nI (1 + k_3)), .ref pr, .ref lf, .ref pk, .ref f_route, .ref f_policy, .int f_transports, .ref f_transport, .int (nI (2 + k_6)), .ref rm, .int f_day, .int f_lots, .ref f_lot, .int f_orders, .ref f_order, .ref f_reserved, .int f_earned, .int f_spent, .int f_waste, .int f_lacking, .int f_holding]))]) := by (try simp only [h0dd112, h0P112, h0fr112, h0j112]); exact hD
      have hjj112 : j112 ≤ 2 + k_6 := by omega
      clear h0j112 h0dd112 h0P112 h0fr112
      obtain ⟨n112, hn112⟩ : ∃ n : Nat, 2 + k_6 < j112 + n := ⟨2 + k_6 + 1, by omega⟩
      have hS9 := hS
      repeat clear hS
      have hS := hS9
      clear hS9
      revert hP
      revert hD
      revert hS
      revert hl
      revert hn112
      revert hjj112
      revert hf112
      revert hd112
      revert hF112
      revert ls
      revert locs
      revert H
      revert fr112
      revert P112
      revert dd112
      revert j112
      induction n112 with
      | zero =>
        intro j112 dd112 P112 fr112 H locs ls hF112 hd112 hf112 hjj112 hn112 hl hS hD hP
        exact absurd hn112 (by omega)
      | succ n112 ih112 =>
        intro j112 dd112 P112 fr112 H locs ls hF112 hd112 hf112 hjj112 hn112 hl hS hD hP
        refine lv_iload_n hx hb dX9_make_112 rfl (lv_at hl 0 rfl) ?_
        refine lv_aload_n hx hb dX9_make_113 rfl (lv_at hl 1 rfl) ?_
        refine va_get (D := D) (ci := 9) (v := .int (nI (2 + k_6))) (C := RX9) (T := TX9) (N := 24) hx hb hts in9 hown hK hP 46 rfl rfl 11 (by decide) (hts (.fieldLink RX9 74 "GranaryLaw$Store" "sites" "I") (by decide +kernel)) (fun _ h9 => h9) rfl dX9_make_114 ?_
        have hB112 : ((nI (2 + k_6)) : Int32) = nI (2 + k_6) := rfl
        refine lv_icmp_ge (tgt := 174) hx hb dX9_make_117 (by decide) (fun c_8 => ?_) (fun c_8 => ?_)
        · have hE112 : 2 + k_6 = j112 := (sg_eq hB112 c_8 hjj112 (by omega)).symm
          clear ih112 hn112
          subst hE112
          refine lv_aload_n hx hb dX9_make_174 rfl (lv_at hl 1 rfl) ?_
          refine va_get (D := D) (ci := 9) (v := .ref g1) (C := RX9) (T := TX9) (N := 24) hx hb hts in9 hown hK hP 46 rfl rfl 0 (by decide) (hts (.fieldLink RX9 10 "GranaryLaw$Store" "m" "LGranary;") (by decide +kernel)) (fun _ h9 => h9) rfl dX9_make_175 ?_
          have hPc := hP.sub (ws' := ([(g1, .inr (8, [.ref (a 0), .ref (b 0), .ref (pa 0)]))] ++ sg_St cI cZ a P112 sg_z)) [0, 1, 2, 3, 4, 5, 6, 7, 8, 9, 10, 11, 12, 13, 14, 15, 16, 17, 18, 19, 20, 21, 22, 23, 24, 25, 26, 27, 28, 29, 30, 31, 32, 33, 34, 35, 36, 37, 38, 39, 40, 41] rfl
          have hDc := hD.sub (ws' := ([(g1, .inr (8, [.ref (a 0), .ref (b 0), .ref (pa 0)]))] ++ sg_St cI cZ a P112 sg_z)) [0, 1, 2, 3, 4, 5, 6, 7, 8, 9, 10, 11, 12, 13, 14, 15, 16, 17, 18, 19, 20, 21, 22, 23, 24, 25, 26, 27, 28, 29, 30, 31, 32, 33, 34, 35, 36, 37, 38, 39, 40, 41] (by decide) rfl
          refine vp_callSi (W.runV (As := []) (rest := []) ⟨hx, hb, hml, hown, hts⟩ (c_g_items l D cI cZ cJ lo H.size g1 pa b a P112 sg_z hF112.1) (cwV 0 hts gX9_make_X8_items rfl rfl rfl (by decide +kernel) ⟨(Nat.le_of_ble_eq_true rfl), (Nat.le_of_ble_eq_true rfl)⟩) ⟨Pre.blind, va_recv hK hP (ci := 8) (q0 := 0) rfl rfl, Pre.mk hPc (hDc.weaken (fun _ _ _ h => hAlo _ h)) hC hS hAlo⟩ rfl rfl hl.1 rfl (lv_room (Nat.le_of_ble_eq_true rfl)) dX9_make_178 ⟨(Nat.le_of_ble_eq_true rfl), (Nat.le_of_ble_eq_true rfl)⟩) (fun r_9 e_10 => ?_)
          clear hPc hDc
          have e_10 : P112 0 1 = r_9 := Eq.symm e_10
          subst e_10
          refine lv_aload_n hx hb dX9_make_181 rfl (lv_at hl 1 rfl) ?_
          refine va_get (D := D) (ci := 9) (v := .int (nI (1 + k_3))) (C := RX9) (T := TX9) (N := 24) hx hb hts in9 hown hK hP 46 rfl rfl 3 (by decide) (hts (.fieldLink RX9 71 "GranaryLaw$Store" "items" "I") (by decide +kernel)) (fun _ h9 => h9) rfl dX9_make_182 ?_
          refine lv_icmp_ne (tgt := 216) hx hb dX9_make_185 (by decide) (fun c9 => absurd (show (P112 0 1) = (nI (1 + k_3)) from (hF112.1.e1.trans (congrArg nI hF112.2.1.1))) c9) (fun _ => ?_)
          refine lv_aload_n hx hb dX9_make_188 rfl (lv_at hl 1 rfl) ?_
          refine va_get (D := D) (ci := 9) (v := .ref g1) (C := RX9) (T := TX9) (N := 24) hx hb hts in9 hown hK hP 46 rfl rfl 0 (by decide) (hts (.fieldLink RX9 10 "GranaryLaw$Store" "m" "LGranary;") (by decide +kernel)) (fun _ h9 => h9) rfl dX9_make_189 ?_
          have hPc := hP.sub (ws' := ([(g1, .inr (8, [.ref (a 0), .ref (b 0), .ref (pa 0)]))] ++ sg_St cI cZ a P112 sg_z)) [0, 1, 2, 3, 4, 5, 6, 7, 8, 9, 10, 11, 12, 13, 14, 15, 16, 17, 18, 19, 20, 21, 22, 23, 24, 25, 26, 27, 28, 29, 30, 31, 32, 33, 34, 35, 36, 37, 38, 39, 40, 41] rfl
          have hDc := hD.sub (ws' := ([(g1, .inr (8, [.ref (a 0), .ref (b 0), .ref (pa 0)]))] ++ sg_St cI cZ a P112 sg_z)) [0, 1, 2, 3, 4, 5, 6, 7, 8, 9, 10, 11, 12, 13, 14, 15, 16, 17, 18, 19, 20, 21, 22, 23, 24, 25, 26, 27, 28, 29, 30, 31, 32, 33, 34, 35, 36, 37, 38, 39, 40, 41] (by decide) rfl
          refine vp_callSi (W.runV (As := []) (rest := []) ⟨hx, hb, hml, hown, hts⟩ (c_g_sites l D cI cZ cJ lo H.size g1 pa b a P112 sg_z hF112.1) (cwV 0 hts gX9_make_X8_sites rfl rfl rfl (by decide +kernel) ⟨(Nat.le_of_ble_eq_true rfl), (Nat.le_of_ble_eq_true rfl)⟩) ⟨Pre.blind, va_recv hK hP (ci := 8) (q0 := 0) rfl rfl, Pre.mk hPc (hDc.weaken (fun _ _ _ h => hAlo _ h)) hC hS hAlo⟩ rfl rfl hl.1 rfl (lv_room (Nat.le_of_ble_eq_true rfl)) dX9_make_192 ⟨(Nat.le_of_ble_eq_true rfl), (Nat.le_of_ble_eq_true rfl)⟩) (fun r_11 e_12 => ?_)
          clear hPc hDc
          have e_12 : P112 0 2 = r_11 := Eq.symm e_12
          subst e_12
          refine lv_aload_n hx hb dX9_make_195 rfl (lv_at hl 1 rfl) ?_
          refine va_get (D := D) (ci := 9) (v := .int (nI (2 + k_6))) (C := RX9) (T := TX9) (N := 24) hx hb hts in9 hown hK hP 46 rfl rfl 11 (by decide) (hts (.fieldLink RX9 74 "GranaryLaw$Store" "sites" "I") (by decide +kernel)) (fun _ h9 => h9) rfl dX9_make_196 ?_
          refine lv_icmp_ne (tgt := 216) hx hb dX9_make_199 (by decide) (fun c9 => absurd (show (P112 0 2) = (nI (2 + k_6)) from (hF112.1.e2.trans (congrArg nI hF112.2.1.2.1))) c9) (fun _ => ?_)
          refine lv_aload_n hx hb dX9_make_202 rfl (lv_at hl 1 rfl) ?_
          refine va_get (D := D) (ci := 9) (v := .ref g1) (C := RX9) (T := TX9) (N := 24) hx hb hts in9 hown hK hP 46 rfl rfl 0 (by decide) (hts (.fieldLink RX9 10 "GranaryLaw$Store" "m" "LGranary;") (by decide +kernel)) (fun _ h9 => h9) rfl dX9_make_203 ?_
          have hPc := hP.sub (ws' := ([(g1, .inr (8, [.ref (a 0), .ref (b 0), .ref (pa 0)]))] ++ sg_St cI cZ a P112 sg_z)) [0, 1, 2, 3, 4, 5, 6, 7, 8, 9, 10, 11, 12, 13, 14, 15, 16, 17, 18, 19, 20, 21, 22, 23, 24, 25, 26, 27, 28, 29, 30, 31, 32, 33, 34, 35, 36, 37, 38, 39, 40, 41] rfl
          have hDc := hD.sub (ws' := ([(g1, .inr (8, [.ref (a 0), .ref (b 0), .ref (pa 0)]))] ++ sg_St cI cZ a P112 sg_z)) [0, 1, 2, 3, 4, 5, 6, 7, 8, 9, 10, 11, 12, 13, 14, 15, 16, 17, 18, 19, 20, 21, 22, 23, 24, 25, 26, 27, 28, 29, 30, 31, 32, 33, 34, 35, 36, 37, 38, 39, 40, 41] (by decide) rfl
          refine vp_callSi (W.runV (As := []) (rest := []) ⟨hx, hb, hml, hown, hts⟩ (c_g_day l D cI cZ cJ lo H.size g1 pa b a P112 sg_z hF112.1) (cwV 0 hts gX9_make_X8_day rfl rfl rfl (by decide +kernel) ⟨(Nat.le_of_ble_eq_true rfl), (Nat.le_of_ble_eq_true rfl)⟩) ⟨Pre.blind, va_recv hK hP (ci := 8) (q0 := 0) rfl rfl, Pre.mk hPc (hDc.weaken (fun _ _ _ h => hAlo _ h)) hC hS hAlo⟩ rfl rfl hl.1 rfl (lv_room (Nat.le_of_ble_eq_true rfl)) dX9_make_206 ⟨(Nat.le_of_ble_eq_true rfl), (Nat.le_of_ble_eq_true rfl)⟩) (fun r_13 e_14 => ?_)
          clear hPc hDc
          have e_14 : P112 0 0 = r_13 := Eq.symm e_14
          subst e_14
          refine lv_if_ne (tgt := 216) hx hb dX9_make_209 (by decide) (fun c9 => absurd (show (P112 0 0) = (0 : Int32) from hF112.2.1.2.2.2.2.2) c9) (fun _ => ?_)
          refine lv_iconst (v := 1) hx hb dX9_make_212 (by decide) ?_
          refine lv_goto (tgt := 217) hx hb dX9_make_213 (by decide) ?_
          refine W.widen (k := 0) (n := 0) (by omega) (by omega) ?_
          have hP9 : va_P D vwCl ([(st, .inr (9, [.ref g1, .ref b0, .int (nI dd112), .int (nI (1 + k_3)), .ref pr, .ref lf, .ref pk, .ref f_route, .ref f_policy, .int f_transports, .ref f_transport, .int (nI (2 + k_6)), .ref rm, .int f_day, .int f_lots, .ref f_lot, .int f_orders, .ref f_order, .ref f_reserved, .int f_earned, .int f_spent, .int f_waste, .int f_lacking, .int f_holding])), (g1, .inr (8, [.ref (a 0), .ref (b 0), .ref (pa 0)]))] ++ sg_St cI cZ a P112 sg_z ++ [(pr, .inl (cI, 3, .inl (fp24)))]) H := by exact hP.sub (ws' := ([(st, .inr (9, [.ref g1, .ref b0, .int (nI dd112), .int (nI (1 + k_3)), .ref pr, .ref lf, .ref pk, .ref f_route, .ref f_policy, .int f_transports, .ref f_transport, .int (nI (2 + k_6)), .ref rm, .int f_day, .int f_lots, .ref f_lot, .int f_orders, .ref f_order, .ref f_reserved, .int f_earned, .int f_spent, .int f_waste, .int f_lacking, .int f_holding])), (g1, .inr (8, [.ref (a 0), .ref (b 0), .ref (pa 0)]))] ++ sg_St cI cZ a P112 sg_z ++ [(pr, .inl (cI, 3, .inl (fp24)))])) [46, 0, 1, 2, 3, 4, 5, 6, 7, 8, 9, 10, 11, 12, 13, 14, 15, 16, 17, 18, 19, 20, 21, 22, 23, 24, 25, 26, 27, 28, 29, 30, 31, 32, 33, 34, 35, 36, 37, 38, 39, 40, 41, 42] rfl
          have hD9 : va_D A ([(st, .inr (9, [.ref g1, .ref b0, .int (nI dd112), .int (nI (1 + k_3)), .ref pr, .ref lf, .ref pk, .ref f_route, .ref f_policy, .int f_transports, .ref f_transport, .int (nI (2 + k_6)), .ref rm, .int f_day, .int f_lots, .ref f_lot, .int f_orders, .ref f_order, .ref f_reserved, .int f_earned, .int f_spent, .int f_waste, .int f_lacking, .int f_holding])), (g1, .inr (8, [.ref (a 0), .ref (b 0), .ref (pa 0)]))] ++ sg_St cI cZ a P112 sg_z ++ [(pr, .inl (cI, 3, .inl (fp24)))]) := by exact hD.sub (ws' := ([(st, .inr (9, [.ref g1, .ref b0, .int (nI dd112), .int (nI (1 + k_3)), .ref pr, .ref lf, .ref pk, .ref f_route, .ref f_policy, .int f_transports, .ref f_transport, .int (nI (2 + k_6)), .ref rm, .int f_day, .int f_lots, .ref f_lot, .int f_orders, .ref f_order, .ref f_reserved, .int f_earned, .int f_spent, .int f_waste, .int f_lacking, .int f_holding])), (g1, .inr (8, [.ref (a 0), .ref (b 0), .ref (pa 0)]))] ++ sg_St cI cZ a P112 sg_z ++ [(pr, .inl (cI, 3, .inl (fp24)))])) [46, 0, 1, 2, 3, 4, 5, 6, 7, 8, 9, 10, 11, 12, 13, 14, 15, 16, 17, 18, 19, 20, 21, 22, 23, 24, 25, 26, 27, 28, 29, 30, 31, 32, 33, 34, 35, 36, 37, 38, 39, 40, 41, 42] (by decide) rfl
          exact W.zret (ty := .boolean) (v := 1) hx hb hr (by decide) (fun t ht hW => ⟨⟨1, (), rfl, rfl, dd112, (1 + k_3), (2 + k_6), P112, fp24, by rw [ht]; exact hP9, hD9, ⟨hF112, ⟨by omega, by omega⟩, ⟨by omega, by omega⟩, by omega, hf112⟩⟩, hS.F ht⟩) hS.2.2 dX9_make_217
        · have hL112 : j112 < 2 + k_6 := sg_lt hB112 c_8 (by omega)
          have hc112 : sg_cn P112 2 = j112 := hF112.2.1.2.1
          refine lv_aload_n hx hb dX9_make_120 rfl (lv_at hl 1 rfl) ?_
          refine va_get (D := D) (ci := 9) (v := .ref rm) (C := RX9) (T := TX9) (N := 24) hx hb hts in9 hown hK hP 46 rfl rfl 12 (by decide) (hts (.fieldLink RX9 37 "GranaryLaw$Store" "room" "[I") (by decide +kernel)) (fun _ h9 => h9) rfl dX9_make_121 ?_
          refine lv_iload_n hx hb dX9_make_124 rfl (lv_at hl 0 rfl) ?_
          refine lv_aload_n hx hb dX9_make_125 rfl (lv_at hl 1 rfl) ?_
          refine lv_iconst (v := 4) hx hb dX9_make_126 (by decide) ?_
          have hPc := hP.sub (ws' := [(st, .inr (9, [.ref g1, .ref b0, .int (nI dd112), .int (nI (1 + k_3)), .ref pr, .ref lf, .ref pk, .ref f_route, .ref f_policy, .int f_transports, .ref f_transport, .int (nI (2 + k_6)), .ref rm, .int f_day, .int f_lots, .ref f_lot, .int f_orders, .ref f_order, .ref f_reserved, .int f_earned, .int f_spent, .int f_waste, .int f_lacking, .int f_holding]))]) [46] rfl
          have hDc := hD.sub (ws' := [(st, .inr (9, [.ref g1, .ref b0, .int (nI dd112), .int (nI (1 + k_3)), .ref pr, .ref lf, .ref pk, .ref f_route, .ref f_policy, .int f_transports, .ref f_transport, .int (nI (2 + k_6)), .ref rm, .int f_day, .int f_lots, .ref f_lot, .int f_orders, .ref f_order, .ref f_reserved, .int f_earned, .int f_spent, .int f_waste, .int f_lacking, .int f_holding]))]) [46] (by decide) rfl
          have hFc := va_free (wc := [(st, .inr (9, [.ref g1, .ref b0, .int (nI dd112), .int (nI (1 + k_3)), .ref pr, .ref lf, .ref pk, .ref f_route, .ref f_policy, .int f_transports, .ref f_transport, .int (nI (2 + k_6)), .ref rm, .int f_day, .int f_lots, .ref f_lot, .int f_orders, .ref f_order, .ref f_reserved, .int f_earned, .int f_spent, .int f_waste, .int f_lacking, .int f_holding]))]) hD hS hA [46] rfl
          refine va_calli (va_runV (As := [.int 4]) (rest := [.int (nI j112), .ref rm]) ⟨hx, hb, hml, hown, hts⟩ (c_draw l D cI cZ cJ lo H.size b0 L0 xs st dd112 4 g1 (nI (1 + k_3)) pr lf pk f_route f_policy f_transports f_transport (nI (2 + k_6)) rm f_day f_lots f_lot f_orders f_order f_reserved f_earned f_spent f_waste f_lacking f_holding (by omega) (by omega) (by omega)) (cwV 1 hts gX9_make_X9_draw rfl rfl rfl (by decide +kernel) ⟨(Nat.le_of_ble_eq_true rfl), (Nat.le_of_ble_eq_true rfl)⟩) ⟨sg_PreS.blind, va_recv hK hP (ci := 9) (q0 := 46) rfl rfl, sg_PreS.mk hPc (hDc.weaken (fun _ _ _ h => hAlo _ h)) hC hS hAlo hX0⟩ rfl rfl hl.1 rfl (lv_room (Nat.le_of_ble_eq_true rfl)) dX9_make_127 ⟨(Nat.le_of_ble_eq_true rfl), (Nat.le_of_ble_eq_true rfl)⟩) hS (fun q _ h => hFc q h) hFc (fun r_15 u t H1 locs1 ht hvm e_16 hB hz1 hk1 hS1 => ?_)
          have hS := hS1
          obtain ⟨hP1, hD1⟩ := hB
          rw [ht] at hP1
          obtain ⟨hP, hD⟩ := va_join (wr := ([(g1, .inr (8, [.ref (a 0), .ref (b 0), .ref (pa 0)]))] ++ sg_St cI cZ a P112 sg_z ++ [(pr, .inl (cI, 3, .inl (fp24))), (lf, .inl (cI, 3, .inl (fl24))), (pk, .inl (cI, 3, .inl (fk24))), (rm, .inl (cI, 4, .inl (fr112)))])) (w1 := [(st, .inr (9, [.ref g1, .ref b0, .int (nI (dd112 + 1)), .int (nI (1 + k_3)), .ref pr, .ref lf, .ref pk, .ref f_route, .ref f_policy, .int f_transports, .ref f_transport, .int (nI (2 + k_6)), .ref rm, .int f_day, .int f_lots, .ref f_lot, .int f_orders, .ref f_order, .ref f_reserved, .int f_earned, .int f_spent, .int f_waste, .int f_lacking, .int f_holding]))]) hP hD [46] [0, 1, 2, 3, 4, 5, 6, 7, 8, 9, 10, 11, 12, 13, 14, 15, 16, 17, 18, 19, 20, 21, 22, 23, 24, 25, 26, 27, 28, 29, 30, 31, 32, 33, 34, 35, 36, 37, 38, 39, 40, 41, 42, 43, 44, 45] rfl rfl (by decide) (by decide) hk1 hFc hP1 hD1
          have e_16 : ∃ k9, k9 < 4 ∧ r_15 = nI k9 := e_16
          clear hFc hPc hDc ht hvm hz1 hk1 hS1 hP1 hD1
          generalize H1 = H at hP hS ⊢
          replace hP : va_P D vwCl ([(g1, .inr (8, [.ref (a 0), .ref (b 0), .ref (pa 0)]))] ++ sg_St cI cZ a P112 sg_z ++ [(pr, .inl (cI, 3, .inl (fp24))), (lf, .inl (cI, 3, .inl (fl24))), (pk, .inl (cI, 3, .inl (fk24))), (rm, .inl (cI, 4, .inl (fr112))), (st, .inr (9, [.ref g1, .ref b0, .int (nI (dd112 + 1)), .int (nI (1 + k_3)), .ref pr, .ref lf, .ref pk, .ref f_route, .ref f_policy, .int f_transports, .ref f_transport, .int (nI (2 + k_6)), .ref rm, .int f_day, .int f_lots, .ref f_lot, .int f_orders, .ref f_order, .ref f_reserved, .int f_earned, .int f_spent, .int f_waste, .int f_lacking, .int f_holding]))]) H := hP
          replace hD : va_D A ([(g1, .inr (8, [.ref (a 0), .ref (b 0), .ref (pa 0)]))] ++ sg_St cI cZ a P112 sg_z ++ [(pr, .inl (cI, 3, .inl (fp24))), (lf, .inl (cI, 3, .inl (fl24))), (pk, .inl (cI, 3, .inl (fk24))), (rm, .inl (cI, 4, .inl (fr112))), (st, .inr (9, [.ref g1, .ref b0, .int (nI (dd112 + 1)), .int (nI (1 + k_3)), .ref pr, .ref lf, .ref pk, .ref f_route, .ref f_policy, .int f_transports, .ref f_transport, .int (nI (2 + k_6)), .ref rm, .int f_day, .int f_lots, .ref f_lot, .int f_orders, .ref f_order, .ref f_reserved, .int f_earned, .int f_spent, .int f_waste, .int f_lacking, .int f_holding]))]) := hD
          obtain ⟨k_17, hk_17, ek_17⟩ := e_16
          subst ek_17
          refine lv_if_ne (tgt := 145) hx hb dX9_make_130 (by decide) (fun c_18 => ?_) (fun c_18 => ?_)
          · refine lv_sipush (v := 900) hx hb dX9_make_145 (by decide) ?_
            refine sg_iast hx hb hK hP hD hS 45 0 rfl rfl (j := j112) rfl (by omega) (Nat.le_of_ble_eq_true rfl) dX9_make_148 (fun H locs hP hD hS => ?_)
            replace hP : va_P D vwCl ([(g1, .inr (8, [.ref (a 0), .ref (b 0), .ref (pa 0)]))] ++ sg_St cI cZ a P112 sg_z ++ [(pr, .inl (cI, 3, .inl (fp24))), (lf, .inl (cI, 3, .inl (fl24))), (pk, .inl (cI, 3, .inl (fk24))), (rm, .inl (cI, 4, .inl (upd (fr112) j112 900))), (st, .inr (9, [.ref g1, .ref b0, .int (nI (dd112 + 1)), .int (nI (1 + k_3)), .ref pr, .ref lf, .ref pk, .ref f_route, .ref f_policy, .int f_transports, .ref f_transport, .int (nI (2 + k_6)), .ref rm, .int f_day, .int f_lots, .ref f_lot, .int f_orders, .ref f_order, .ref f_reserved, .int f_earned, .int f_spent, .int f_waste, .int f_lacking, .int f_holding]))]) H := hP
            replace hD : va_D A ([(g1, .inr (8, [.ref (a 0), .ref (b 0), .ref (pa 0)]))] ++ sg_St cI cZ a P112 sg_z ++ [(pr, .inl (cI, 3, .inl (fp24))), (lf, .inl (cI, 3, .inl (fl24))), (pk, .inl (cI, 3, .inl (fk24))), (rm, .inl (cI, 4, .inl (upd (fr112) j112 900))), (st, .inr (9, [.ref g1, .ref b0, .int (nI (dd112 + 1)), .int (nI (1 + k_3)), .ref pr, .ref lf, .ref pk, .ref f_route, .ref f_policy, .int f_transports, .ref f_transport, .int (nI (2 + k_6)), .ref rm, .int f_day, .int f_lots, .ref f_lot, .int f_orders, .ref f_order, .ref f_reserved, .int f_earned, .int f_spent, .int f_waste, .int f_lacking, .int f_holding]))]) := hD
            refine lv_aload_n hx hb dX9_make_149 rfl (lv_at hl 1 rfl) ?_
            refine va_get (D := D) (ci := 9) (v := .ref g1) (C := RX9) (T := TX9) (N := 24) hx hb hts in9 hown hK hP 46 rfl rfl 0 (by decide) (hts (.fieldLink RX9 10 "GranaryLaw$Store" "m" "LGranary;") (by decide +kernel)) (fun _ h9 => h9) rfl dX9_make_150 ?_
            refine lv_aload_n hx hb dX9_make_153 rfl (lv_at hl 1 rfl) ?_
            refine va_get (D := D) (ci := 9) (v := .ref rm) (C := RX9) (T := TX9) (N := 24) hx hb hts in9 hown hK hP 46 rfl rfl 12 (by decide) (hts (.fieldLink RX9 37 "GranaryLaw$Store" "room" "[I") (by decide +kernel)) (fun _ h9 => h9) rfl dX9_make_154 ?_
            refine lv_iload_n hx hb dX9_make_157 rfl (lv_at hl 0 rfl) ?_
            refine sg_iald hx hb hK hP 45 0 rfl rfl (j := j112) rfl (by omega) (Nat.le_of_ble_eq_true rfl) dX9_make_158 ?_
            refine lv_toi (y := 900) pk_us ?_
            have hPc := hP.sub (ws' := ([(g1, .inr (8, [.ref (a 0), .ref (b 0), .ref (pa 0)]))] ++ sg_St cI cZ a P112 sg_z)) [0, 1, 2, 3, 4, 5, 6, 7, 8, 9, 10, 11, 12, 13, 14, 15, 16, 17, 18, 19, 20, 21, 22, 23, 24, 25, 26, 27, 28, 29, 30, 31, 32, 33, 34, 35, 36, 37, 38, 39, 40, 41] rfl
            have hDc := hD.sub (ws' := ([(g1, .inr (8, [.ref (a 0), .ref (b 0), .ref (pa 0)]))] ++ sg_St cI cZ a P112 sg_z)) [0, 1, 2, 3, 4, 5, 6, 7, 8, 9, 10, 11, 12, 13, 14, 15, 16, 17, 18, 19, 20, 21, 22, 23, 24, 25, 26, 27, 28, 29, 30, 31, 32, 33, 34, 35, 36, 37, 38, 39, 40, 41] (by decide) rfl
            have hFc := va_free (wc := ([(g1, .inr (8, [.ref (a 0), .ref (b 0), .ref (pa 0)]))] ++ sg_St cI cZ a P112 sg_z)) hD hS hA [0, 1, 2, 3, 4, 5, 6, 7, 8, 9, 10, 11, 12, 13, 14, 15, 16, 17, 18, 19, 20, 21, 22, 23, 24, 25, 26, 27, 28, 29, 30, 31, 32, 33, 34, 35, 36, 37, 38, 39, 40, 41] rfl
            refine va_calli (va_runV (As := [.int 900]) (rest := []) ⟨hx, hb, hml, hown, hts⟩ (c_g_addSite l D cI cZ cJ lo H.size g1 pa b a P112 sg_z 900 hF112.1 (by decide) (by decide) (by omega)) (cwV 1 hts gX9_make_X8_addSite rfl rfl rfl (by decide +kernel) ⟨(Nat.le_of_ble_eq_true rfl), (Nat.le_of_ble_eq_true rfl)⟩) ⟨Pre.blind, va_recv hK hP (ci := 8) (q0 := 0) rfl rfl, Pre.mk hPc (hDc.weaken (fun _ _ _ h => hAlo _ h)) hC hS hAlo⟩ rfl rfl hl.1 rfl (lv_room (Nat.le_of_ble_eq_true rfl)) dX9_make_159 ⟨(Nat.le_of_ble_eq_true rfl), (Nat.le_of_ble_eq_true rfl)⟩) hS (fun q _ h => hFc q h) hFc (fun r_19 u t H1 locs1 ht hvm e_20 hB hz1 hk1 hS1 => ?_)
            have hS := hS1
            obtain ⟨hP1, hD1⟩ := hB
            rw [ht] at hP1
            obtain ⟨hP, hD⟩ := va_join (wr := [(pr, .inl (cI, 3, .inl (fp24))), (lf, .inl (cI, 3, .inl (fl24))), (pk, .inl (cI, 3, .inl (fk24))), (rm, .inl (cI, 4, .inl (upd (fr112) j112 900))), (st, .inr (9, [.ref g1, .ref b0, .int (nI (dd112 + 1)), .int (nI (1 + k_3)), .ref pr, .ref lf, .ref pk, .ref f_route, .ref f_policy, .int f_transports, .ref f_transport, .int (nI (2 + k_6)), .ref rm, .int f_day, .int f_lots, .ref f_lot, .int f_orders, .ref f_order, .ref f_reserved, .int f_earned, .int f_spent, .int f_waste, .int f_lacking, .int f_holding]))]) (w1 := ([(g1, .inr (8, [.ref (a 0), .ref (b 0), .ref (pa 0)]))] ++ sg_St cI cZ a (sg_g_addSite P112 900) sg_z)) hP hD [0, 1, 2, 3, 4, 5, 6, 7, 8, 9, 10, 11, 12, 13, 14, 15, 16, 17, 18, 19, 20, 21, 22, 23, 24, 25, 26, 27, 28, 29, 30, 31, 32, 33, 34, 35, 36, 37, 38, 39, 40, 41] [42, 43, 44, 45, 46] rfl rfl (by decide) (by decide) hk1 hFc hP1 hD1
            have e_20 : sg_g_addSite_r P112 (900 : Int32) = r_19 := Eq.symm e_20
            subst e_20
            clear hFc hPc hDc ht hvm hz1 hk1 hS1 hP1 hD1
            generalize H1 = H at hP hS ⊢
            replace hP : va_P D vwCl ([(pr, .inl (cI, 3, .inl (fp24))), (lf, .inl (cI, 3, .inl (fl24))), (pk, .inl (cI, 3, .inl (fk24))), (rm, .inl (cI, 4, .inl (upd (fr112) j112 900))), (st, .inr (9, [.ref g1, .ref b0, .int (nI (dd112 + 1)), .int (nI (1 + k_3)), .ref pr, .ref lf, .ref pk, .ref f_route, .ref f_policy, .int f_transports, .ref f_transport, .int (nI (2 + k_6)), .ref rm, .int f_day, .int f_lots, .ref f_lot, .int f_orders, .ref f_order, .ref f_reserved, .int f_earned, .int f_spent, .int f_waste, .int f_lacking, .int f_holding])), (g1, .inr (8, [.ref (a 0), .ref (b 0), .ref (pa 0)]))] ++ sg_St cI cZ a (sg_g_addSite P112 900) sg_z) H := hP
            replace hD : va_D A ([(pr, .inl (cI, 3, .inl (fp24))), (lf, .inl (cI, 3, .inl (fl24))), (pk, .inl (cI, 3, .inl (fk24))), (rm, .inl (cI, 4, .inl (upd (fr112) j112 900))), (st, .inr (9, [.ref g1, .ref b0, .int (nI (dd112 + 1)), .int (nI (1 + k_3)), .ref pr, .ref lf, .ref pk, .ref f_route, .ref f_policy, .int f_transports, .ref f_transport, .int (nI (2 + k_6)), .ref rm, .int f_day, .int f_lots, .ref f_lot, .int f_orders, .ref f_order, .ref f_reserved, .int f_earned, .int f_spent, .int f_waste, .int f_lacking, .int f_holding])), (g1, .inr (8, [.ref (a 0), .ref (b 0), .ref (pa 0)]))] ++ sg_St cI cZ a (sg_g_addSite P112 900) sg_z) := hD
            refine lv_toi (y := nI j112) ((sg_sadd_n hF112.1 (by omega)).trans (congrArg nI hc112)) ?_
            refine lv_iload_n hx hb dX9_make_162 rfl (lv_at hl 0 rfl) ?_
            refine lv_icmp_eq (tgt := 168) hx hb dX9_make_163 (by decide) (fun _ => ?_) (fun c9 => absurd (show (nI j112) = (nI j112) from rfl) c9)
            refine lv_iinc (v := nI (j112 + 1)) (lv' := [(1, .int (nI (j112 + 1))), (0, .ref st)]) hx hb dX9_make_168 hl (k := 0) rfl (nI_1 j112) (by decide) rfl (fun ls hl => ?_)
            refine lv_goto (tgt := 112) hx hb dX9_make_171 (by decide) ?_
            exact ih112 (j112 + 1) (dd112 + 1) (sg_g_addSite P112 900) (upd (fr112) j112 900) _ _ _ (hF112.site (by omega) (by decide)).1 (by omega) (fun i9 hi9 => (hf112 i9 hi9).trans (congrFun (hF112.site (by omega) (by decide)).2 i9).symm) (by omega) (by omega) (lv_sub hl [0, 1] rfl) hS (hD.sub (ws' := ([(g1, .inr (8, [.ref (a 0), .ref (b 0), .ref (pa 0)]))] ++ sg_St cI cZ a (sg_g_addSite P112 900) sg_z ++ [(pr, .inl (cI, 3, .inl (fp24))), (lf, .inl (cI, 3, .inl (fl24))), (pk, .inl (cI, 3, .inl (fk24))), (rm, .inl (cI, 4, .inl (upd (fr112) j112 900))), (st, .inr (9, [.ref g1, .ref b0, .int (nI (dd112 + 1)), .int (nI (1 + k_3)), .ref pr, .ref lf, .ref pk, .ref f_route, .ref f_policy, .int f_transports, .ref f_transport, .int (nI (2 + k_6)), .ref rm, .int f_day, .int f_lots, .ref f_lot, .int f_orders, .ref f_order, .ref f_reserved, .int f_earned, .int f_spent, .int f_waste, .int f_lacking, .int f_holding]))])) [5, 6, 7, 8, 9, 10, 11, 12, 13, 14, 15, 16, 17, 18, 19, 20, 21, 22, 23, 24, 25, 26, 27, 28, 29, 30, 31, 32, 33, 34, 35, 36, 37, 38, 39, 40, 41, 42, 43, 44, 45, 46, 0, 1, 2, 3, 4] (by decide) rfl) (hP.sub (ws' := ([(g1, .inr (8, [.ref (a 0), .ref (b 0), .ref (pa 0)]))] ++ sg_St cI cZ a (sg_g_addSite P112 900) sg_z ++ [(pr, .inl (cI, 3, .inl (fp24))), (lf, .inl (cI, 3, .inl (fl24))), (pk, .inl (cI, 3, .inl (fk24))), (rm, .inl (cI, 4, .inl (upd (fr112) j112 900))), (st, .inr (9, [.ref g1, .ref b0, .int (nI (dd112 + 1)), .int (nI (1 + k_3)), .ref pr, .ref lf, .ref pk, .ref f_route, .ref f_policy, .int f_transports, .ref f_transport, .int (nI (2 + k_6)), .ref rm, .int f_day, .int f_lots, .ref f_lot, .int f_orders, .ref f_order, .ref f_reserved, .int f_earned, .int f_spent, .int f_waste, .int f_lacking, .int f_holding]))])) [5, 6, 7, 8, 9, 10, 11, 12, 13, 14, 15, 16, 17, 18, 19, 20, 21, 22, 23, 24, 25, 26, 27, 28, 29, 30, 31, 32, 33, 34, 35, 36, 37, 38, 39, 40, 41, 42, 43, 44, 45, 46, 0, 1, 2, 3, 4] rfl)
          · refine lv_bipush (v := 20) hx hb dX9_make_133 (by decide) ?_
            refine lv_aload_n hx hb dX9_make_135 rfl (lv_at hl 1 rfl) ?_
            refine lv_bipush (v := 40) hx hb dX9_make_136 (by decide) ?_
            have hPc := hP.sub (ws' := [(st, .inr (9, [.ref g1, .ref b0, .int (nI (dd112 + 1)), .int (nI (1 + k_3)), .ref pr, .ref lf, .ref pk, .ref f_route, .ref f_policy, .int f_transports, .ref f_transport, .int (nI (2 + k_6)), .ref rm, .int f_day, .int f_lots, .ref f_lot, .int f_orders, .ref f_order, .ref f_reserved, .int f_earned, .int f_spent, .int f_waste, .int f_lacking, .int f_holding]))]) [46] rfl
            have hDc := hD.sub (ws' := [(st, .inr (9, [.ref g1, .ref b0, .int (nI (dd112 + 1)), .int (nI (1 + k_3)), .ref pr, .ref lf, .ref pk, .ref f_route, .ref f_policy, .int f_transports, .ref f_transport, .int (nI (2 + k_6)), .ref rm, .int f_day, .int f_lots, .ref f_lot, .int f_orders, .ref f_order, .ref f_reserved, .int f_earned, .int f_spent, .int f_waste, .int f_lacking, .int f_holding]))]) [46] (by decide) rfl
            have hFc := va_free (wc := [(st, .inr (9, [.ref g1, .ref b0, .int (nI (dd112 + 1)), .int (nI (1 + k_3)), .ref pr, .ref lf, .ref pk, .ref f_route, .ref f_policy, .int f_transports, .ref f_transport, .int (nI (2 + k_6)), .ref rm, .int f_day, .int f_lots, .ref f_lot, .int f_orders, .ref f_order, .ref f_reserved, .int f_earned, .int f_spent, .int f_waste, .int f_lacking, .int f_holding]))]) hD hS hA [46] rfl
            refine va_calli (va_runV (As := [.int 40]) (rest := [.int 20, .int (nI j112), .ref rm]) ⟨hx, hb, hml, hown, hts⟩ (c_draw l D cI cZ cJ lo H.size b0 L0 xs st (dd112 + 1) 40 g1 (nI (1 + k_3)) pr lf pk f_route f_policy f_transports f_transport (nI (2 + k_6)) rm f_day f_lots f_lot f_orders f_order f_reserved f_earned f_spent f_waste f_lacking f_holding (by omega) (by omega) (by omega)) (cwV 1 hts gX9_make_X9_draw rfl rfl rfl (by decide +kernel) ⟨(Nat.le_of_ble_eq_true rfl), (Nat.le_of_ble_eq_true rfl)⟩) ⟨sg_PreS.blind, va_recv hK hP (ci := 9) (q0 := 46) rfl rfl, sg_PreS.mk hPc (hDc.weaken (fun _ _ _ h => hAlo _ h)) hC hS hAlo hX0⟩ rfl rfl hl.1 rfl (lv_room (Nat.le_of_ble_eq_true rfl)) dX9_make_138 ⟨(Nat.le_of_ble_eq_true rfl), (Nat.le_of_ble_eq_true rfl)⟩) hS (fun q _ h => hFc q h) hFc (fun r_21 u t H1 locs1 ht hvm e_22 hB hz1 hk1 hS1 => ?_)
            have hS := hS1
            obtain ⟨hP1, hD1⟩ := hB
            rw [ht] at hP1
            obtain ⟨hP, hD⟩ := va_join (wr := ([(g1, .inr (8, [.ref (a 0), .ref (b 0), .ref (pa 0)]))] ++ sg_St cI cZ a P112 sg_z ++ [(pr, .inl (cI, 3, .inl (fp24))), (lf, .inl (cI, 3, .inl (fl24))), (pk, .inl (cI, 3, .inl (fk24))), (rm, .inl (cI, 4, .inl (fr112)))])) (w1 := [(st, .inr (9, [.ref g1, .ref b0, .int (nI ((dd112 + 1) + 1)), .int (nI (1 + k_3)), .ref pr, .ref lf, .ref pk, .ref f_route, .ref f_policy, .int f_transports, .ref f_transport, .int (nI (2 + k_6)), .ref rm, .int f_day, .int f_lots, .ref f_lot, .int f_orders, .ref f_order, .ref f_reserved, .int f_earned, .int f_spent, .int f_waste, .int f_lacking, .int f_holding]))]) hP hD [46] [0, 1, 2, 3, 4, 5, 6, 7, 8, 9, 10, 11, 12, 13, 14, 15, 16, 17, 18, 19, 20, 21, 22, 23, 24, 25, 26, 27, 28, 29, 30, 31, 32, 33, 34, 35, 36, 37, 38, 39, 40, 41, 42, 43, 44, 45] rfl rfl (by decide) (by decide) hk1 hFc hP1 hD1
            have e_22 : ∃ k9, k9 < 40 ∧ r_21 = nI k9 := e_22
            clear hFc hPc hDc ht hvm hz1 hk1 hS1 hP1 hD1
            generalize H1 = H at hP hS ⊢
            replace hP : va_P D vwCl ([(g1, .inr (8, [.ref (a 0), .ref (b 0), .ref (pa 0)]))] ++ sg_St cI cZ a P112 sg_z ++ [(pr, .inl (cI, 3, .inl (fp24))), (lf, .inl (cI, 3, .inl (fl24))), (pk, .inl (cI, 3, .inl (fk24))), (rm, .inl (cI, 4, .inl (fr112))), (st, .inr (9, [.ref g1, .ref b0, .int (nI ((dd112 + 1) + 1)), .int (nI (1 + k_3)), .ref pr, .ref lf, .ref pk, .ref f_route, .ref f_policy, .int f_transports, .ref f_transport, .int (nI (2 + k_6)), .ref rm, .int f_day, .int f_lots, .ref f_lot, .int f_orders, .ref f_order, .ref f_reserved, .int f_earned, .int f_spent, .int f_waste, .int f_lacking, .int f_holding]))]) H := hP
            replace hD : va_D A ([(g1, .inr (8, [.ref (a 0), .ref (b 0), .ref (pa 0)]))] ++ sg_St cI cZ a P112 sg_z ++ [(pr, .inl (cI, 3, .inl (fp24))), (lf, .inl (cI, 3, .inl (fl24))), (pk, .inl (cI, 3, .inl (fk24))), (rm, .inl (cI, 4, .inl (fr112))), (st, .inr (9, [.ref g1, .ref b0, .int (nI ((dd112 + 1) + 1)), .int (nI (1 + k_3)), .ref pr, .ref lf, .ref pk, .ref f_route, .ref f_policy, .int f_transports, .ref f_transport, .int (nI (2 + k_6)), .ref rm, .int f_day, .int f_lots, .ref f_lot, .int f_orders, .ref f_order, .ref f_reserved, .int f_earned, .int f_spent, .int f_waste, .int f_lacking, .int f_holding]))]) := hD
            obtain ⟨k_23, hk_23, ek_23⟩ := e_22
            subst ek_23
            refine lv_iadd hx hb dX9_make_141 ?_
            refine lv_toi (y := nI (20 + k_23)) (nI_add 20 k_23) ?_
            refine lv_goto (tgt := 148) hx hb dX9_make_142 (by decide) ?_
            refine sg_iast hx hb hK hP hD hS 45 0 rfl rfl (j := j112) rfl (by omega) (Nat.le_of_ble_eq_true rfl) dX9_make_148 (fun H locs hP hD hS => ?_)
            replace hP : va_P D vwCl ([(g1, .inr (8, [.ref (a 0), .ref (b 0), .ref (pa 0)]))] ++ sg_St cI cZ a P112 sg_z ++ [(pr, .inl (cI, 3, .inl (fp24))), (lf, .inl (cI, 3, .inl (fl24))), (pk, .inl (cI, 3, .inl (fk24))), (rm, .inl (cI, 4, .inl (upd (fr112) j112 (nI (20 + k_23))))), (st, .inr (9, [.ref g1, .ref b0, .int (nI ((dd112 + 1) + 1)), .int (nI (1 + k_3)), .ref pr, .ref lf, .ref pk, .ref f_route, .ref f_policy, .int f_transports, .ref f_transport, .int (nI (2 + k_6)), .ref rm, .int f_day, .int f_lots, .ref f_lot, .int f_orders, .ref f_order, .ref f_reserved, .int f_earned, .int f_spent, .int f_waste, .int f_lacking, .int f_holding]))]) H := hP
            replace hD : va_D A ([(g1, .inr (8, [.ref (a 0), .ref (b 0), .ref (pa 0)]))] ++ sg_St cI cZ a P112 sg_z ++ [(pr, .inl (cI, 3, .inl (fp24))), (lf, .inl (cI, 3, .inl (fl24))), (pk, .inl (cI, 3, .inl (fk24))), (rm, .inl (cI, 4, .inl (upd (fr112) j112 (nI (20 + k_23))))), (st, .inr (9, [.ref g1, .ref b0, .int (nI ((dd112 + 1) + 1)), .int (nI (1 + k_3)), .ref pr, .ref lf, .ref pk, .ref f_route, .ref f_policy, .int f_transports, .ref f_transport, .int (nI (2 + k_6)), .ref rm, .int f_day, .int f_lots, .ref f_lot, .int f_orders, .ref f_order, .ref f_reserved, .int f_earned, .int f_spent, .int f_waste, .int f_lacking, .int f_holding]))]) := hD
            refine lv_aload_n hx hb dX9_make_149 rfl (lv_at hl 1 rfl) ?_
            refine va_get (D := D) (ci := 9) (v := .ref g1) (C := RX9) (T := TX9) (N := 24) hx hb hts in9 hown hK hP 46 rfl rfl 0 (by decide) (hts (.fieldLink RX9 10 "GranaryLaw$Store" "m" "LGranary;") (by decide +kernel)) (fun _ h9 => h9) rfl dX9_make_150 ?_
            refine lv_aload_n hx hb dX9_make_153 rfl (lv_at hl 1 rfl) ?_
            refine va_get (D := D) (ci := 9) (v := .ref rm) (C := RX9) (T := TX9) (N := 24) hx hb hts in9 hown hK hP 46 rfl rfl 12 (by decide) (hts (.fieldLink RX9 37 "GranaryLaw$Store" "room" "[I") (by decide +kernel)) (fun _ h9 => h9) rfl dX9_make_154 ?_
            refine lv_iload_n hx hb dX9_make_157 rfl (lv_at hl 0 rfl) ?_
            refine sg_iald hx hb hK hP 45 0 rfl rfl (j := j112) rfl (by omega) (Nat.le_of_ble_eq_true rfl) dX9_make_158 ?_
            refine lv_toi (y := nI (20 + k_23)) pk_us ?_
            have hPc := hP.sub (ws' := ([(g1, .inr (8, [.ref (a 0), .ref (b 0), .ref (pa 0)]))] ++ sg_St cI cZ a P112 sg_z)) [0, 1, 2, 3, 4, 5, 6, 7, 8, 9, 10, 11, 12, 13, 14, 15, 16, 17, 18, 19, 20, 21, 22, 23, 24, 25, 26, 27, 28, 29, 30, 31, 32, 33, 34, 35, 36, 37, 38, 39, 40, 41] rfl
            have hDc := hD.sub (ws' := ([(g1, .inr (8, [.ref (a 0), .ref (b 0), .ref (pa 0)]))] ++ sg_St cI cZ a P112 sg_z)) [0, 1, 2, 3, 4, 5, 6, 7, 8, 9, 10, 11, 12, 13, 14, 15, 16, 17, 18, 19, 20, 21, 22, 23, 24, 25, 26, 27, 28, 29, 30, 31, 32, 33, 34, 35, 36, 37, 38, 39, 40, 41] (by decide) rfl
            have hFc := va_free (wc := ([(g1, .inr (8, [.ref (a 0), .ref (b 0), .ref (pa 0)]))] ++ sg_St cI cZ a P112 sg_z)) hD hS hA [0, 1, 2, 3, 4, 5, 6, 7, 8, 9, 10, 11, 12, 13, 14, 15, 16, 17, 18, 19, 20, 21, 22, 23, 24, 25, 26, 27, 28, 29, 30, 31, 32, 33, 34, 35, 36, 37, 38, 39, 40, 41] rfl
            refine va_calli (va_runV (As := [.int (nI (20 + k_23))]) (rest := []) ⟨hx, hb, hml, hown, hts⟩ (c_g_addSite l D cI cZ cJ lo H.size g1 pa b a P112 sg_z (nI (20 + k_23)) hF112.1 (show nI 1 ≤ nI (20 + k_23) from nI_le (by omega) (by omega)) (show nI (20 + k_23) ≤ nI 9999 from nI_le (by omega) (by omega)) (by omega)) (cwV 1 hts gX9_make_X8_addSite rfl rfl rfl (by decide +kernel) ⟨(Nat.le_of_ble_eq_true rfl), (Nat.le_of_ble_eq_true rfl)⟩) ⟨Pre.blind, va_recv hK hP (ci := 8) (q0 := 0) rfl rfl, Pre.mk hPc (hDc.weaken (fun _ _ _ h => hAlo _ h)) hC hS hAlo⟩ rfl rfl hl.1 rfl (lv_room (Nat.le_of_ble_eq_true rfl)) dX9_make_159 ⟨(Nat.le_of_ble_eq_true rfl), (Nat.le_of_ble_eq_true rfl)⟩) hS (fun q _ h => hFc q h) hFc (fun r_24 u t H1 locs1 ht hvm e_25 hB hz1 hk1 hS1 => ?_)
            have hS := hS1
            obtain ⟨hP1, hD1⟩ := hB
            rw [ht] at hP1
            obtain ⟨hP, hD⟩ := va_join (wr := [(pr, .inl (cI, 3, .inl (fp24))), (lf, .inl (cI, 3, .inl (fl24))), (pk, .inl (cI, 3, .inl (fk24))), (rm, .inl (cI, 4, .inl (upd (fr112) j112 (nI (20 + k_23))))), (st, .inr (9, [.ref g1, .ref b0, .int (nI ((dd112 + 1) + 1)), .int (nI (1 + k_3)), .ref pr, .ref lf, .ref pk, .ref f_route, .ref f_policy, .int f_transports, .ref f_transport, .int (nI (2 + k_6)), .ref rm, .int f_day, .int f_lots, .ref f_lot, .int f_orders, .ref f_order, .ref f_reserved, .int f_earned, .int f_spent, .int f_waste, .int f_lacking, .int f_holding]))]) (w1 := ([(g1, .inr (8, [.ref (a 0), .ref (b 0), .ref (pa 0)]))] ++ sg_St cI cZ a (sg_g_addSite P112 (nI (20 + k_23))) sg_z)) hP hD [0, 1, 2, 3, 4, 5, 6, 7, 8, 9, 10, 11, 12, 13, 14, 15, 16, 17, 18, 19, 20, 21, 22, 23, 24, 25, 26, 27, 28, 29, 30, 31, 32, 33, 34, 35, 36, 37, 38, 39, 40, 41] [42, 43, 44, 45, 46] rfl rfl (by decide) (by decide) hk1 hFc hP1 hD1
            have e_25 : sg_g_addSite_r P112 (nI (20 + k_23)) = r_24 := Eq.symm e_25
            subst e_25
            clear hFc hPc hDc ht hvm hz1 hk1 hS1 hP1 hD1
            generalize H1 = H at hP hS ⊢
            replace hP : va_P D vwCl ([(pr, .inl (cI, 3, .inl (fp24))), (lf, .inl (cI, 3, .inl (fl24))), (pk, .inl (cI, 3, .inl (fk24))), (rm, .inl (cI, 4, .inl (upd (fr112) j112 (nI (20 + k_23))))), (st, .inr (9, [.ref g1, .ref b0, .int (nI ((dd112 + 1) + 1)), .int (nI (1 + k_3)), .ref pr, .ref lf, .ref pk, .ref f_route, .ref f_policy, .int f_transports, .ref f_transport, .int (nI (2 + k_6)), .ref rm, .int f_day, .int f_lots, .ref f_lot, .int f_orders, .ref f_order, .ref f_reserved, .int f_earned, .int f_spent, .int f_waste, .int f_lacking, .int f_holding])), (g1, .inr (8, [.ref (a 0), .ref (b 0), .ref (pa 0)]))] ++ sg_St cI cZ a (sg_g_addSite P112 (nI (20 + k_23))) sg_z) H := hP
            replace hD : va_D A ([(pr, .inl (cI, 3, .inl (fp24))), (lf, .inl (cI, 3, .inl (fl24))), (pk, .inl (cI, 3, .inl (fk24))), (rm, .inl (cI, 4, .inl (upd (fr112) j112 (nI (20 + k_23))))), (st, .inr (9, [.ref g1, .ref b0, .int (nI ((dd112 + 1) + 1)), .int (nI (1 + k_3)), .ref pr, .ref lf, .ref pk, .ref f_route, .ref f_policy, .int f_transports, .ref f_transport, .int (nI (2 + k_6)), .ref rm, .int f_day, .int f_lots, .ref f_lot, .int f_orders, .ref f_order, .ref f_reserved, .int f_earned, .int f_spent, .int f_waste, .int f_lacking, .int f_holding])), (g1, .inr (8, [.ref (a 0), .ref (b 0), .ref (pa 0)]))] ++ sg_St cI cZ a (sg_g_addSite P112 (nI (20 + k_23))) sg_z) := hD
            refine lv_toi (y := nI j112) ((sg_sadd_n hF112.1 (by omega)).trans (congrArg nI hc112)) ?_
            refine lv_iload_n hx hb dX9_make_162 rfl (lv_at hl 0 rfl) ?_
            refine lv_icmp_eq (tgt := 168) hx hb dX9_make_163 (by decide) (fun _ => ?_) (fun c9 => absurd (show (nI j112) = (nI j112) from rfl) c9)
            refine lv_iinc (v := nI (j112 + 1)) (lv' := [(1, .int (nI (j112 + 1))), (0, .ref st)]) hx hb dX9_make_168 hl (k := 0) rfl (nI_1 j112) (by decide) rfl (fun ls hl => ?_)
            refine lv_goto (tgt := 112) hx hb dX9_make_171 (by decide) ?_
            exact ih112 (j112 + 1) ((dd112 + 1) + 1) (sg_g_addSite P112 (nI (20 + k_23))) (upd (fr112) j112 (nI (20 + k_23))) _ _ _ (hF112.site (by omega) (sg_nb (k := 20 + k_23) (M := 9999) (by omega) (by decide))).1 (by omega) (fun i9 hi9 => (hf112 i9 hi9).trans (congrFun (hF112.site (by omega) (sg_nb (k := 20 + k_23) (M := 9999) (by omega) (by decide))).2 i9).symm) (by omega) (by omega) (lv_sub hl [0, 1] rfl) hS (hD.sub (ws' := ([(g1, .inr (8, [.ref (a 0), .ref (b 0), .ref (pa 0)]))] ++ sg_St cI cZ a (sg_g_addSite P112 (nI (20 + k_23))) sg_z ++ [(pr, .inl (cI, 3, .inl (fp24))), (lf, .inl (cI, 3, .inl (fl24))), (pk, .inl (cI, 3, .inl (fk24))), (rm, .inl (cI, 4, .inl (upd (fr112) j112 (nI (20 + k_23))))), (st, .inr (9, [.ref g1, .ref b0, .int (nI ((dd112 + 1) + 1)), .int (nI (1 + k_3)), .ref pr, .ref lf, .ref pk, .ref f_route, .ref f_policy, .int f_transports, .ref f_transport, .int (nI (2 + k_6)), .ref rm, .int f_day, .int f_lots, .ref f_lot, .int f_orders, .ref f_order, .ref f_reserved, .int f_earned, .int f_spent, .int f_waste, .int f_lacking, .int f_holding]))])) [5, 6, 7, 8, 9, 10, 11, 12, 13, 14, 15, 16, 17, 18, 19, 20, 21, 22, 23, 24, 25, 26, 27, 28, 29, 30, 31, 32, 33, 34, 35, 36, 37, 38, 39, 40, 41, 42, 43, 44, 45, 46, 0, 1, 2, 3, 4] (by decide) rfl) (hP.sub (ws' := ([(g1, .inr (8, [.ref (a 0), .ref (b 0), .ref (pa 0)]))] ++ sg_St cI cZ a (sg_g_addSite P112 (nI (20 + k_23))) sg_z ++ [(pr, .inl (cI, 3, .inl (fp24))), (lf, .inl (cI, 3, .inl (fl24))), (pk, .inl (cI, 3, .inl (fk24))), (rm, .inl (cI, 4, .inl (upd (fr112) j112 (nI (20 + k_23))))), (st, .inr (9, [.ref g1, .ref b0, .int (nI ((dd112 + 1) + 1)), .int (nI (1 + k_3)), .ref pr, .ref lf, .ref pk, .ref f_route, .ref f_policy, .int f_transports, .ref f_transport, .int (nI (2 + k_6)), .ref rm, .int f_day, .int f_lots, .ref f_lot, .int f_orders, .ref f_order, .ref f_reserved, .int f_earned, .int f_spent, .int f_waste, .int f_lacking, .int f_holding]))])) [5, 6, 7, 8, 9, 10, 11, 12, 13, 14, 15, 16, 17, 18, 19, 20, 21, 22, 23, 24, 25, 26, 27, 28, 29, 30, 31, 32, 33, 34, 35, 36, 37, 38, 39, 40, 41, 42, 43, 44, 45, 46, 0, 1, 2, 3, 4] rfl)
    · have hL24 : j24 < 1 + k_3 := sg_lt hB24 c_7 (by omega)
      have hc24 : sg_cn P24 1 = j24 := hF24.2.1.1
      refine lv_aload_n hx hb dX9_make_32 rfl (lv_at hl 1 rfl) ?_
      refine va_get (D := D) (ci := 9) (v := .ref pr) (C := RX9) (T := TX9) (N := 24) hx hb hts in9 hown hK hP 46 rfl rfl 4 (by decide) (hts (.fieldLink RX9 16 "GranaryLaw$Store" "price" "[I") (by decide +kernel)) (fun _ h9 => h9) rfl dX9_make_33 ?_
      refine lv_iload_n hx hb dX9_make_36 rfl (lv_at hl 0 rfl) ?_
      refine lv_iconst (v := 1) hx hb dX9_make_37 (by decide) ?_
      refine lv_aload_n hx hb dX9_make_38 rfl (lv_at hl 1 rfl) ?_
      refine lv_bipush (v := 20) hx hb dX9_make_39 (by decide) ?_
      have hPc := hP.sub (ws' := [(st, .inr (9, [.ref g1, .ref b0, .int (nI dd24), .int (nI (1 + k_3)), .ref pr, .ref lf, .ref pk, .ref f_route, .ref f_policy, .int f_transports, .ref f_transport, .int (nI (2 + k_6)), .ref rm, .int f_day, .int f_lots, .ref f_lot, .int f_orders, .ref f_order, .ref f_reserved, .int f_earned, .int f_spent, .int f_waste, .int f_lacking, .int f_holding]))]) [46] rfl
      have hDc := hD.sub (ws' := [(st, .inr (9, [.ref g1, .ref b0, .int (nI dd24), .int (nI (1 + k_3)), .ref pr, .ref lf, .ref pk, .ref f_route, .ref f_policy, .int f_transports, .ref f_transport, .int (nI (2 + k_6)), .ref rm, .int f_day, .int f_lots, .ref f_lot, .int f_orders, .ref f_order, .ref f_reserved, .int f_earned, .int f_spent, .int f_waste, .int f_lacking, .int f_holding]))]) [46] (by decide) rfl
      have hFc := va_free (wc := [(st, .inr (9, [.ref g1, .ref b0, .int (nI dd24), .int (nI (1 + k_3)), .ref pr, .ref lf, .ref pk, .ref f_route, .ref f_policy, .int f_transports, .ref f_transport, .int (nI (2 + k_6)), .ref rm, .int f_day, .int f_lots, .ref f_lot, .int f_orders, .ref f_order, .ref f_reserved, .int f_earned, .int f_spent, .int f_waste, .int f_lacking, .int f_holding]))]) hD hS hA [46] rfl
      refine va_calli (va_runV (As := [.int 20]) (rest := [.int 1, .int (nI j24), .ref pr]) ⟨hx, hb, hml, hown, hts⟩ (c_draw l D cI cZ cJ lo H.size b0 L0 xs st dd24 20 g1 (nI (1 + k_3)) pr lf pk f_route f_policy f_transports f_transport (nI (2 + k_6)) rm f_day f_lots f_lot f_orders f_order f_reserved f_earned f_spent f_waste f_lacking f_holding (by omega) (by omega) (by omega)) (cwV 1 hts gX9_make_X9_draw rfl rfl rfl (by decide +kernel) ⟨(Nat.le_of_ble_eq_true rfl), (Nat.le_of_ble_eq_true rfl)⟩) ⟨sg_PreS.blind, va_recv hK hP (ci := 9) (q0 := 46) rfl rfl, sg_PreS.mk hPc (hDc.weaken (fun _ _ _ h => hAlo _ h)) hC hS hAlo hX0⟩ rfl rfl hl.1 rfl (lv_room (Nat.le_of_ble_eq_true rfl)) dX9_make_41 ⟨(Nat.le_of_ble_eq_true rfl), (Nat.le_of_ble_eq_true rfl)⟩) hS (fun q _ h => hFc q h) hFc (fun r_26 u t H1 locs1 ht hvm e_27 hB hz1 hk1 hS1 => ?_)
      have hS := hS1
      obtain ⟨hP1, hD1⟩ := hB
      rw [ht] at hP1
      obtain ⟨hP, hD⟩ := va_join (wr := ([(g1, .inr (8, [.ref (a 0), .ref (b 0), .ref (pa 0)]))] ++ sg_St cI cZ a P24 sg_z ++ [(pr, .inl (cI, 3, .inl (fp24))), (lf, .inl (cI, 3, .inl (fl24))), (pk, .inl (cI, 3, .inl (fk24))), (rm, .inl (cI, 4, .inl (fun _ => 0)))])) (w1 := [(st, .inr (9, [.ref g1, .ref b0, .int (nI (dd24 + 1)), .int (nI (1 + k_3)), .ref pr, .ref lf, .ref pk, .ref f_route, .ref f_policy, .int f_transports, .ref f_transport, .int (nI (2 + k_6)), .ref rm, .int f_day, .int f_lots, .ref f_lot, .int f_orders, .ref f_order, .ref f_reserved, .int f_earned, .int f_spent, .int f_waste, .int f_lacking, .int f_holding]))]) hP hD [46] [0, 1, 2, 3, 4, 5, 6, 7, 8, 9, 10, 11, 12, 13, 14, 15, 16, 17, 18, 19, 20, 21, 22, 23, 24, 25, 26, 27, 28, 29, 30, 31, 32, 33, 34, 35, 36, 37, 38, 39, 40, 41, 42, 43, 44, 45] rfl rfl (by decide) (by decide) hk1 hFc hP1 hD1
      have e_27 : ∃ k9, k9 < 20 ∧ r_26 = nI k9 := e_27
      clear hFc hPc hDc ht hvm hz1 hk1 hS1 hP1 hD1
      generalize H1 = H at hP hS ⊢
      replace hP : va_P D vwCl ([(g1, .inr (8, [.ref (a 0), .ref (b 0), .ref (pa 0)]))] ++ sg_St cI cZ a P24 sg_z ++ [(pr, .inl (cI, 3, .inl (fp24))), (lf, .inl (cI, 3, .inl (fl24))), (pk, .inl (cI, 3, .inl (fk24))), (rm, .inl (cI, 4, .inl (fun _ => 0))), (st, .inr (9, [.ref g1, .ref b0, .int (nI (dd24 + 1)), .int (nI (1 + k_3)), .ref pr, .ref lf, .ref pk, .ref f_route, .ref f_policy, .int f_transports, .ref f_transport, .int (nI (2 + k_6)), .ref rm, .int f_day, .int f_lots, .ref f_lot, .int f_orders, .ref f_order, .ref f_reserved, .int f_earned, .int f_spent, .int f_waste, .int f_lacking, .int f_holding]))]) H := hP
      replace hD : va_D A ([(g1, .inr (8, [.ref (a 0), .ref (b 0), .ref (pa 0)]))] ++ sg_St cI cZ a P24 sg_z ++ [(pr, .inl (cI, 3, .inl (fp24))), (lf, .inl (cI, 3, .inl (fl24))), (pk, .inl (cI, 3, .inl (fk24))), (rm, .inl (cI, 4, .inl (fun _ => 0))), (st, .inr (9, [.ref g1, .ref b0, .int (nI (dd24 + 1)), .int (nI (1 + k_3)), .ref pr, .ref lf, .ref pk, .ref f_route, .ref f_policy, .int f_transports, .ref f_transport, .int (nI (2 + k_6)), .ref rm, .int f_day, .int f_lots, .ref f_lot, .int f_orders, .ref f_order, .ref f_reserved, .int f_earned, .int f_spent, .int f_waste, .int f_lacking, .int f_holding]))]) := hD
      obtain ⟨k_28, hk_28, ek_28⟩ := e_27
      subst ek_28
      refine lv_iadd hx hb dX9_make_44 ?_
      refine lv_toi (y := nI (1 + k_28)) (nI_add 1 k_28) ?_
      refine sg_iast hx hb hK hP hD hS 42 0 rfl rfl (j := j24) rfl (by omega) (Nat.le_of_ble_eq_true rfl) dX9_make_45 (fun H locs hP hD hS => ?_)
      replace hP : va_P D vwCl ([(g1, .inr (8, [.ref (a 0), .ref (b 0), .ref (pa 0)]))] ++ sg_St cI cZ a P24 sg_z ++ [(pr, .inl (cI, 3, .inl (upd (fp24) j24 (nI (1 + k_28))))), (lf, .inl (cI, 3, .inl (fl24))), (pk, .inl (cI, 3, .inl (fk24))), (rm, .inl (cI, 4, .inl (fun _ => 0))), (st, .inr (9, [.ref g1, .ref b0, .int (nI (dd24 + 1)), .int (nI (1 + k_3)), .ref pr, .ref lf, .ref pk, .ref f_route, .ref f_policy, .int f_transports, .ref f_transport, .int (nI (2 + k_6)), .ref rm, .int f_day, .int f_lots, .ref f_lot, .int f_orders, .ref f_order, .ref f_reserved, .int f_earned, .int f_spent, .int f_waste, .int f_lacking, .int f_holding]))]) H := hP
      replace hD : va_D A ([(g1, .inr (8, [.ref (a 0), .ref (b 0), .ref (pa 0)]))] ++ sg_St cI cZ a P24 sg_z ++ [(pr, .inl (cI, 3, .inl (upd (fp24) j24 (nI (1 + k_28))))), (lf, .inl (cI, 3, .inl (fl24))), (pk, .inl (cI, 3, .inl (fk24))), (rm, .inl (cI, 4, .inl (fun _ => 0))), (st, .inr (9, [.ref g1, .ref b0, .int (nI (dd24 + 1)), .int (nI (1 + k_3)), .ref pr, .ref lf, .ref pk, .ref f_route, .ref f_policy, .int f_transports, .ref f_transport, .int (nI (2 + k_6)), .ref rm, .int f_day, .int f_lots, .ref f_lot, .int f_orders, .ref f_order, .ref f_reserved, .int f_earned, .int f_spent, .int f_waste, .int f_lacking, .int f_holding]))]) := hD
      refine lv_aload_n hx hb dX9_make_46 rfl (lv_at hl 1 rfl) ?_
      refine va_get (D := D) (ci := 9) (v := .ref lf) (C := RX9) (T := TX9) (N := 24) hx hb hts in9 hown hK hP 46 rfl rfl 5 (by decide) (hts (.fieldLink RX9 20 "GranaryLaw$Store" "life" "[I") (by decide +kernel)) (fun _ h9 => h9) rfl dX9_make_47 ?_
      refine lv_iload_n hx hb dX9_make_50 rfl (lv_at hl 0 rfl) ?_
      refine lv_iconst (v := 3) hx hb dX9_make_51 (by decide) ?_
      refine lv_aload_n hx hb dX9_make_52 rfl (lv_at hl 1 rfl) ?_
      refine lv_bipush (v := 20) hx hb dX9_make_53 (by decide) ?_
      have hPc := hP.sub (ws' := [(st, .inr (9, [.ref g1, .ref b0, .int (nI (dd24 + 1)), .int (nI (1 + k_3)), .ref pr, .ref lf, .ref pk, .ref f_route, .ref f_policy, .int f_transports, .ref f_transport, .int (nI (2 + k_6)), .ref rm, .int f_day, .int f_lots, .ref f_lot, .int f_orders, .ref f_order, .ref f_reserved, .int f_earned, .int f_spent, .int f_waste, .int f_lacking, .int f_holding]))]) [46] rfl
      have hDc := hD.sub (ws' := [(st, .inr (9, [.ref g1, .ref b0, .int (nI (dd24 + 1)), .int (nI (1 + k_3)), .ref pr, .ref lf, .ref pk, .ref f_route, .ref f_policy, .int f_transports, .ref f_transport, .int (nI (2 + k_6)), .ref rm, .int f_day, .int f_lots, .ref f_lot, .int f_orders, .ref f_order, .ref f_reserved, .int f_earned, .int f_spent, .int f_waste, .int f_lacking, .int f_holding]))]) [46] (by decide) rfl
      have hFc := va_free (wc := [(st, .inr (9, [.ref g1, .ref b0, .int (nI (dd24 + 1)), .int (nI (1 + k_3)), .ref pr, .ref lf, .ref pk, .ref f_route, .ref f_policy, .int f_transports, .ref f_transport, .int (nI (2 + k_6)), .ref rm, .int f_day, .int f_lots, .ref f_lot, .int f_orders, .ref f_order, .ref f_reserved, .int f_earned, .int f_spent, .int f_waste, .int f_lacking, .int f_holding]))]) hD hS hA [46] rfl
      refine va_calli (va_runV (As := [.int 20]) (rest := [.int 3, .int (nI j24), .ref lf]) ⟨hx, hb, hml, hown, hts⟩ (c_draw l D cI cZ cJ lo H.size b0 L0 xs st (dd24 + 1) 20 g1 (nI (1 + k_3)) pr lf pk f_route f_policy f_transports f_transport (nI (2 + k_6)) rm f_day f_lots f_lot f_orders f_order f_reserved f_earned f_spent f_waste f_lacking f_holding (by omega) (by omega) (by omega)) (cwV 1 hts gX9_make_X9_draw rfl rfl rfl (by decide +kernel) ⟨(Nat.le_of_ble_eq_true rfl), (Nat.le_of_ble_eq_true rfl)⟩) ⟨sg_PreS.blind, va_recv hK hP (ci := 9) (q0 := 46) rfl rfl, sg_PreS.mk hPc (hDc.weaken (fun _ _ _ h => hAlo _ h)) hC hS hAlo hX0⟩ rfl rfl hl.1 rfl (lv_room (Nat.le_of_ble_eq_true rfl)) dX9_make_55 ⟨(Nat.le_of_ble_eq_true rfl), (Nat.le_of_ble_eq_true rfl)⟩) hS (fun q _ h => hFc q h) hFc (fun r_29 u t H1 locs1 ht hvm e_30 hB hz1 hk1 hS1 => ?_)
      have hS := hS1
      obtain ⟨hP1, hD1⟩ := hB
      rw [ht] at hP1
      obtain ⟨hP, hD⟩ := va_join (wr := ([(g1, .inr (8, [.ref (a 0), .ref (b 0), .ref (pa 0)]))] ++ sg_St cI cZ a P24 sg_z ++ [(pr, .inl (cI, 3, .inl (upd (fp24) j24 (nI (1 + k_28))))), (lf, .inl (cI, 3, .inl (fl24))), (pk, .inl (cI, 3, .inl (fk24))), (rm, .inl (cI, 4, .inl (fun _ => 0)))])) (w1 := [(st, .inr (9, [.ref g1, .ref b0, .int (nI ((dd24 + 1) + 1)), .int (nI (1 + k_3)), .ref pr, .ref lf, .ref pk, .ref f_route, .ref f_policy, .int f_transports, .ref f_transport, .int (nI (2 + k_6)), .ref rm, .int f_day, .int f_lots, .ref f_lot, .int f_orders, .ref f_order, .ref f_reserved, .int f_earned, .int f_spent, .int f_waste, .int f_lacking, .int f_holding]))]) hP hD [46] [0, 1, 2, 3, 4, 5, 6, 7, 8, 9, 10, 11, 12, 13, 14, 15, 16, 17, 18, 19, 20, 21, 22, 23, 24, 25, 26, 27, 28, 29, 30, 31, 32, 33, 34, 35, 36, 37, 38, 39, 40, 41, 42, 43, 44, 45] rfl rfl (by decide) (by decide) hk1 hFc hP1 hD1
      have e_30 : ∃ k9, k9 < 20 ∧ r_29 = nI k9 := e_30
      clear hFc hPc hDc ht hvm hz1 hk1 hS1 hP1 hD1
      generalize H1 = H at hP hS ⊢
      replace hP : va_P D vwCl ([(g1, .inr (8, [.ref (a 0), .ref (b 0), .ref (pa 0)]))] ++ sg_St cI cZ a P24 sg_z ++ [(pr, .inl (cI, 3, .inl (upd (fp24) j24 (nI (1 + k_28))))), (lf, .inl (cI, 3, .inl (fl24))), (pk, .inl (cI, 3, .inl (fk24))), (rm, .inl (cI, 4, .inl (fun _ => 0))), (st, .inr (9, [.ref g1, .ref b0, .int (nI ((dd24 + 1) + 1)), .int (nI (1 + k_3)), .ref pr, .ref lf, .ref pk, .ref f_route, .ref f_policy, .int f_transports, .ref f_transport, .int (nI (2 + k_6)), .ref rm, .int f_day, .int f_lots, .ref f_lot, .int f_orders, .ref f_order, .ref f_reserved, .int f_earned, .int f_spent, .int f_waste, .int f_lacking, .int f_holding]))]) H := hP
      replace hD : va_D A ([(g1, .inr (8, [.ref (a 0), .ref (b 0), .ref (pa 0)]))] ++ sg_St cI cZ a P24 sg_z ++ [(pr, .inl (cI, 3, .inl (upd (fp24) j24 (nI (1 + k_28))))), (lf, .inl (cI, 3, .inl (fl24))), (pk, .inl (cI, 3, .inl (fk24))), (rm, .inl (cI, 4, .inl (fun _ => 0))), (st, .inr (9, [.ref g1, .ref b0, .int (nI ((dd24 + 1) + 1)), .int (nI (1 + k_3)), .ref pr, .ref lf, .ref pk, .ref f_route, .ref f_policy, .int f_transports, .ref f_transport, .int (nI (2 + k_6)), .ref rm, .int f_day, .int f_lots, .ref f_lot, .int f_orders, .ref f_order, .ref f_reserved, .int f_earned, .int f_spent, .int f_waste, .int f_lacking, .int f_holding]))]) := hD
      obtain ⟨k_31, hk_31, ek_31⟩ := e_30
      subst ek_31
      refine lv_iadd hx hb dX9_make_58 ?_
      refine lv_toi (y := nI (3 + k_31)) (nI_add 3 k_31) ?_
      refine sg_iast hx hb hK hP hD hS 43 0 rfl rfl (j := j24) rfl (by omega) (Nat.le_of_ble_eq_true rfl) dX9_make_59 (fun H locs hP hD hS => ?_)
      replace hP : va_P D vwCl ([(g1, .inr (8, [.ref (a 0), .ref (b 0), .ref (pa 0)]))] ++ sg_St cI cZ a P24 sg_z ++ [(pr, .inl (cI, 3, .inl (upd (fp24) j24 (nI (1 + k_28))))), (lf, .inl (cI, 3, .inl (upd (fl24) j24 (nI (3 + k_31))))), (pk, .inl (cI, 3, .inl (fk24))), (rm, .inl (cI, 4, .inl (fun _ => 0))), (st, .inr (9, [.ref g1, .ref b0, .int (nI ((dd24 + 1) + 1)), .int (nI (1 + k_3)), .ref pr, .ref lf, .ref pk, .ref f_route, .ref f_policy, .int f_transports, .ref f_transport, .int (nI (2 + k_6)), .ref rm, .int f_day, .int f_lots, .ref f_lot, .int f_orders, .ref f_order, .ref f_reserved, .int f_earned, .int f_spent, .int f_waste, .int f_lacking, .int f_holding]))]) H := hP
      replace hD : va_D A ([(g1, .inr (8, [.ref (a 0), .ref (b 0), .ref (pa 0)]))] ++ sg_St cI cZ a P24 sg_z ++ [(pr, .inl (cI, 3, .inl (upd (fp24) j24 (nI (1 + k_28))))), (lf, .inl (cI, 3, .inl (upd (fl24) j24 (nI (3 + k_31))))), (pk, .inl (cI, 3, .inl (fk24))), (rm, .inl (cI, 4, .inl (fun _ => 0))), (st, .inr (9, [.ref g1, .ref b0, .int (nI ((dd24 + 1) + 1)), .int (nI (1 + k_3)), .ref pr, .ref lf, .ref pk, .ref f_route, .ref f_policy, .int f_transports, .ref f_transport, .int (nI (2 + k_6)), .ref rm, .int f_day, .int f_lots, .ref f_lot, .int f_orders, .ref f_order, .ref f_reserved, .int f_earned, .int f_spent, .int f_waste, .int f_lacking, .int f_holding]))]) := hD
      refine lv_aload_n hx hb dX9_make_60 rfl (lv_at hl 1 rfl) ?_
      refine va_get (D := D) (ci := 9) (v := .ref pk) (C := RX9) (T := TX9) (N := 24) hx hb hts in9 hown hK hP 46 rfl rfl 6 (by decide) (hts (.fieldLink RX9 23 "GranaryLaw$Store" "pack" "[I") (by decide +kernel)) (fun _ h9 => h9) rfl dX9_make_61 ?_
      refine lv_iload_n hx hb dX9_make_64 rfl (lv_at hl 0 rfl) ?_
      refine lv_iconst (v := 1) hx hb dX9_make_65 (by decide) ?_
      refine lv_aload_n hx hb dX9_make_66 rfl (lv_at hl 1 rfl) ?_
      refine lv_iconst (v := 5) hx hb dX9_make_67 (by decide) ?_
      have hPc := hP.sub (ws' := [(st, .inr (9, [.ref g1, .ref b0, .int (nI ((dd24 + 1) + 1)), .int (nI (1 + k_3)), .ref pr, .ref lf, .ref pk, .ref f_route, .ref f_policy, .int f_transports, .ref f_transport, .int (nI (2 + k_6)), .ref rm, .int f_day, .int f_lots, .ref f_lot, .int f_orders, .ref f_order, .ref f_reserved, .int f_earned, .int f_spent, .int f_waste, .int f_lacking, .int f_holding]))]) [46] rfl
      have hDc := hD.sub (ws' := [(st, .inr (9, [.ref g1, .ref b0, .int (nI ((dd24 + 1) + 1)), .int (nI (1 + k_3)), .ref pr, .ref lf, .ref pk, .ref f_route, .ref f_policy, .int f_transports, .ref f_transport, .int (nI (2 + k_6)), .ref rm, .int f_day, .int f_lots, .ref f_lot, .int f_orders, .ref f_order, .ref f_reserved, .int f_earned, .int f_spent, .int f_waste, .int f_lacking, .int f_holding]))]) [46] (by decide) rfl
      have hFc := va_free (wc := [(st, .inr (9, [.ref g1, .ref b0, .int (nI ((dd24 + 1) + 1)), .int (nI (1 + k_3)), .ref pr, .ref lf, .ref pk, .ref f_route, .ref f_policy, .int f_transports, .ref f_transport, .int (nI (2 + k_6)), .ref rm, .int f_day, .int f_lots, .ref f_lot, .int f_orders, .ref f_order, .ref f_reserved, .int f_earned, .int f_spent, .int f_waste, .int f_lacking, .int f_holding]))]) hD hS hA [46] rfl
      refine va_calli (va_runV (As := [.int 5]) (rest := [.int 1, .int (nI j24), .ref pk]) ⟨hx, hb, hml, hown, hts⟩ (c_draw l D cI cZ cJ lo H.size b0 L0 xs st ((dd24 + 1) + 1) 5 g1 (nI (1 + k_3)) pr lf pk f_route f_policy f_transports f_transport (nI (2 + k_6)) rm f_day f_lots f_lot f_orders f_order f_reserved f_earned f_spent f_waste f_lacking f_holding (by omega) (by omega) (by omega)) (cwV 1 hts gX9_make_X9_draw rfl rfl rfl (by decide +kernel) ⟨(Nat.le_of_ble_eq_true rfl), (Nat.le_of_ble_eq_true rfl)⟩) ⟨sg_PreS.blind, va_recv hK hP (ci := 9) (q0 := 46) rfl rfl, sg_PreS.mk hPc (hDc.weaken (fun _ _ _ h => hAlo _ h)) hC hS hAlo hX0⟩ rfl rfl hl.1 rfl (lv_room (Nat.le_of_ble_eq_true rfl)) dX9_make_68 ⟨(Nat.le_of_ble_eq_true rfl), (Nat.le_of_ble_eq_true rfl)⟩) hS (fun q _ h => hFc q h) hFc (fun r_32 u t H1 locs1 ht hvm e_33 hB hz1 hk1 hS1 => ?_)
      have hS := hS1
      obtain ⟨hP1, hD1⟩ := hB
      rw [ht] at hP1
      obtain ⟨hP, hD⟩ := va_join (wr := ([(g1, .inr (8, [.ref (a 0), .ref (b 0), .ref (pa 0)]))] ++ sg_St cI cZ a P24 sg_z ++ [(pr, .inl (cI, 3, .inl (upd (fp24) j24 (nI (1 + k_28))))), (lf, .inl (cI, 3, .inl (upd (fl24) j24 (nI (3 + k_31))))), (pk, .inl (cI, 3, .inl (fk24))), (rm, .inl (cI, 4, .inl (fun _ => 0)))])) (w1 := [(st, .inr (9, [.ref g1, .ref b0, .int (nI (((dd24 + 1) + 1) + 1)), .int (nI (1 + k_3)), .ref pr, .ref lf, .ref pk, .ref f_route, .ref f_policy, .int f_transports, .ref f_transport, .int (nI (2 + k_6)), .ref rm, .int f_day, .int f_lots, .ref f_lot, .int f_orders, .ref f_order, .ref f_reserved, .int f_earned, .int f_spent, .int f_waste, .int f_lacking, .int f_holding]))]) hP hD [46] [0, 1, 2, 3, 4, 5, 6, 7, 8, 9, 10, 11, 12, 13, 14, 15, 16, 17, 18, 19, 20, 21, 22, 23, 24, 25, 26, 27, 28, 29, 30, 31, 32, 33, 34, 35, 36, 37, 38, 39, 40, 41, 42, 43, 44, 45] rfl rfl (by decide) (by decide) hk1 hFc hP1 hD1
      have e_33 : ∃ k9, k9 < 5 ∧ r_32 = nI k9 := e_33
      clear hFc hPc hDc ht hvm hz1 hk1 hS1 hP1 hD1
      generalize H1 = H at hP hS ⊢
      replace hP : va_P D vwCl ([(g1, .inr (8, [.ref (a 0), .ref (b 0), .ref (pa 0)]))] ++ sg_St cI cZ a P24 sg_z ++ [(pr, .inl (cI, 3, .inl (upd (fp24) j24 (nI (1 + k_28))))), (lf, .inl (cI, 3, .inl (upd (fl24) j24 (nI (3 + k_31))))), (pk, .inl (cI, 3, .inl (fk24))), (rm, .inl (cI, 4, .inl (fun _ => 0))), (st, .inr (9, [.ref g1, .ref b0, .int (nI (((dd24 + 1) + 1) + 1)), .int (nI (1 + k_3)), .ref pr, .ref lf, .ref pk, .ref f_route, .ref f_policy, .int f_transports, .ref f_transport, .int (nI (2 + k_6)), .ref rm, .int f_day, .int f_lots, .ref f_lot, .int f_orders, .ref f_order, .ref f_reserved, .int f_earned, .int f_spent, .int f_waste, .int f_lacking, .int f_holding]))]) H := hP
      replace hD : va_D A ([(g1, .inr (8, [.ref (a 0), .ref (b 0), .ref (pa 0)]))] ++ sg_St cI cZ a P24 sg_z ++ [(pr, .inl (cI, 3, .inl (upd (fp24) j24 (nI (1 + k_28))))), (lf, .inl (cI, 3, .inl (upd (fl24) j24 (nI (3 + k_31))))), (pk, .inl (cI, 3, .inl (fk24))), (rm, .inl (cI, 4, .inl (fun _ => 0))), (st, .inr (9, [.ref g1, .ref b0, .int (nI (((dd24 + 1) + 1) + 1)), .int (nI (1 + k_3)), .ref pr, .ref lf, .ref pk, .ref f_route, .ref f_policy, .int f_transports, .ref f_transport, .int (nI (2 + k_6)), .ref rm, .int f_day, .int f_lots, .ref f_lot, .int f_orders, .ref f_order, .ref f_reserved, .int f_earned, .int f_spent, .int f_waste, .int f_lacking, .int f_holding]))]) := hD
      obtain ⟨k_34, hk_34, ek_34⟩ := e_33
      subst ek_34
      refine lv_iadd hx hb dX9_make_71 ?_
      refine lv_toi (y := nI (1 + k_34)) (nI_add 1 k_34) ?_
      refine sg_iast hx hb hK hP hD hS 44 0 rfl rfl (j := j24) rfl (by omega) (Nat.le_of_ble_eq_true rfl) dX9_make_72 (fun H locs hP hD hS => ?_)
      replace hP : va_P D vwCl ([(g1, .inr (8, [.ref (a 0), .ref (b 0), .ref (pa 0)]))] ++ sg_St cI cZ a P24 sg_z ++ [(pr, .inl (cI, 3, .inl (upd (fp24) j24 (nI (1 + k_28))))), (lf, .inl (cI, 3, .inl (upd (fl24) j24 (nI (3 + k_31))))), (pk, .inl (cI, 3, .inl (upd (fk24) j24 (nI (1 + k_34))))), (rm, .inl (cI, 4, .inl (fun _ => 0))), (st, .inr (9, [.ref g1, .ref b0, .int (nI (((dd24 + 1) + 1) + 1)), .int (nI (1 + k_3)), .ref pr, .ref lf, .ref pk, .ref f_route, .ref f_policy, .int f_transports, .ref f_transport, .int (nI (2 + k_6)), .ref rm, .int f_day, .int f_lots, .ref f_lot, .int f_orders, .ref f_order, .ref f_reserved, .int f_earned, .int f_spent, .int f_waste, .int f_lacking, .int f_holding]))]) H := hP
      replace hD : va_D A ([(g1, .inr (8, [.ref (a 0), .ref (b 0), .ref (pa 0)]))] ++ sg_St cI cZ a P24 sg_z ++ [(pr, .inl (cI, 3, .inl (upd (fp24) j24 (nI (1 + k_28))))), (lf, .inl (cI, 3, .inl (upd (fl24) j24 (nI (3 + k_31))))), (pk, .inl (cI, 3, .inl (upd (fk24) j24 (nI (1 + k_34))))), (rm, .inl (cI, 4, .inl (fun _ => 0))), (st, .inr (9, [.ref g1, .ref b0, .int (nI (((dd24 + 1) + 1) + 1)), .int (nI (1 + k_3)), .ref pr, .ref lf, .ref pk, .ref f_route, .ref f_policy, .int f_transports, .ref f_transport, .int (nI (2 + k_6)), .ref rm, .int f_day, .int f_lots, .ref f_lot, .int f_orders, .ref f_order, .ref f_reserved, .int f_earned, .int f_spent, .int f_waste, .int f_lacking, .int f_holding]))]) := hD
      refine lv_aload_n hx hb dX9_make_73 rfl (lv_at hl 1 rfl) ?_
      refine va_get (D := D) (ci := 9) (v := .ref g1) (C := RX9) (T := TX9) (N := 24) hx hb hts in9 hown hK hP 46 rfl rfl 0 (by decide) (hts (.fieldLink RX9 10 "GranaryLaw$Store" "m" "LGranary;") (by decide +kernel)) (fun _ h9 => h9) rfl dX9_make_74 ?_
      refine lv_aload_n hx hb dX9_make_77 rfl (lv_at hl 1 rfl) ?_
      refine va_get (D := D) (ci := 9) (v := .ref lf) (C := RX9) (T := TX9) (N := 24) hx hb hts in9 hown hK hP 46 rfl rfl 5 (by decide) (hts (.fieldLink RX9 20 "GranaryLaw$Store" "life" "[I") (by decide +kernel)) (fun _ h9 => h9) rfl dX9_make_78 ?_
      refine lv_iload_n hx hb dX9_make_81 rfl (lv_at hl 0 rfl) ?_
      refine sg_iald hx hb hK hP 43 0 rfl rfl (j := j24) rfl (by omega) (Nat.le_of_ble_eq_true rfl) dX9_make_82 ?_
      refine lv_toi (y := nI (3 + k_31)) pk_us ?_
      refine lv_aload_n hx hb dX9_make_83 rfl (lv_at hl 1 rfl) ?_
      refine va_get (D := D) (ci := 9) (v := .ref pr) (C := RX9) (T := TX9) (N := 24) hx hb hts in9 hown hK hP 46 rfl rfl 4 (by decide) (hts (.fieldLink RX9 16 "GranaryLaw$Store" "price" "[I") (by decide +kernel)) (fun _ h9 => h9) rfl dX9_make_84 ?_
      refine lv_iload_n hx hb dX9_make_87 rfl (lv_at hl 0 rfl) ?_
      refine sg_iald hx hb hK hP 42 0 rfl rfl (j := j24) rfl (by omega) (Nat.le_of_ble_eq_true rfl) dX9_make_88 ?_
      refine lv_toi (y := nI (1 + k_28)) pk_us ?_
      refine lv_aload_n hx hb dX9_make_89 rfl (lv_at hl 1 rfl) ?_
      refine va_get (D := D) (ci := 9) (v := .ref pk) (C := RX9) (T := TX9) (N := 24) hx hb hts in9 hown hK hP 46 rfl rfl 6 (by decide) (hts (.fieldLink RX9 23 "GranaryLaw$Store" "pack" "[I") (by decide +kernel)) (fun _ h9 => h9) rfl dX9_make_90 ?_
      refine lv_iload_n hx hb dX9_make_93 rfl (lv_at hl 0 rfl) ?_
      refine sg_iald hx hb hK hP 44 0 rfl rfl (j := j24) rfl (by omega) (Nat.le_of_ble_eq_true rfl) dX9_make_94 ?_
      refine lv_toi (y := nI (1 + k_34)) pk_us ?_
      have hPc := hP.sub (ws' := ([(g1, .inr (8, [.ref (a 0), .ref (b 0), .ref (pa 0)]))] ++ sg_St cI cZ a P24 sg_z)) [0, 1, 2, 3, 4, 5, 6, 7, 8, 9, 10, 11, 12, 13, 14, 15, 16, 17, 18, 19, 20, 21, 22, 23, 24, 25, 26, 27, 28, 29, 30, 31, 32, 33, 34, 35, 36, 37, 38, 39, 40, 41] rfl
      have hDc := hD.sub (ws' := ([(g1, .inr (8, [.ref (a 0), .ref (b 0), .ref (pa 0)]))] ++ sg_St cI cZ a P24 sg_z)) [0, 1, 2, 3, 4, 5, 6, 7, 8, 9, 10, 11, 12, 13, 14, 15, 16, 17, 18, 19, 20, 21, 22, 23, 24, 25, 26, 27, 28, 29, 30, 31, 32, 33, 34, 35, 36, 37, 38, 39, 40, 41] (by decide) rfl
      have hFc := va_free (wc := ([(g1, .inr (8, [.ref (a 0), .ref (b 0), .ref (pa 0)]))] ++ sg_St cI cZ a P24 sg_z)) hD hS hA [0, 1, 2, 3, 4, 5, 6, 7, 8, 9, 10, 11, 12, 13, 14, 15, 16, 17, 18, 19, 20, 21, 22, 23, 24, 25, 26, 27, 28, 29, 30, 31, 32, 33, 34, 35, 36, 37, 38, 39, 40, 41] rfl
      refine va_calli (va_runV (As := [.int (nI (3 + k_31)), .int (nI (1 + k_28)), .int (nI (1 + k_34))]) (rest := []) ⟨hx, hb, hml, hown, hts⟩ (c_g_addItem l D cI cZ cJ lo H.size g1 pa b a P24 sg_z (nI (3 + k_31)) (nI (1 + k_28)) (nI (1 + k_34)) hF24.1 (show nI 1 ≤ nI (3 + k_31) from nI_le (by omega) (by omega)) (show nI (3 + k_31) ≤ nI 99 from nI_le (by omega) (by omega)) (show nI 1 ≤ nI (1 + k_28) from nI_le (by omega) (by omega)) (show nI (1 + k_28) ≤ nI 99 from nI_le (by omega) (by omega)) (show nI 1 ≤ nI (1 + k_34) from nI_le (by omega) (by omega)) (show nI (1 + k_34) ≤ nI 20 from nI_le (by omega) (by omega)) (by omega)) (cwV 3 hts gX9_make_X8_addItem rfl rfl rfl (by decide +kernel) ⟨(Nat.le_of_ble_eq_true rfl), (Nat.le_of_ble_eq_true rfl)⟩) ⟨Pre.blind, va_recv hK hP (ci := 8) (q0 := 0) rfl rfl, Pre.mk hPc (hDc.weaken (fun _ _ _ h => hAlo _ h)) hC hS hAlo⟩ rfl rfl hl.1 rfl (lv_room (Nat.le_of_ble_eq_true rfl)) dX9_make_95 ⟨(Nat.le_of_ble_eq_true rfl), (Nat.le_of_ble_eq_true rfl)⟩) hS (fun q _ h => hFc q h) hFc (fun r_35 u t H1 locs1 ht hvm e_36 hB hz1 hk1 hS1 => ?_)
      have hS := hS1
      obtain ⟨hP1, hD1⟩ := hB
      rw [ht] at hP1
      obtain ⟨hP, hD⟩ := va_join (wr := [(pr, .inl (cI, 3, .inl (upd (fp24) j24 (nI (1 + k_28))))), (lf, .inl (cI, 3, .inl (upd (fl24) j24 (nI (3 + k_31))))), (pk, .inl (cI, 3, .inl (upd (fk24) j24 (nI (1 + k_34))))), (rm, .inl (cI, 4, .inl (fun _ => 0))), (st, .inr (9, [.ref g1, .ref b0, .int (nI (((dd24 + 1) + 1) + 1)), .int (nI (1 + k_3)), .ref pr, .ref lf, .ref pk, .ref f_route, .ref f_policy, .int f_transports, .ref f_transport, .int (nI (2 + k_6)), .ref rm, .int f_day, .int f_lots, .ref f_lot, .int f_orders, .ref f_order, .ref f_reserved, .int f_earned, .int f_spent, .int f_waste, .int f_lacking, .int f_holding]))]) (w1 := ([(g1, .inr (8, [.ref (a 0), .ref (b 0), .ref (pa 0)]))] ++ sg_St cI cZ a (sg_g_addItem P24 (nI (3 + k_31)) (nI (1 + k_28)) (nI (1 + k_34))) sg_z)) hP hD [0, 1, 2, 3, 4, 5, 6, 7, 8, 9, 10, 11, 12, 13, 14, 15, 16, 17, 18, 19, 20, 21, 22, 23, 24, 25, 26, 27, 28, 29, 30, 31, 32, 33, 34, 35, 36, 37, 38, 39, 40, 41] [42, 43, 44, 45, 46] rfl rfl (by decide) (by decide) hk1 hFc hP1 hD1
      have e_36 : sg_g_addItem_r P24 (nI (3 + k_31)) (nI (1 + k_28)) (nI (1 + k_34)) = r_35 := Eq.symm e_36
      subst e_36
      clear hFc hPc hDc ht hvm hz1 hk1 hS1 hP1 hD1
      generalize H1 = H at hP hS ⊢
      replace hP : va_P D vwCl ([(pr, .inl (cI, 3, .inl (upd (fp24) j24 (nI (1 + k_28))))), (lf, .inl (cI, 3, .inl (upd (fl24) j24 (nI (3 + k_31))))), (pk, .inl (cI, 3, .inl (upd (fk24) j24 (nI (1 + k_34))))), (rm, .inl (cI, 4, .inl (fun _ => 0))), (st, .inr (9, [.ref g1, .ref b0, .int (nI (((dd24 + 1) + 1) + 1)), .int (nI (1 + k_3)), .ref pr, .ref lf, .ref pk, .ref f_route, .ref f_policy, .int f_transports, .ref f_transport, .int (nI (2 + k_6)), .ref rm, .int f_day, .int f_lots, .ref f_lot, .int f_orders, .ref f_order, .ref f_reserved, .int f_earned, .int f_spent, .int f_waste, .int f_lacking, .int f_holding])), (g1, .inr (8, [.ref (a 0), .ref (b 0), .ref (pa 0)]))] ++ sg_St cI cZ a (sg_g_addItem P24 (nI (3 + k_31)) (nI (1 + k_28)) (nI (1 + k_34))) sg_z) H := hP
      replace hD : va_D A ([(pr, .inl (cI, 3, .inl (upd (fp24) j24 (nI (1 + k_28))))), (lf, .inl (cI, 3, .inl (upd (fl24) j24 (nI (3 + k_31))))), (pk, .inl (cI, 3, .inl (upd (fk24) j24 (nI (1 + k_34))))), (rm, .inl (cI, 4, .inl (fun _ => 0))), (st, .inr (9, [.ref g1, .ref b0, .int (nI (((dd24 + 1) + 1) + 1)), .int (nI (1 + k_3)), .ref pr, .ref lf, .ref pk, .ref f_route, .ref f_policy, .int f_transports, .ref f_transport, .int (nI (2 + k_6)), .ref rm, .int f_day, .int f_lots, .ref f_lot, .int f_orders, .ref f_order, .ref f_reserved, .int f_earned, .int f_spent, .int f_waste, .int f_lacking, .int f_holding])), (g1, .inr (8, [.ref (a 0), .ref (b 0), .ref (pa 0)]))] ++ sg_St cI cZ a (sg_g_addItem P24 (nI (3 + k_31)) (nI (1 + k_28)) (nI (1 + k_34))) sg_z) := hD
      refine lv_toi (y := nI j24) ((sg_iadd_n hF24.1 (by omega)).trans (congrArg nI hc24)) ?_
      refine lv_iload_n hx hb dX9_make_98 rfl (lv_at hl 0 rfl) ?_
      refine lv_icmp_eq (tgt := 104) hx hb dX9_make_99 (by decide) (fun _ => ?_) (fun c9 => absurd (show (nI j24) = (nI j24) from rfl) c9)
      refine lv_iinc (v := nI (j24 + 1)) (lv' := [(1, .int (nI (j24 + 1))), (0, .ref st)]) hx hb dX9_make_104 hl (k := 0) rfl (nI_1 j24) (by decide) rfl (fun ls hl => ?_)
      refine lv_goto (tgt := 24) hx hb dX9_make_107 (by decide) ?_
      exact ih24 (j24 + 1) (((dd24 + 1) + 1) + 1) (sg_g_addItem P24 (nI (3 + k_31)) (nI (1 + k_28)) (nI (1 + k_34))) (upd (fp24) j24 (nI (1 + k_28))) (upd (fl24) j24 (nI (3 + k_31))) (upd (fk24) j24 (nI (1 + k_34))) _ _ _ (hF24.item (by omega) (sg_nb (k := 3 + k_31) (M := 99) (by omega) (by decide)) (sg_nb (k := 1 + k_28) (M := 20) (by omega) (by decide)) (sg_nb (k := 1 + k_34) (M := 20) (by omega) (by decide))).1 (by omega) (by have e9 := (hF24.item (x := nI (3 + k_31)) (y := nI (1 + k_28)) (z := nI (1 + k_34)) (by omega) (sg_nb (M := 99) (by omega) (by decide)) (sg_nb (M := 20) (by omega) (by decide)) (sg_nb (M := 20) (by omega) (by decide))).2; show ∀ i9, i9 < j24 + 1 → upd fp24 j24 (nI (1 + k_28)) i9 = sg_iadd P24 (nI (3 + k_31)) (nI (1 + k_28)) (nI (1 + k_34)) 11 i9; rw [e9]; exact sg_fp_up hf24) (by omega) (by omega) (lv_sub hl [0, 1] rfl) hS (hD.sub (ws' := ([(g1, .inr (8, [.ref (a 0), .ref (b 0), .ref (pa 0)]))] ++ sg_St cI cZ a (sg_g_addItem P24 (nI (3 + k_31)) (nI (1 + k_28)) (nI (1 + k_34))) sg_z ++ [(pr, .inl (cI, 3, .inl (upd (fp24) j24 (nI (1 + k_28))))), (lf, .inl (cI, 3, .inl (upd (fl24) j24 (nI (3 + k_31))))), (pk, .inl (cI, 3, .inl (upd (fk24) j24 (nI (1 + k_34))))), (rm, .inl (cI, 4, .inl (fun _ => 0))), (st, .inr (9, [.ref g1, .ref b0, .int (nI (((dd24 + 1) + 1) + 1)), .int (nI (1 + k_3)), .ref pr, .ref lf, .ref pk, .ref f_route, .ref f_policy, .int f_transports, .ref f_transport, .int (nI (2 + k_6)), .ref rm, .int f_day, .int f_lots, .ref f_lot, .int f_orders, .ref f_order, .ref f_reserved, .int f_earned, .int f_spent, .int f_waste, .int f_lacking, .int f_holding]))])) [5, 6, 7, 8, 9, 10, 11, 12, 13, 14, 15, 16, 17, 18, 19, 20, 21, 22, 23, 24, 25, 26, 27, 28, 29, 30, 31, 32, 33, 34, 35, 36, 37, 38, 39, 40, 41, 42, 43, 44, 45, 46, 0, 1, 2, 3, 4] (by decide) rfl) (hP.sub (ws' := ([(g1, .inr (8, [.ref (a 0), .ref (b 0), .ref (pa 0)]))] ++ sg_St cI cZ a (sg_g_addItem P24 (nI (3 + k_31)) (nI (1 + k_28)) (nI (1 + k_34))) sg_z ++ [(pr, .inl (cI, 3, .inl (upd (fp24) j24 (nI (1 + k_28))))), (lf, .inl (cI, 3, .inl (upd (fl24) j24 (nI (3 + k_31))))), (pk, .inl (cI, 3, .inl (upd (fk24) j24 (nI (1 + k_34))))), (rm, .inl (cI, 4, .inl (fun _ => 0))), (st, .inr (9, [.ref g1, .ref b0, .int (nI (((dd24 + 1) + 1) + 1)), .int (nI (1 + k_3)), .ref pr, .ref lf, .ref pk, .ref f_route, .ref f_policy, .int f_transports, .ref f_transport, .int (nI (2 + k_6)), .ref rm, .int f_day, .int f_lots, .ref f_lot, .int f_orders, .ref f_order, .ref f_reserved, .int f_earned, .int f_spent, .int f_waste, .int f_lacking, .int f_holding]))])) [5, 6, 7, 8, 9, 10, 11, 12, 13, 14, 15, 16, 17, 18, 19, 20, 21, 22, 23, 24, 25, 26, 27, 28, 29, 30, 31, 32, 33, 34, 35, 36, 37, 38, 39, 40, 41, 42, 43, 44, 45, 46, 0, 1, 2, 3, 4] rfl)

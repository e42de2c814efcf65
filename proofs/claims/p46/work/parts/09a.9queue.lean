/-- all that stands in a queue below k, but at one place, is a number of an order -/
def sg_Qx (q : Nat → Int32) (k z : Nat) : Prop := ∀ p, p < k → p ≠ z → q p = nI (Int32.toNatClampNeg (q p)) ∧ Int32.toNatClampNeg (q p) < 60
theorem sg_Qx.step {q : Nat → Int32} {k m : Nat} (h : sg_Qx q k (m + 1)) (hm : m < k) : sg_Qx (upd q (m + 1) (q m)) k m := fun p hp hne => by
  by_cases e : p = m + 1
  · subst e
    rw [pk_us]
    exact h m hm (by omega)
  · rw [pk_un e]
    exact h p hp e

theorem sg_Qx.init {q : Nat → Int32} {k : Nat} (h : sg_Qx q k k) : sg_Qx q (k + 1) k := fun p hp hne => h p (by omega) (by omega)
theorem sg_Qx.put {q : Nat → Int32} {k z j : Nat} (h : sg_Qx q (k + 1) z) (hj : j < 60) : sg_Qx (upd q z (nI j)) (k + 1) (k + 1) := fun p hp _ => by
  by_cases e : p = z
  · subst e
    rw [pk_us, nI_clamp (by omega)]
    exact ⟨rfl, hj⟩
  · rw [pk_un e]
    exact h p hp e

def sg_queue_29 (P : sg_Pic) (q : Nat → Int32) (j4 : Nat) (m4_1 : Nat) (q4 : Nat → Int32) : Nat → (Nat → Int32) → Nat × (Nat → Int32)
  | 0, q29 => (0, q29)
  | m29 + 1, q29 => (if (sg_comesAhead P j4 (Int32.toNatClampNeg (q29 m29))) = 0 then (m29 + 1, q29) else (sg_queue_29 P q j4 m4_1 q4 m29 (upd q29 (m29 + 1) (q29 m29))))

def sg_queue_4 (P : sg_Pic) (q : Nat → Int32) : Nat → Nat × (Nat → Int32)
  | 0 => (0, q)
  | j4 + 1 => (if (P 57 j4) = 0 then (((sg_queue_4 P q j4).1) + 1, upd (((sg_queue_29 P q j4 ((sg_queue_4 P q j4).1) ((sg_queue_4 P q j4).2) ((sg_queue_4 P q j4).1) ((sg_queue_4 P q j4).2))).2) (((sg_queue_29 P q j4 ((sg_queue_4 P q j4).1) ((sg_queue_4 P q j4).2) ((sg_queue_4 P q j4).1) ((sg_queue_4 P q j4).2))).1) (nI j4)) else (((sg_queue_4 P q j4).1), ((sg_queue_4 P q j4).2)))

theorem sg_q29 (P : sg_Pic) (q0 : Nat → Int32) (j4 k : Nat) (q4 : Nat → Int32) : ∀ (m : Nat) (q : Nat → Int32), m ≤ k → sg_Qx q (k + 1) m → (sg_queue_29 P q0 j4 k q4 m q).1 ≤ m ∧ sg_Qx (sg_queue_29 P q0 j4 k q4 m q).2 (k + 1) (sg_queue_29 P q0 j4 k q4 m q).1
  | 0, q, _, h => ⟨Nat.le_refl _, h⟩
  | m + 1, q, hm, h => by
    rw [sg_queue_29]
    split
    · exact ⟨Nat.le_refl _, h⟩
    · have g := sg_q29 P q0 j4 k q4 m _ (by omega) (h.step (by omega))
      exact ⟨by omega, g.2⟩
theorem sg_q4 (P : sg_Pic) (q : Nat → Int32) : ∀ j, j ≤ 60 → (sg_queue_4 P q j).1 ≤ j ∧ sg_Qx (sg_queue_4 P q j).2 (sg_queue_4 P q j).1 (sg_queue_4 P q j).1
  | 0, _ => ⟨Nat.le_refl _, fun p hp _ => absurd hp (Nat.not_lt_zero _)⟩
  | j + 1, hj => by
    have h := sg_q4 P q j (by omega)
    rw [sg_queue_4]
    split
    · have g := sg_q29 P q j (sg_queue_4 P q j).1 (sg_queue_4 P q j).2 (sg_queue_4 P q j).1 (sg_queue_4 P q j).2 (Nat.le_refl _) h.2.init
      exact ⟨by have := h.1; show (sg_queue_4 P q j).1 + 1 ≤ j + 1; omega, g.2.put (by omega)⟩
    · exact ⟨by have := h.1; show (sg_queue_4 P q j).1 ≤ j + 1; omega, h.2⟩
theorem sg_q29i (P : sg_Pic) (r0 s0 : Nat → Int32) (j4 k : Nat) (r4 s4 : Nat → Int32) : ∀ (m : Nat) (r s : Nat → Int32), m ≤ k → (∀ p, p < k + 1 → p ≠ m → r p = s p) → (sg_queue_29 P r0 j4 k r4 m r).1 = (sg_queue_29 P s0 j4 k s4 m s).1 ∧ (∀ p, p < k + 1 → p ≠ (sg_queue_29 P r0 j4 k r4 m r).1 → (sg_queue_29 P r0 j4 k r4 m r).2 p = (sg_queue_29 P s0 j4 k s4 m s).2 p)
  | 0, r, s, _, h => ⟨rfl, h⟩
  | m + 1, r, s, hm, h => by
    have e : r m = s m := h m (by omega) (by omega)
    rw [sg_queue_29, sg_queue_29, e]
    split
    · exact ⟨rfl, h⟩
    · refine sg_q29i P r0 s0 j4 k r4 s4 m _ _ (by omega) (fun p hp hne => ?_)
      by_cases c : p = m + 1
      · subst c
        rw [pk_us, pk_us]
      · rw [pk_un c, pk_un c]
        exact h p hp c
theorem sg_q4i (P : sg_Pic) (r s : Nat → Int32) : ∀ j, j ≤ 60 → (sg_queue_4 P r j).1 = (sg_queue_4 P s j).1 ∧ (∀ p, p < (sg_queue_4 P r j).1 → (sg_queue_4 P r j).2 p = (sg_queue_4 P s j).2 p)
  | 0, _ => ⟨rfl, fun p hp => absurd hp (Nat.not_lt_zero _)⟩
  | j + 1, hj => by
    have h := sg_q4i P r s j (by omega)
    rw [sg_queue_4, sg_queue_4]
    split
    · have g := sg_q29i P r s j (sg_queue_4 P s j).1 (sg_queue_4 P r j).2 (sg_queue_4 P s j).2 (sg_queue_4 P s j).1 (sg_queue_4 P r j).2 (sg_queue_4 P s j).2 (Nat.le_refl _) (fun p hp hne => h.2 p (by rw [h.1]; omega))
      rw [h.1]
      refine ⟨rfl, fun p hp => ?_⟩
      show upd _ _ _ p = upd _ _ _ p
      rw [← g.1]
      by_cases c : p = (sg_queue_29 P r j (sg_queue_4 P s j).1 (sg_queue_4 P r j).2 (sg_queue_4 P s j).1 (sg_queue_4 P r j).2).1
      · rw [c, pk_us, pk_us]
      · rw [pk_un c, pk_un c]
        exact g.2 p hp c
    · exact h
/-- how many open orders there are, and which stands at a place of their queue -/
def sg_qlen (P : sg_Pic) : Nat := (sg_queue_4 P (fun _ => 0) (sg_cn P 4)).1
def sg_qat (P : sg_Pic) (p : Nat) : Nat := Int32.toNatClampNeg ((sg_queue_4 P (fun _ => 0) (sg_cn P 4)).2 p)
theorem sg_qlen_eq (P : sg_Pic) (q : Nat → Int32) (h : sg_cn P 4 ≤ 60) : (sg_queue_4 P q (sg_cn P 4)).1 = sg_qlen P := (sg_q4i P q (fun _ => 0) _ h).1
theorem sg_qlen_le (P : sg_Pic) (h : sg_cn P 4 ≤ 60) : sg_qlen P ≤ sg_cn P 4 := (sg_q4 P (fun _ => 0) _ h).1
theorem sg_qat_eq (P : sg_Pic) (q : Nat → Int32) (h : sg_cn P 4 ≤ 60) : ∀ p, p < sg_qlen P → (sg_queue_4 P q (sg_cn P 4)).2 p = nI (sg_qat P p) ∧ sg_qat P p < 60 := fun p hp => by
  have h1 := (sg_q4i P q (fun _ => 0) _ h).2 p (by rw [sg_qlen_eq P q h]; exact hp)
  have h2 := (sg_q4 P (fun _ => 0) _ h).2 p hp (Nat.ne_of_lt hp)
  rw [h1]
  exact ⟨h2.1, h2.2⟩

set_option maxHeartbeats 4000000 in
set_option maxRecDepth 100000 in
/-- X6_queueOpenOrders -/
theorem c_queue (l : Launch) (D : va_G) (cI cZ cJ : ClassId) (lo sz : Nat) (a : Nat → Nat) (P : sg_Pic) (q : Nat → Int32) (hw : sg_W P) : Met l yX6_queueOpenOrders wsX6_queueOpenOrders ({ frames := 1, cells := 0, slots := 0, locals := 22 }) (Pre lo D cI cZ cJ [.ref (a 0)] sz (sg_St cI cZ a P q)) (va_Qi (fun (r : Int32) (_ : Unit) => r = nI (sg_qlen P)) (fun _ t => ∃ (q1 : Nat → Int32), va_P D vwCl (sg_St cI cZ a P q1) t.heap ∧ va_D (va_A (sg_St cI cZ a P q) sz) (sg_St cI cZ a P q1) ∧ ∀ p9, p9 < sg_qlen P → q1 p9 = nI (sg_qat P p9) ∧ sg_qat P p9 < 60) (va_A (sg_St cI cZ a P q) sz)) 0 0 (va_A (sg_St cI cZ a P q) sz) := by
  refine Met.ofW (cc := cX6_queueOpenOrders) (maxL := 4) (ret := (some .int)) (by decide) rfl ?_
  intro p e s m args below meth c s₁ B hml hv
  obtain ⟨rfl, hsz, hP, hD0, hC⟩ := hv
  have hx := B.exec
  have hb := B.bytes
  have hr := B.returns
  have hts := atoms_spec (ws := wsX6_queueOpenOrders) B.pre
  have hown : s.vm.findClass RX6 = some m.cls := findClass_of_methodNamed B.named
  have hlocks := B.notSynchronized
  subst hsz
  have hn1 : sg_cn P 1 ≤ 6 := hw.n1
  have hn2 : sg_cn P 2 ≤ 5 := hw.n2
  have hn3 : sg_cn P 3 ≤ 200 := hw.n3
  have hn4 : sg_cn P 4 ≤ 60 := hw.n4
  have hn5 : sg_cn P 5 ≤ 90 := hw.n5
  have hK := hC.K
  have hD := hD0.self (sz := s.heap.size)
  have hAlo0 := va_A_lo hD0 hC.1
  generalize hAe : va_A (sg_St cI cZ a P q) s.heap.size = A at hD hAlo0 ⊢
  have hA : ∀ q : Nat, s.heap.size ≤ q → A q := fun q h => by rw [← hAe]; exact Or.inr h
  have hAlo : ∀ q, A q → lo ≤ q := hAlo0
  have hS : va_S A s.heap s.heap [] := va_S.rf
  have hP : va_P D vwCl (sg_St cI cZ a P q) s.heap := hP
  have hl := lv_entry ([.ref (a 0)]) (n := 4) (Nat.le_of_ble_eq_true rfl)
  rw [lg_entry_eq]
  generalize (lg_sl ([.ref (a 0)]) ++ List.replicate (4 - (lg_sl ([.ref (a 0)])).length) Slot.unset).toArray = ls at hl ⊢
  have hl : lv_has ls 4 [(0, .ref (a 0))] := hl
  have in2 : ∀ w ∈ u_ws RX2 TX2 11, w ∈ wsX6_queueOpenOrders := by decide +kernel
  have in6 : ∀ w ∈ u_ws RX6 TX6 9, w ∈ wsX6_queueOpenOrders := by decide +kernel
  refine lv_iconst (v := 0) hx hb dX6_queueOpenOrders_0 (by decide) ?_
  refine lv_istore_n (lv' := [(1, .int 0), (0, .ref (a 0))]) hx hb dX6_queueOpenOrders_1 rfl hl (by decide) rfl (fun ls hl => ?_)
  refine lv_iconst (v := 0) hx hb dX6_queueOpenOrders_2 (by decide) ?_
  refine lv_istore_n (lv' := [(2, .int 0), (1, .int 0), (0, .ref (a 0))]) hx hb dX6_queueOpenOrders_3 rfl hl (by decide) rfl (fun ls hl => ?_)
  obtain ⟨H, hH9⟩ : ∃ z : Heap, z = s.heap := ⟨_, rfl⟩
  replace hS : va_S A s.heap H [] := by rw [hH9]; exact va_S.rf
  replace hP : va_P D vwCl (sg_St cI cZ a P q) H := by rw [hH9]; exact hP
  rw [← hH9]
  clear hH9
  generalize ([] : List Loc) = locs at hS ⊢
  obtain ⟨j4, h0j4⟩ : ∃ j : Nat, j = 0 := ⟨_, rfl⟩
  obtain ⟨m4_1, hm4_1⟩ : ∃ z9 : Nat, z9 = (sg_queue_4 P q j4).1 := ⟨_, rfl⟩
  obtain ⟨q4, hq4⟩ : ∃ z9 : Nat → Int32, z9 = (sg_queue_4 P q j4).2 := ⟨_, rfl⟩
  replace hl : lv_has ls 4 [(2, .int (nI j4)), (1, .int (nI m4_1)), (0, .ref (a 0))] := by rw [hm4_1, h0j4]; exact hl
  replace hP : va_P D vwCl (sg_St cI cZ a P q4) H := by rw [hq4, h0j4]; exact hP
  replace hD : va_D A (sg_St cI cZ a P q4) := by rw [hq4, h0j4]; exact hD
  have hjj4 : j4 ≤ sg_cn P 4 := by omega
  clear h0j4
  obtain ⟨n4, hn4⟩ : ∃ n : Nat, sg_cn P 4 < j4 + n := ⟨sg_cn P 4 + 1, by omega⟩
  revert hP
  revert hD
  revert hS
  revert hl
  revert hn4
  revert hjj4
  revert hm4_1
  revert hq4
  revert ls
  revert locs
  revert H
  revert m4_1
  revert q4
  revert j4
  induction n4 with
  | zero =>
    intro j4 q4 m4_1 H locs ls hq4 hm4_1 hjj4 hn4 hl hS hD hP
    exact absurd hn4 (by omega)
  | succ n4 ih4 =>
    intro j4 q4 m4_1 H locs ls hq4 hm4_1 hjj4 hn4 hl hS hD hP
    refine lv_iload_n hx hb dX6_queueOpenOrders_4 rfl (lv_at hl 0 rfl) ?_
    refine lv_aload_n hx hb dX6_queueOpenOrders_5 rfl (lv_at hl 2 rfl) ?_
    refine va_get (D := D) (ci := 6) (v := .ref (a 5)) (C := RX6) (T := TX6) (N := 9) hx hb hts in6 hown hK hP 0 rfl rfl 5 (by decide) (hts (.fieldLink RX6 42 "Granary$Stock" "orders" "LGranary$Orders;") (by decide +kernel)) (fun _ h9 => h9) rfl dX6_queueOpenOrders_6 ?_
    refine va_get (D := D) (ci := 2) (v := .int (P 0 4)) (C := RX2) (T := TX2) (N := 11) hx hb hts in2 hown hK hP 5 rfl rfl 0 (by decide) (hts (.fieldLink RX6 188 "Granary$Orders" "count" "I") (by decide +kernel)) (fun _ h9 => h9) rfl dX6_queueOpenOrders_9 ?_
    have hB4 : ((P 0 4) : Int32) = nI (sg_cn P 4) := (hw.e4)
    refine lv_icmp_ge (tgt := 88) hx hb dX6_queueOpenOrders_12 (by decide) (fun c_1 => ?_) (fun c_1 => ?_)
    · have hE4 : sg_cn P 4 = j4 := (sg_eq hB4 c_1 hjj4 (by omega)).symm
      clear ih4 hn4
      subst hE4
      subst hm4_1
      subst hq4
      refine lv_iload_n hx hb dX6_queueOpenOrders_88 rfl (lv_at hl 1 rfl) ?_
      refine W.widen (k := 0) (n := 0) (by omega) (by omega) ?_
      have hP9 : va_P D vwCl (sg_St cI cZ a P ((sg_queue_4 P q (sg_cn P 4)).2)) H := by exact hP
      have hD9 : va_D A (sg_St cI cZ a P ((sg_queue_4 P q (sg_cn P 4)).2)) := by exact hD
      exact W.iret (v := (nI ((sg_queue_4 P q (sg_cn P 4)).1))) hx hb hr (fun t ht hW => ⟨⟨(nI ((sg_queue_4 P q (sg_cn P 4)).1)), (), rfl, (congrArg nI (sg_qlen_eq P q (by omega))), ((sg_queue_4 P q (sg_cn P 4)).2), by rw [ht]; exact hP9, hD9, (sg_qat_eq P q (by omega))⟩, hS.F ht⟩) hS.2.2 dX6_queueOpenOrders_89
    · have hL4 : j4 < sg_cn P 4 := sg_lt hB4 c_1 (by omega)
      have hQ4 : m4_1 ≤ j4 ∧ sg_Qx q4 m4_1 m4_1 := by rw [hq4, hm4_1]; exact sg_q4 P q j4 (by omega)
      have hQ5 : m4_1 ≤ j4 := hQ4.1
      refine lv_aload_n hx hb dX6_queueOpenOrders_15 rfl (lv_at hl 2 rfl) ?_
      refine va_get (D := D) (ci := 6) (v := .ref (a 5)) (C := RX6) (T := TX6) (N := 9) hx hb hts in6 hown hK hP 0 rfl rfl 5 (by decide) (hts (.fieldLink RX6 42 "Granary$Stock" "orders" "LGranary$Orders;") (by decide +kernel)) (fun _ h9 => h9) rfl dX6_queueOpenOrders_16 ?_
      refine va_get (D := D) (ci := 2) (v := .ref (a 57)) (C := RX2) (T := TX2) (N := 11) hx hb hts in2 hown hK hP 5 rfl rfl 8 (by decide) (hts (.fieldLink RX6 189 "Granary$Orders" "state" "[I") (by decide +kernel)) (fun _ h9 => h9) rfl dX6_queueOpenOrders_19 ?_
      refine lv_iload_n hx hb dX6_queueOpenOrders_22 rfl (lv_at hl 0 rfl) ?_
      refine sg_iald hx hb hK hP 30 0 rfl rfl (j := j4) rfl (by omega) (Nat.le_of_ble_eq_true rfl) dX6_queueOpenOrders_23 ?_
      refine lv_toi (y := P 57 j4) rfl ?_
      refine lv_if_ne (tgt := 82) hx hb dX6_queueOpenOrders_24 (by decide) (fun c_2 => ?_) (fun c_2 => ?_)
      · refine lv_iinc (v := nI (j4 + 1)) (lv' := [(2, .int (nI (j4 + 1))), (1, .int (nI m4_1)), (0, .ref (a 0))]) hx hb dX6_queueOpenOrders_82 hl (k := 0) rfl (nI_1 j4) (by decide) rfl (fun ls hl => ?_)
        refine lv_goto (tgt := 4) hx hb dX6_queueOpenOrders_85 (by decide) ?_
        have hl8 := hl; have hS8 := hS; have hD8 := hD; have hP8 := hP
        subst hm4_1
        subst hq4
        exact ih4 (j4 + 1) ((sg_queue_4 P q j4).2) ((sg_queue_4 P q j4).1) _ _ _ (show (((sg_queue_4 P q j4).2) : Nat → Int32) = (sg_queue_4 P q (j4 + 1)).2 from by rw [sg_queue_4, if_neg c_2]) (show (((sg_queue_4 P q j4).1) : Nat) = (sg_queue_4 P q (j4 + 1)).1 from by rw [sg_queue_4, if_neg c_2]) (by omega) (by omega) (lv_sub hl8 [0, 1, 2] rfl) hS8 hD8 hP8
      · refine lv_iload_n hx hb dX6_queueOpenOrders_27 rfl (lv_at hl 1 rfl) ?_
        refine lv_istore_n (lv' := [(3, .int (nI m4_1)), (2, .int (nI j4)), (1, .int (nI m4_1)), (0, .ref (a 0))]) hx hb dX6_queueOpenOrders_28 rfl hl (by decide) rfl (fun ls hl => ?_)
        obtain ⟨T29, hTT29⟩ : ∃ z9 : Nat × (Nat → Int32), z9 = sg_queue_29 P q j4 m4_1 q4 m4_1 q4 := ⟨_, rfl⟩
        obtain ⟨q29, hq29⟩ : ∃ z9 : Nat → Int32, z9 = q4 := ⟨_, rfl⟩
        obtain ⟨m29, hn29⟩ : ∃ n : Nat, n = m4_1 := ⟨_, rfl⟩
        replace hl : lv_has ls 4 [(3, .int (nI m29)), (2, .int (nI j4)), (1, .int (nI m4_1)), (0, .ref (a 0))] := by rw [hn29]; exact hl
        replace hP : va_P D vwCl (sg_St cI cZ a P q29) H := by rw [hq29]; exact hP
        replace hD : va_D A (sg_St cI cZ a P q29) := by rw [hq29]; exact hD
        have hF29 : sg_queue_29 P q j4 m4_1 q4 m29 q29 = T29 := by rw [hq29, hn29, hTT29]
        have hm29 : m29 ≤ m4_1 := by omega
        have hv29 : sg_Qx q29 (m4_1 + 1) m29 := by rw [hq29, hn29]; exact hQ4.2.init
        have hjm29 : m29 ≤ 60 := by omega
        clear hn29
        clear hq29
        revert hP
        revert hD
        revert hS
        revert hl
        revert hF29
        revert hjm29
        revert hv29
        revert hm29
        revert ls
        revert locs
        revert H
        revert q29
        induction m29 with
        | zero =>
          intro q29 H locs ls hm29 hv29 hjm29 hF29 hl hS hD hP
          refine lv_iload_n hx hb dX6_queueOpenOrders_29 rfl (lv_at hl 0 rfl) ?_
          have c_3 : nI 0 ≤ 0 := by decide
          refine lv_if_le (tgt := 72) hx hb dX6_queueOpenOrders_30 (by decide) (fun _ => ?_) (fun c9 => absurd c_3 c9)
          rw [sg_queue_29] at hF29
          replace hl : lv_has ls 4 [(3, .int (nI ((T29).1))), (2, .int (nI j4)), (1, .int (nI m4_1)), (0, .ref (a 0))] := by rw [← hF29]; exact lv_sub hl [0, 1, 2, 3] rfl
          replace hP : va_P D vwCl (sg_St cI cZ a P ((T29).2)) H := by rw [← hF29]; exact hP
          replace hD : va_D A (sg_St cI cZ a P ((T29).2)) := by rw [← hF29]; exact hD
          clear hF29
          subst hTT29
          refine lv_aload_n hx hb dX6_queueOpenOrders_72 rfl (lv_at hl 3 rfl) ?_
          have h73 : (sg_queue_29 P q j4 m4_1 q4 m4_1 q4).1 ≤ m4_1 := (sg_q29 P q j4 m4_1 q4 m4_1 q4 (Nat.le_refl _) hQ4.2.init).1
          refine va_get (D := D) (ci := 6) (v := .ref (a 71)) (C := RX6) (T := TX6) (N := 9) hx hb hts in6 hown hK hP 0 rfl rfl 8 (by decide) (hts (.fieldLink RX6 57 "Granary$Stock" "queue" "[I") (by decide +kernel)) (fun _ h9 => h9) rfl dX6_queueOpenOrders_73 ?_
          refine lv_iload_n hx hb dX6_queueOpenOrders_76 rfl (lv_at hl 0 rfl) ?_
          refine lv_iload_n hx hb dX6_queueOpenOrders_77 rfl (lv_at hl 1 rfl) ?_
          refine sg_iast hx hb hK hP hD hS 40 0 rfl rfl (j := ((sg_queue_29 P q j4 m4_1 q4 m4_1 q4)).1) rfl (by omega) (Nat.le_of_ble_eq_true rfl) dX6_queueOpenOrders_78 (fun H locs hP hD hS => ?_)
          replace hP : va_P D vwCl (sg_St cI cZ a P (upd (((sg_queue_29 P q j4 m4_1 q4 m4_1 q4)).2) (((sg_queue_29 P q j4 m4_1 q4 m4_1 q4)).1) (nI j4))) H := hP
          replace hD : va_D A (sg_St cI cZ a P (upd (((sg_queue_29 P q j4 m4_1 q4 m4_1 q4)).2) (((sg_queue_29 P q j4 m4_1 q4 m4_1 q4)).1) (nI j4))) := hD
          refine lv_iinc (v := nI (m4_1 + 1)) (lv' := [(1, .int (nI (m4_1 + 1))), (3, .int (nI (((sg_queue_29 P q j4 m4_1 q4 m4_1 q4)).1))), (2, .int (nI j4)), (0, .ref (a 0))]) hx hb dX6_queueOpenOrders_79 hl (k := 2) rfl (nI_1 m4_1) (by decide) rfl (fun ls hl => ?_)
          refine lv_iinc (v := nI (j4 + 1)) (lv' := [(2, .int (nI (j4 + 1))), (1, .int (nI (m4_1 + 1))), (3, .int (nI (((sg_queue_29 P q j4 m4_1 q4 m4_1 q4)).1))), (0, .ref (a 0))]) hx hb dX6_queueOpenOrders_82 hl (k := 2) rfl (nI_1 j4) (by decide) rfl (fun ls hl => ?_)
          refine lv_goto (tgt := 4) hx hb dX6_queueOpenOrders_85 (by decide) ?_
          have hl8 := hl; have hS8 := hS; have hD8 := hD; have hP8 := hP
          subst hm4_1
          subst hq4
          exact ih4 (j4 + 1) (upd (((sg_queue_29 P q j4 ((sg_queue_4 P q j4).1) ((sg_queue_4 P q j4).2) ((sg_queue_4 P q j4).1) ((sg_queue_4 P q j4).2))).2) (((sg_queue_29 P q j4 ((sg_queue_4 P q j4).1) ((sg_queue_4 P q j4).2) ((sg_queue_4 P q j4).1) ((sg_queue_4 P q j4).2))).1) (nI j4)) (((sg_queue_4 P q j4).1) + 1) _ _ _ (show (upd (((sg_queue_29 P q j4 ((sg_queue_4 P q j4).1) ((sg_queue_4 P q j4).2) ((sg_queue_4 P q j4).1) ((sg_queue_4 P q j4).2))).2) (((sg_queue_29 P q j4 ((sg_queue_4 P q j4).1) ((sg_queue_4 P q j4).2) ((sg_queue_4 P q j4).1) ((sg_queue_4 P q j4).2))).1) (nI j4) : Nat → Int32) = (sg_queue_4 P q (j4 + 1)).2 from by rw [sg_queue_4, if_pos c_2]) (show (((sg_queue_4 P q j4).1) + 1 : Nat) = (sg_queue_4 P q (j4 + 1)).1 from by rw [sg_queue_4, if_pos c_2]) (by omega) (by omega) (lv_sub hl8 [0, 1, 3] rfl) hS8 hD8 hP8
        | succ m29 ih29 =>
          intro q29 H locs ls hm29 hv29 hjm29 hF29 hl hS hD hP
          refine lv_iload_n hx hb dX6_queueOpenOrders_29 rfl (lv_at hl 0 rfl) ?_
          have c_4 : ¬ (nI (m29 + 1) ≤ 0) := nI_nle (Nat.succ_pos _) (by omega)
          refine lv_if_le (tgt := 72) hx hb dX6_queueOpenOrders_30 (by decide) (fun c9 => absurd c9 c_4) (fun _ => ?_)
          refine lv_aload_n hx hb dX6_queueOpenOrders_33 rfl (lv_at hl 3 rfl) ?_
          refine va_get (D := D) (ci := 6) (v := .ref (a 5)) (C := RX6) (T := TX6) (N := 9) hx hb hts in6 hown hK hP 0 rfl rfl 5 (by decide) (hts (.fieldLink RX6 42 "Granary$Stock" "orders" "LGranary$Orders;") (by decide +kernel)) (fun _ h9 => h9) rfl dX6_queueOpenOrders_34 ?_
          refine lv_iload_n hx hb dX6_queueOpenOrders_37 rfl (lv_at hl 1 rfl) ?_
          refine lv_aload_n hx hb dX6_queueOpenOrders_38 rfl (lv_at hl 3 rfl) ?_
          refine va_get (D := D) (ci := 6) (v := .ref (a 71)) (C := RX6) (T := TX6) (N := 9) hx hb hts in6 hown hK hP 0 rfl rfl 8 (by decide) (hts (.fieldLink RX6 57 "Granary$Stock" "queue" "[I") (by decide +kernel)) (fun _ h9 => h9) rfl dX6_queueOpenOrders_39 ?_
          refine lv_iload_n hx hb dX6_queueOpenOrders_42 rfl (lv_at hl 0 rfl) ?_
          refine lv_iconst (v := 1) hx hb dX6_queueOpenOrders_43 (by decide) ?_
          refine lv_isub hx hb dX6_queueOpenOrders_44 ?_
          refine lv_toi (y := nI m29) (nI_pred m29) ?_
          refine sg_iald hx hb hK hP 40 0 rfl rfl (j := m29) rfl (by omega) (Nat.le_of_ble_eq_true rfl) dX6_queueOpenOrders_45 ?_
          refine lv_toi (y := q29 m29) rfl ?_
          have h46 := hv29 m29 (by omega) (by omega)
          have l46 : Int32.toNatClampNeg (q29 m29) < 60 := h46.2
          refine lv_toi (y := nI (Int32.toNatClampNeg (q29 m29))) h46.1 ?_
          have hPc := hP.sub (ws' := [(a 5, .inr (2, [.int (P 0 4), .ref (a 50), .ref (a 51), .ref (a 52), .ref (a 53), .ref (a 54), .ref (a 55), .ref (a 56), .ref (a 57), .ref (a 58), .ref (a 59)])), (a 54, .inl (cI, 60, .inl (P 54))), (a 55, .inl (cI, 60, .inl (P 55)))]) [5, 27, 28] rfl
          have hDc := hD.sub (ws' := [(a 5, .inr (2, [.int (P 0 4), .ref (a 50), .ref (a 51), .ref (a 52), .ref (a 53), .ref (a 54), .ref (a 55), .ref (a 56), .ref (a 57), .ref (a 58), .ref (a 59)])), (a 54, .inl (cI, 60, .inl (P 54))), (a 55, .inl (cI, 60, .inl (P 55)))]) [5, 27, 28] (by decide) rfl
          refine vp_callSi (W.runV (As := [.int (nI j4), .int (nI (Int32.toNatClampNeg (q29 m29)))]) (rest := []) ⟨hx, hb, hml, hown, hts⟩ (c_comesAhead l D cI cZ cJ lo H.size a P j4 (Int32.toNatClampNeg (q29 m29)) (by omega) (by omega)) (cwV 2 hts gX6_queueOpenOrders_X2_comesAhead rfl rfl rfl (by decide +kernel) ⟨(Nat.le_of_ble_eq_true rfl), (Nat.le_of_ble_eq_true rfl)⟩) ⟨Pre.blind, va_recv hK hP (ci := 2) (q0 := 5) rfl rfl, Pre.mk hPc (hDc.weaken (fun _ _ _ h => hAlo _ h)) hC hS hAlo⟩ rfl rfl hl.1 rfl (lv_room (Nat.le_of_ble_eq_true rfl)) dX6_queueOpenOrders_46 ⟨(Nat.le_of_ble_eq_true rfl), (Nat.le_of_ble_eq_true rfl)⟩) (fun r_5 e_6 => ?_)
          clear hPc hDc
          have e_6 : sg_comesAhead P j4 (Int32.toNatClampNeg (q29 m29)) = r_5 := Eq.symm e_6
          subst e_6
          refine lv_if_eq (tgt := 72) hx hb dX6_queueOpenOrders_49 (by decide) (fun c_7 => ?_) (fun c_7 => ?_)
          · rw [sg_queue_29, if_pos c_7] at hF29
            replace hl : lv_has ls 4 [(3, .int (nI ((T29).1))), (2, .int (nI j4)), (1, .int (nI m4_1)), (0, .ref (a 0))] := by rw [← hF29]; exact lv_sub hl [0, 1, 2, 3] rfl
            replace hP : va_P D vwCl (sg_St cI cZ a P ((T29).2)) H := by rw [← hF29]; exact hP
            replace hD : va_D A (sg_St cI cZ a P ((T29).2)) := by rw [← hF29]; exact hD
            clear hF29 ih29
            subst hTT29
            refine lv_aload_n hx hb dX6_queueOpenOrders_72 rfl (lv_at hl 3 rfl) ?_
            have h73 : (sg_queue_29 P q j4 m4_1 q4 m4_1 q4).1 ≤ m4_1 := (sg_q29 P q j4 m4_1 q4 m4_1 q4 (Nat.le_refl _) hQ4.2.init).1
            refine va_get (D := D) (ci := 6) (v := .ref (a 71)) (C := RX6) (T := TX6) (N := 9) hx hb hts in6 hown hK hP 0 rfl rfl 8 (by decide) (hts (.fieldLink RX6 57 "Granary$Stock" "queue" "[I") (by decide +kernel)) (fun _ h9 => h9) rfl dX6_queueOpenOrders_73 ?_
            refine lv_iload_n hx hb dX6_queueOpenOrders_76 rfl (lv_at hl 0 rfl) ?_
            refine lv_iload_n hx hb dX6_queueOpenOrders_77 rfl (lv_at hl 1 rfl) ?_
            refine sg_iast hx hb hK hP hD hS 40 0 rfl rfl (j := ((sg_queue_29 P q j4 m4_1 q4 m4_1 q4)).1) rfl (by omega) (Nat.le_of_ble_eq_true rfl) dX6_queueOpenOrders_78 (fun H locs hP hD hS => ?_)
            replace hP : va_P D vwCl (sg_St cI cZ a P (upd (((sg_queue_29 P q j4 m4_1 q4 m4_1 q4)).2) (((sg_queue_29 P q j4 m4_1 q4 m4_1 q4)).1) (nI j4))) H := hP
            replace hD : va_D A (sg_St cI cZ a P (upd (((sg_queue_29 P q j4 m4_1 q4 m4_1 q4)).2) (((sg_queue_29 P q j4 m4_1 q4 m4_1 q4)).1) (nI j4))) := hD
            refine lv_iinc (v := nI (m4_1 + 1)) (lv' := [(1, .int (nI (m4_1 + 1))), (3, .int (nI (((sg_queue_29 P q j4 m4_1 q4 m4_1 q4)).1))), (2, .int (nI j4)), (0, .ref (a 0))]) hx hb dX6_queueOpenOrders_79 hl (k := 2) rfl (nI_1 m4_1) (by decide) rfl (fun ls hl => ?_)
            refine lv_iinc (v := nI (j4 + 1)) (lv' := [(2, .int (nI (j4 + 1))), (1, .int (nI (m4_1 + 1))), (3, .int (nI (((sg_queue_29 P q j4 m4_1 q4 m4_1 q4)).1))), (0, .ref (a 0))]) hx hb dX6_queueOpenOrders_82 hl (k := 2) rfl (nI_1 j4) (by decide) rfl (fun ls hl => ?_)
            refine lv_goto (tgt := 4) hx hb dX6_queueOpenOrders_85 (by decide) ?_
            have hl8 := hl; have hS8 := hS; have hD8 := hD; have hP8 := hP
            subst hm4_1
            subst hq4
            exact ih4 (j4 + 1) (upd (((sg_queue_29 P q j4 ((sg_queue_4 P q j4).1) ((sg_queue_4 P q j4).2) ((sg_queue_4 P q j4).1) ((sg_queue_4 P q j4).2))).2) (((sg_queue_29 P q j4 ((sg_queue_4 P q j4).1) ((sg_queue_4 P q j4).2) ((sg_queue_4 P q j4).1) ((sg_queue_4 P q j4).2))).1) (nI j4)) (((sg_queue_4 P q j4).1) + 1) _ _ _ (show (upd (((sg_queue_29 P q j4 ((sg_queue_4 P q j4).1) ((sg_queue_4 P q j4).2) ((sg_queue_4 P q j4).1) ((sg_queue_4 P q j4).2))).2) (((sg_queue_29 P q j4 ((sg_queue_4 P q j4).1) ((sg_queue_4 P q j4).2) ((sg_queue_4 P q j4).1) ((sg_queue_4 P q j4).2))).1) (nI j4) : Nat → Int32) = (sg_queue_4 P q (j4 + 1)).2 from by rw [sg_queue_4, if_pos c_2]) (show (((sg_queue_4 P q j4).1) + 1 : Nat) = (sg_queue_4 P q (j4 + 1)).1 from by rw [sg_queue_4, if_pos c_2]) (by omega) (by omega) (lv_sub hl8 [0, 1, 3] rfl) hS8 hD8 hP8
          · refine lv_aload_n hx hb dX6_queueOpenOrders_52 rfl (lv_at hl 3 rfl) ?_
            refine va_get (D := D) (ci := 6) (v := .ref (a 71)) (C := RX6) (T := TX6) (N := 9) hx hb hts in6 hown hK hP 0 rfl rfl 8 (by decide) (hts (.fieldLink RX6 57 "Granary$Stock" "queue" "[I") (by decide +kernel)) (fun _ h9 => h9) rfl dX6_queueOpenOrders_53 ?_
            refine lv_iload_n hx hb dX6_queueOpenOrders_56 rfl (lv_at hl 0 rfl) ?_
            refine lv_aload_n hx hb dX6_queueOpenOrders_57 rfl (lv_at hl 3 rfl) ?_
            refine va_get (D := D) (ci := 6) (v := .ref (a 71)) (C := RX6) (T := TX6) (N := 9) hx hb hts in6 hown hK hP 0 rfl rfl 8 (by decide) (hts (.fieldLink RX6 57 "Granary$Stock" "queue" "[I") (by decide +kernel)) (fun _ h9 => h9) rfl dX6_queueOpenOrders_58 ?_
            refine lv_iload_n hx hb dX6_queueOpenOrders_61 rfl (lv_at hl 0 rfl) ?_
            refine lv_iconst (v := 1) hx hb dX6_queueOpenOrders_62 (by decide) ?_
            refine lv_isub hx hb dX6_queueOpenOrders_63 ?_
            refine lv_toi (y := nI m29) (nI_pred m29) ?_
            refine sg_iald hx hb hK hP 40 0 rfl rfl (j := m29) rfl (by omega) (Nat.le_of_ble_eq_true rfl) dX6_queueOpenOrders_64 ?_
            refine lv_toi (y := q29 m29) rfl ?_
            refine sg_iast hx hb hK hP hD hS 40 0 rfl rfl (j := m29 + 1) rfl (by omega) (Nat.le_of_ble_eq_true rfl) dX6_queueOpenOrders_65 (fun H locs hP hD hS => ?_)
            replace hP : va_P D vwCl (sg_St cI cZ a P (upd q29 (m29 + 1) (q29 m29))) H := hP
            replace hD : va_D A (sg_St cI cZ a P (upd q29 (m29 + 1) (q29 m29))) := hD
            refine lv_iinc (v := nI m29) (lv' := [(3, .int (nI m29)), (2, .int (nI j4)), (1, .int (nI m4_1)), (0, .ref (a 0))]) hx hb dX6_queueOpenOrders_66 hl (k := 0) rfl (sg_dec m29) (by decide) rfl (fun ls hl => ?_)
            refine lv_goto (tgt := 29) hx hb dX6_queueOpenOrders_69 (by decide) ?_
            exact ih29 (upd q29 (m29 + 1) (q29 m29)) _ _ _ (by omega) (hv29.step (by omega)) (by omega) (show sg_queue_29 P q j4 m4_1 q4 m29 (upd q29 (m29 + 1) (q29 m29)) = T29 from by rw [← hF29, sg_queue_29, if_neg c_7]) (lv_sub hl [0, 1, 2, 3] rfl) hS hD hP

def sg_reserveForAll_7 (P : sg_Pic) : Nat → sg_Pic
  | 0 => P
  | j7 + 1 => (sg_reserveFor (sg_reserveForAll_7 P j7) (sg_qat P j7))
theorem sg_reserveForAll_7_K (P : sg_Pic) : ∀ j : Nat, sg_K (sg_reserveForAll_7 P j) P
  | 0 => by exact ⟨rfl, rfl⟩
  | j + 1 => by
    have h := sg_reserveForAll_7_K P j
    rw [sg_reserveForAll_7]
    repeat' split
    all_goals first | exact h | (refine sg_K.trans ?_ h; exact ⟨rfl, rfl⟩) | (refine sg_K.trans ?_ h; exact sg_reserveFor_K _ _)

def sg_reserveForAll (P : sg_Pic) : sg_Pic := (sg_reserveForAll_7 P (sg_qlen P))

theorem sg_reserveForAll_K (P : sg_Pic) : sg_K (sg_reserveForAll P) P := by
  unfold sg_reserveForAll
  repeat' split
  all_goals first | exact ⟨rfl, rfl⟩ | exact sg_reserveForAll_7_K _ _
theorem sg_reserveForAll_W {P : sg_Pic} (hw : sg_W P) : sg_W (sg_reserveForAll P) := (sg_reserveForAll_K P).W hw

set_option maxHeartbeats 4000000 in
set_option maxRecDepth 100000 in
/-- X6_reserveForAll -/
theorem c_reserveForAll (l : Launch) (D : va_G) (cI cZ cJ : ClassId) (lo sz : Nat) (a : Nat → Nat) (P : sg_Pic) (q : Nat → Int32) (hw : sg_W P) : Met l yX6_reserveForAll wsX6_reserveForAll ({ frames := 3, cells := 0, slots := 0, locals := 70 }) (Pre lo D cI cZ cJ [.ref (a 0)] sz (sg_St cI cZ a P q)) (va_Qv (fun _ : Unit => True) (fun _ t => ∃ (q1 : Nat → Int32), va_P D vwCl (sg_St cI cZ a (sg_reserveForAll P) q1) t.heap ∧ va_D (va_A (sg_St cI cZ a P q) sz) (sg_St cI cZ a (sg_reserveForAll P) q1)) (va_A (sg_St cI cZ a P q) sz)) 0 0 (va_A (sg_St cI cZ a P q) sz) := by
  refine Met.ofW (cc := cX6_reserveForAll) (maxL := 3) (ret := none) (by decide) rfl ?_
  intro p e s m args below meth c s₁ B hml hv
  obtain ⟨rfl, hsz, hP, hD0, hC⟩ := hv
  have hx := B.exec
  have hb := B.bytes
  have hr := B.returns
  have hts := atoms_spec (ws := wsX6_reserveForAll) B.pre
  have hown : s.vm.findClass RX6 = some m.cls := findClass_of_methodNamed B.named
  have hlocks := B.notSynchronized
  subst hsz
  have hn1 : sg_cn P 1 ≤ 6 := hw.n1
  have hn2 : sg_cn P 2 ≤ 5 := hw.n2
  have hn3 : sg_cn P 3 ≤ 200 := hw.n3
  have hn4 : sg_cn P 4 ≤ 60 := hw.n4
  have hn5 : sg_cn P 5 ≤ 90 := hw.n5
  have hK := hC.K
  have hD := hD0.self (sz := s.heap.size)
  have hAlo0 := va_A_lo hD0 hC.1
  generalize hAe : va_A (sg_St cI cZ a P q) s.heap.size = A at hD hAlo0 ⊢
  have hA : ∀ q : Nat, s.heap.size ≤ q → A q := fun q h => by rw [← hAe]; exact Or.inr h
  have hAlo : ∀ q, A q → lo ≤ q := hAlo0
  have hS : va_S A s.heap s.heap [] := va_S.rf
  have hP : va_P D vwCl (sg_St cI cZ a P q) s.heap := hP
  have hl := lv_entry ([.ref (a 0)]) (n := 3) (Nat.le_of_ble_eq_true rfl)
  rw [lg_entry_eq]
  generalize (lg_sl ([.ref (a 0)]) ++ List.replicate (3 - (lg_sl ([.ref (a 0)])).length) Slot.unset).toArray = ls at hl ⊢
  have hl : lv_has ls 3 [(0, .ref (a 0))] := hl
  have in6 : ∀ w ∈ u_ws RX6 TX6 9, w ∈ wsX6_reserveForAll := by decide +kernel
  refine lv_aload_n hx hb dX6_reserveForAll_0 rfl (lv_at hl 0 rfl) ?_
  have hPc : va_P D vwCl (sg_St cI cZ a P q) s.heap := hP
  have hDc : va_D A (sg_St cI cZ a P q) := hD
  have hFc := va_free (wc := (sg_St cI cZ a P q)) hD hS hA [0, 1, 2, 3, 4, 5, 6, 7, 8, 9, 10, 11, 12, 13, 14, 15, 16, 17, 18, 19, 20, 21, 22, 23, 24, 25, 26, 27, 28, 29, 30, 31, 32, 33, 34, 35, 36, 37, 38, 39, 40] rfl
  refine va_calli (va_runV (As := []) (rest := []) ⟨hx, hb, hml, hown, hts⟩ (c_queue l D cI cZ cJ lo s.heap.size a P q hw) (cwV 0 hts gX6_reserveForAll_X6_queueOpenOrders rfl rfl rfl (by decide +kernel) ⟨(Nat.le_of_ble_eq_true rfl), (Nat.le_of_ble_eq_true rfl)⟩) ⟨Pre.blind, va_recv hK hP (ci := 6) (q0 := 0) rfl rfl, Pre.mk hPc (hDc.weaken (fun _ _ _ h => hAlo _ h)) hC hS hAlo⟩ rfl rfl hl.1 rfl (lv_room (Nat.le_of_ble_eq_true rfl)) dX6_reserveForAll_1 ⟨(Nat.le_of_ble_eq_true rfl), (Nat.le_of_ble_eq_true rfl)⟩) hS (fun q _ h => hFc q h) hFc (fun r_1 u t H1 locs1 ht hvm e_2 hB hz1 hk1 hS1 => ?_)
  have hS := hS1
  obtain ⟨q1_3, hP1, hD1, b_4⟩ := hB
  rw [ht] at hP1
  obtain ⟨hP, hD⟩ := va_join (wr := []) (w1 := (sg_St cI cZ a P q1_3)) hP hD [0, 1, 2, 3, 4, 5, 6, 7, 8, 9, 10, 11, 12, 13, 14, 15, 16, 17, 18, 19, 20, 21, 22, 23, 24, 25, 26, 27, 28, 29, 30, 31, 32, 33, 34, 35, 36, 37, 38, 39, 40] [] rfl rfl (by decide) (by decide) hk1 hFc hP1 hD1
  have e_2 : nI (sg_qlen P) = r_1 := Eq.symm e_2
  subst e_2
  clear hFc hPc hDc ht hvm hz1 hk1 hS1 hP1 hD1
  generalize H1 = H at hP hS ⊢
  replace hP : va_P D vwCl (sg_St cI cZ a P q1_3) H := hP
  replace hD : va_D A (sg_St cI cZ a P q1_3) := hD
  have hql : sg_qlen P ≤ 60 := Nat.le_trans (sg_qlen_le P (by omega)) (by omega)
  refine lv_istore_n (lv' := [(1, .int (nI (sg_qlen P))), (0, .ref (a 0))]) hx hb dX6_reserveForAll_4 rfl hl (by decide) rfl (fun ls hl => ?_)
  refine lv_iconst (v := 0) hx hb dX6_reserveForAll_5 (by decide) ?_
  refine lv_istore_n (lv' := [(2, .int 0), (1, .int (nI (sg_qlen P))), (0, .ref (a 0))]) hx hb dX6_reserveForAll_6 rfl hl (by decide) rfl (fun ls hl => ?_)
  generalize locs1 = locs at hS ⊢
  obtain ⟨j7, h0j7⟩ : ∃ j : Nat, j = 0 := ⟨_, rfl⟩
  obtain ⟨P7, hP7⟩ : ∃ z9 : sg_Pic, z9 = sg_reserveForAll_7 P j7 := ⟨_, rfl⟩
  replace hl : lv_has ls 3 [(2, .int (nI j7)), (1, .int (nI (sg_qlen P))), (0, .ref (a 0))] := by rw [h0j7]; exact hl
  replace hP : va_P D vwCl (sg_St cI cZ a P7 q1_3) H := by rw [hP7, h0j7]; exact hP
  replace hD : va_D A (sg_St cI cZ a P7 q1_3) := by rw [hP7, h0j7]; exact hD
  have hjj7 : j7 ≤ sg_qlen P := by omega
  clear h0j7
  obtain ⟨n7, hn7⟩ : ∃ n : Nat, sg_qlen P < j7 + n := ⟨sg_qlen P + 1, by omega⟩
  revert hP
  revert hD
  revert hS
  revert hl
  revert hn7
  revert hjj7
  revert hP7
  revert ls
  revert locs
  revert H
  revert P7
  revert j7
  induction n7 with
  | zero =>
    intro j7 P7 H locs ls hP7 hjj7 hn7 hl hS hD hP
    exact absurd hn7 (by omega)
  | succ n7 ih7 =>
    intro j7 P7 H locs ls hP7 hjj7 hn7 hl hS hD hP
    refine lv_iload_n hx hb dX6_reserveForAll_7 rfl (lv_at hl 0 rfl) ?_
    refine lv_iload_n hx hb dX6_reserveForAll_8 rfl (lv_at hl 1 rfl) ?_
    have hkP7 : sg_K P7 P := by rw [hP7]; exact sg_reserveForAll_7_K P j7
    have hB7 : ((nI (sg_qlen P)) : Int32) = nI (sg_qlen P) := rfl
    refine lv_icmp_ge (tgt := 28) hx hb dX6_reserveForAll_9 (by decide) (fun c_5 => ?_) (fun c_5 => ?_)
    · have hE7 : sg_qlen P = j7 := (sg_eq hB7 c_5 hjj7 (by omega)).symm
      clear ih7 hn7
      subst hE7
      subst hP7
      refine W.widen (k := 0) (n := 0) (by omega) (by omega) ?_
      have hP9 : va_P D vwCl (sg_St cI cZ a (sg_reserveForAll P) q1_3) H := by exact hP
      have hD9 : va_D A (sg_St cI cZ a (sg_reserveForAll P) q1_3) := by exact hD
      exact W.vret hx hb hr (fun t ht hW => ⟨⟨(), rfl, trivial, q1_3, by rw [ht]; exact hP9, hD9⟩, hS.F ht⟩) hS.2.2 dX6_reserveForAll_28
    · have hL7 : j7 < sg_qlen P := sg_lt hB7 c_5 (by omega)
      refine lv_aload_n hx hb dX6_reserveForAll_12 rfl (lv_at hl 2 rfl) ?_
      refine lv_aload_n hx hb dX6_reserveForAll_13 rfl (lv_at hl 2 rfl) ?_
      refine va_get (D := D) (ci := 6) (v := .ref (a 71)) (C := RX6) (T := TX6) (N := 9) hx hb hts in6 hown hK hP 0 rfl rfl 8 (by decide) (hts (.fieldLink RX6 57 "Granary$Stock" "queue" "[I") (by decide +kernel)) (fun _ h9 => h9) rfl dX6_reserveForAll_14 ?_
      refine lv_iload_n hx hb dX6_reserveForAll_17 rfl (lv_at hl 0 rfl) ?_
      refine sg_iald hx hb hK hP 40 0 rfl rfl (j := j7) rfl (by omega) (Nat.le_of_ble_eq_true rfl) dX6_reserveForAll_18 ?_
      refine lv_toi (y := q1_3 j7) rfl ?_
      have h19 := b_4 j7 hL7
      have l19 : sg_qat P j7 < 60 := h19.2
      refine lv_toi (y := nI (sg_qat P j7)) h19.1 ?_
      have hPc : va_P D vwCl (sg_St cI cZ a P7 q1_3) H := hP
      have hDc : va_D A (sg_St cI cZ a P7 q1_3) := hD
      have hFc := va_free (wc := (sg_St cI cZ a P7 q1_3)) hD hS hA [0, 1, 2, 3, 4, 5, 6, 7, 8, 9, 10, 11, 12, 13, 14, 15, 16, 17, 18, 19, 20, 21, 22, 23, 24, 25, 26, 27, 28, 29, 30, 31, 32, 33, 34, 35, 36, 37, 38, 39, 40] rfl
      refine va_callv (va_runV (As := [.int (nI (sg_qat P j7))]) (rest := []) ⟨hx, hb, hml, hown, hts⟩ (c_reserveFor l D cI cZ cJ lo H.size a P7 q1_3 (sg_qat P j7) (hkP7.W hw) (by omega)) (cwV 1 hts gX6_reserveForAll_X6_reserveFor rfl rfl rfl (by decide +kernel) ⟨(Nat.le_of_ble_eq_true rfl), (Nat.le_of_ble_eq_true rfl)⟩) ⟨Pre.blind, va_recv hK hP (ci := 6) (q0 := 0) rfl rfl, Pre.mk hPc (hDc.weaken (fun _ _ _ h => hAlo _ h)) hC hS hAlo⟩ rfl rfl hl.1 rfl (lv_room (Nat.le_of_ble_eq_true rfl)) dX6_reserveForAll_19 ⟨(Nat.le_of_ble_eq_true rfl), (Nat.le_of_ble_eq_true rfl)⟩) hS (fun q _ h => hFc q h) hFc (fun u t H1 locs1 ht hvm e_6 hB hz1 hk1 hS1 => ?_)
      have hS := hS1
      obtain ⟨hP1, hD1⟩ := hB
      rw [ht] at hP1
      obtain ⟨hP, hD⟩ := va_join (wr := []) (w1 := (sg_St cI cZ a (sg_reserveFor P7 (sg_qat P j7)) q1_3)) hP hD [0, 1, 2, 3, 4, 5, 6, 7, 8, 9, 10, 11, 12, 13, 14, 15, 16, 17, 18, 19, 20, 21, 22, 23, 24, 25, 26, 27, 28, 29, 30, 31, 32, 33, 34, 35, 36, 37, 38, 39, 40] [] rfl rfl (by decide) (by decide) hk1 hFc hP1 hD1
      have e_6 : True := e_6
      clear hFc hPc hDc ht hvm hz1 hk1 hS1 hP1 hD1
      generalize H1 = H at hP hS ⊢
      replace hP : va_P D vwCl (sg_St cI cZ a (sg_reserveFor P7 (sg_qat P j7)) q1_3) H := hP
      replace hD : va_D A (sg_St cI cZ a (sg_reserveFor P7 (sg_qat P j7)) q1_3) := hD
      refine lv_iinc (v := nI (j7 + 1)) (lv' := [(2, .int (nI (j7 + 1))), (1, .int (nI (sg_qlen P))), (0, .ref (a 0))]) hx hb dX6_reserveForAll_22 hl (k := 0) rfl (nI_1 j7) (by decide) rfl (fun ls hl => ?_)
      refine lv_goto (tgt := 7) hx hb dX6_reserveForAll_25 (by decide) ?_
      have hl8 := hl; have hS8 := hS; have hD8 := hD; have hP8 := hP
      subst hP7
      exact ih7 (j7 + 1) (sg_reserveFor (sg_reserveForAll_7 P j7) (sg_qat P j7)) _ _ _ rfl (by omega) (by omega) (lv_sub hl8 [0, 1, 2] rfl) hS8 hD8 hP8

def sg_liveDays_2 (P : sg_Pic) (dn : Nat) : Nat → sg_Pic
  | 0 => P
  | j2 + 1 => (sg_countHolding (sg_reviewAll (sg_serveDueOrders (sg_reserveForAll (sg_takeArrivals (sg_wasteExpired (sg_up (sg_liveDays_2 P dn j2) 0 0 (((sg_liveDays_2 P dn j2) 0 0) + 1))))))))
theorem sg_liveDays_2_K (P : sg_Pic) (dn : Nat) : ∀ j : Nat, sg_KD (sg_liveDays_2 P dn j) P
  | 0 => by exact sg_KD.of ⟨rfl, rfl⟩
  | j + 1 => by
    have h := sg_liveDays_2_K P dn j
    rw [sg_liveDays_2]
    repeat' split
    all_goals first | (refine sg_KD.trans ?_ h; exact (sg_KD.of (sg_countHolding_K _)).trans ((sg_KD.of5 (sg_reviewAll_K _)).trans ((sg_KD.of (sg_serveDueOrders_K _)).trans ((sg_KD.of (sg_reserveForAll_K _)).trans ((sg_KD.of3 (sg_takeArrivals_K _)).trans ((sg_KD.of (sg_wasteExpired_K _)).trans ⟨rfl, rfl, rfl, rfl, fun h => h⟩)))))) | (refine sg_KD.trans ?_ h; exact sg_KD.of ⟨rfl, rfl⟩)

def sg_liveDays (P : sg_Pic) (dn : Nat) : sg_Pic := (sg_liveDays_2 P dn dn)

theorem sg_liveDays_K (P : sg_Pic) (dn : Nat) : sg_KD (sg_liveDays P dn) P := by
  unfold sg_liveDays
  repeat' split
  all_goals first | exact sg_KD.of ⟨rfl, rfl⟩ | exact sg_liveDays_2_K _ _ _
theorem sg_liveDays_W {P : sg_Pic} {dn : Nat} (hw : sg_W P) : sg_W (sg_liveDays P dn) := (sg_liveDays_K P dn).W hw

set_option maxHeartbeats 4000000 in
set_option maxRecDepth 100000 in
/-- X6_liveDays -/
theorem c_liveDays (l : Launch) (D : va_G) (cI cZ cJ : ClassId) (lo sz : Nat) (a : Nat → Nat) (P : sg_Pic) (q : Nat → Int32) (dn : Nat) (hw : sg_W P) (hdn : dn ≤ 30) : Met l yX6_liveDays wsX6_liveDays ({ frames := 5, cells := 0, slots := 0, locals := 123 }) (Pre lo D cI cZ cJ [.ref (a 0), .int (nI dn)] sz (sg_St cI cZ a P q)) (va_Qv (fun _ : Unit => True) (fun _ t => ∃ (q1 : Nat → Int32), va_P D vwCl (sg_St cI cZ a (sg_liveDays P dn) q1) t.heap ∧ va_D (va_A (sg_St cI cZ a P q) sz) (sg_St cI cZ a (sg_liveDays P dn) q1)) (va_A (sg_St cI cZ a P q) sz)) 0 0 (va_A (sg_St cI cZ a P q) sz) := by
  refine Met.ofW (cc := cX6_liveDays) (maxL := 3) (ret := none) (by decide) rfl ?_
  intro p e s m args below meth c s₁ B hml hv
  obtain ⟨rfl, hsz, hP, hD0, hC⟩ := hv
  have hx := B.exec
  have hb := B.bytes
  have hr := B.returns
  have hts := atoms_spec (ws := wsX6_liveDays) B.pre
  have hown : s.vm.findClass RX6 = some m.cls := findClass_of_methodNamed B.named
  have hlocks := B.notSynchronized
  subst hsz
  have hn1 : sg_cn P 1 ≤ 6 := hw.n1
  have hn2 : sg_cn P 2 ≤ 5 := hw.n2
  have hn3 : sg_cn P 3 ≤ 200 := hw.n3
  have hn4 : sg_cn P 4 ≤ 60 := hw.n4
  have hn5 : sg_cn P 5 ≤ 90 := hw.n5
  have hK := hC.K
  have hD := hD0.self (sz := s.heap.size)
  have hAlo0 := va_A_lo hD0 hC.1
  generalize hAe : va_A (sg_St cI cZ a P q) s.heap.size = A at hD hAlo0 ⊢
  have hA : ∀ q : Nat, s.heap.size ≤ q → A q := fun q h => by rw [← hAe]; exact Or.inr h
  have hAlo : ∀ q, A q → lo ≤ q := hAlo0
  have hS : va_S A s.heap s.heap [] := va_S.rf
  have hP : va_P D vwCl (sg_St cI cZ a P q) s.heap := hP
  have hl := lv_entry ([.ref (a 0), .int (nI dn)]) (n := 3) (Nat.le_of_ble_eq_true rfl)
  rw [lg_entry_eq]
  generalize (lg_sl ([.ref (a 0), .int (nI dn)]) ++ List.replicate (3 - (lg_sl ([.ref (a 0), .int (nI dn)])).length) Slot.unset).toArray = ls at hl ⊢
  have hl : lv_has ls 3 [(0, .ref (a 0)), (1, .int (nI dn))] := hl
  have in6 : ∀ w ∈ u_ws RX6 TX6 9, w ∈ wsX6_liveDays := by decide +kernel
  refine lv_iconst (v := 0) hx hb dX6_liveDays_0 (by decide) ?_
  refine lv_istore_n (lv' := [(2, .int 0), (0, .ref (a 0)), (1, .int (nI dn))]) hx hb dX6_liveDays_1 rfl hl (by decide) rfl (fun ls hl => ?_)
  obtain ⟨H, hH9⟩ : ∃ z : Heap, z = s.heap := ⟨_, rfl⟩
  replace hS : va_S A s.heap H [] := by rw [hH9]; exact va_S.rf
  replace hP : va_P D vwCl (sg_St cI cZ a P q) H := by rw [hH9]; exact hP
  rw [← hH9]
  clear hH9
  generalize ([] : List Loc) = locs at hS ⊢
  obtain ⟨j2, h0j2⟩ : ∃ j : Nat, j = 0 := ⟨_, rfl⟩
  obtain ⟨P2, hP2⟩ : ∃ z9 : sg_Pic, z9 = sg_liveDays_2 P dn j2 := ⟨_, rfl⟩
  replace hl : lv_has ls 3 [(2, .int (nI j2)), (0, .ref (a 0)), (1, .int (nI dn))] := by rw [h0j2]; exact hl
  replace hP : va_P D vwCl (sg_St cI cZ a P2 q) H := by rw [hP2, h0j2]; exact hP
  replace hD : va_D A (sg_St cI cZ a P2 q) := by rw [hP2, h0j2]; exact hD
  obtain ⟨q2, hq9⟩ : ∃ z9 : Nat → Int32, z9 = q := ⟨_, rfl⟩
  replace hP : va_P D vwCl (sg_St cI cZ a P2 q2) H := by rw [hq9]; exact hP
  replace hD : va_D A (sg_St cI cZ a P2 q2) := by rw [hq9]; exact hD
  clear hq9
  have hjj2 : j2 ≤ dn := by omega
  clear h0j2
  obtain ⟨n2, hn2⟩ : ∃ n : Nat, dn < j2 + n := ⟨dn + 1, by omega⟩
  revert hP
  revert hD
  revert hS
  revert hl
  revert hn2
  revert hjj2
  revert hP2
  revert ls
  revert locs
  revert H
  revert q2
  revert P2
  revert j2
  induction n2 with
  | zero =>
    intro j2 P2 q2 H locs ls hP2 hjj2 hn2 hl hS hD hP
    exact absurd hn2 (by omega)
  | succ n2 ih2 =>
    intro j2 P2 q2 H locs ls hP2 hjj2 hn2 hl hS hD hP
    refine lv_iload_n hx hb dX6_liveDays_2 rfl (lv_at hl 0 rfl) ?_
    refine lv_iload_n hx hb dX6_liveDays_3 rfl (lv_at hl 2 rfl) ?_
    have hkP2 : sg_KD P2 P := by rw [hP2]; exact sg_liveDays_2_K P dn j2
    have hB2 : ((nI dn) : Int32) = nI (dn) := rfl
    refine lv_icmp_ge (tgt := 47) hx hb dX6_liveDays_4 (by decide) (fun c_1 => ?_) (fun c_1 => ?_)
    · have hE2 : dn = j2 := (sg_eq hB2 c_1 hjj2 (by omega)).symm
      clear ih2 hn2
      subst hE2
      subst hP2
      refine W.widen (k := 0) (n := 0) (by omega) (by omega) ?_
      have hP9 : va_P D vwCl (sg_St cI cZ a (sg_liveDays P dn) q2) H := by exact hP
      have hD9 : va_D A (sg_St cI cZ a (sg_liveDays P dn) q2) := by exact hD
      exact W.vret hx hb hr (fun t ht hW => ⟨⟨(), rfl, trivial, q2, by rw [ht]; exact hP9, hD9⟩, hS.F ht⟩) hS.2.2 dX6_liveDays_47
    · have hL2 : j2 < dn := sg_lt hB2 c_1 (by omega)
      refine lv_aload_n hx hb dX6_liveDays_7 rfl (lv_at hl 1 rfl) ?_
      refine lv_dup hx hb dX6_liveDays_8 rfl ?_
      refine va_get (D := D) (ci := 6) (v := .int (P2 0 0)) (C := RX6) (T := TX6) (N := 9) hx hb hts in6 hown hK hP 0 rfl rfl 0 (by decide) (hts (.fieldLink RX6 60 "Granary$Stock" "day" "I") (by decide +kernel)) (fun _ h9 => h9) rfl dX6_liveDays_9 ?_
      refine lv_iconst (v := 1) hx hb dX6_liveDays_12 (by decide) ?_
      refine lv_iadd hx hb dX6_liveDays_13 ?_
      refine va_put (D := D) (ci := 6) (v := .int ((P2 0 0) + 1)) (ty := .int) (C := RX6) (T := TX6) (N := 9) hx hb hts in6 tyX6 tyX6_ok nmX6 hown hK hP hD hS 0 rfl rfl 0 (by decide) (hts (.fieldLink RX6 60 "Granary$Stock" "day" "I") (by decide +kernel)) (fun _ h9 => h9) rfl (by decide +kernel) rfl rfl (Nat.le_of_ble_eq_true rfl) dX6_liveDays_14 (fun H locs hP hD hS => ?_)
      replace hP : va_P D vwCl (sg_St cI cZ a (sg_up P2 0 0 ((P2 0 0) + 1)) q2) H := hP
      replace hD : va_D A (sg_St cI cZ a (sg_up P2 0 0 ((P2 0 0) + 1)) q2) := hD
      refine lv_aload_n hx hb dX6_liveDays_17 rfl (lv_at hl 1 rfl) ?_
      have hPc : va_P D vwCl (sg_St cI cZ a (sg_up P2 0 0 ((P2 0 0) + 1)) q2) H := hP
      have hDc : va_D A (sg_St cI cZ a (sg_up P2 0 0 ((P2 0 0) + 1)) q2) := hD
      have hFc := va_free (wc := (sg_St cI cZ a (sg_up P2 0 0 ((P2 0 0) + 1)) q2)) hD hS hA [0, 1, 2, 3, 4, 5, 6, 7, 8, 9, 10, 11, 12, 13, 14, 15, 16, 17, 18, 19, 20, 21, 22, 23, 24, 25, 26, 27, 28, 29, 30, 31, 32, 33, 34, 35, 36, 37, 38, 39, 40] rfl
      refine va_callv (va_runV (As := []) (rest := []) ⟨hx, hb, hml, hown, hts⟩ (c_wasteExpired l D cI cZ cJ lo H.size a (sg_up P2 0 0 ((P2 0 0) + 1)) q2 (hkP2.W hw)) (cwV 0 hts gX6_liveDays_X6_wasteExpired rfl rfl rfl (by decide +kernel) ⟨(Nat.le_of_ble_eq_true rfl), (Nat.le_of_ble_eq_true rfl)⟩) ⟨Pre.blind, va_recv hK hP (ci := 6) (q0 := 0) rfl rfl, Pre.mk hPc (hDc.weaken (fun _ _ _ h => hAlo _ h)) hC hS hAlo⟩ rfl rfl hl.1 rfl (lv_room (Nat.le_of_ble_eq_true rfl)) dX6_liveDays_18 ⟨(Nat.le_of_ble_eq_true rfl), (Nat.le_of_ble_eq_true rfl)⟩) hS (fun q _ h => hFc q h) hFc (fun u t H1 locs1 ht hvm e_2 hB hz1 hk1 hS1 => ?_)
      have hS := hS1
      obtain ⟨hP1, hD1⟩ := hB
      rw [ht] at hP1
      obtain ⟨hP, hD⟩ := va_join (wr := []) (w1 := (sg_St cI cZ a (sg_wasteExpired (sg_up P2 0 0 ((P2 0 0) + 1))) q2)) hP hD [0, 1, 2, 3, 4, 5, 6, 7, 8, 9, 10, 11, 12, 13, 14, 15, 16, 17, 18, 19, 20, 21, 22, 23, 24, 25, 26, 27, 28, 29, 30, 31, 32, 33, 34, 35, 36, 37, 38, 39, 40] [] rfl rfl (by decide) (by decide) hk1 hFc hP1 hD1
      have e_2 : True := e_2
      clear hFc hPc hDc ht hvm hz1 hk1 hS1 hP1 hD1
      generalize H1 = H at hP hS ⊢
      replace hP : va_P D vwCl (sg_St cI cZ a (sg_wasteExpired (sg_up P2 0 0 ((P2 0 0) + 1))) q2) H := hP
      replace hD : va_D A (sg_St cI cZ a (sg_wasteExpired (sg_up P2 0 0 ((P2 0 0) + 1))) q2) := hD
      refine lv_aload_n hx hb dX6_liveDays_21 rfl (lv_at hl 1 rfl) ?_
      have hPc : va_P D vwCl (sg_St cI cZ a (sg_wasteExpired (sg_up P2 0 0 ((P2 0 0) + 1))) q2) H := hP
      have hDc : va_D A (sg_St cI cZ a (sg_wasteExpired (sg_up P2 0 0 ((P2 0 0) + 1))) q2) := hD
      have hFc := va_free (wc := (sg_St cI cZ a (sg_wasteExpired (sg_up P2 0 0 ((P2 0 0) + 1))) q2)) hD hS hA [0, 1, 2, 3, 4, 5, 6, 7, 8, 9, 10, 11, 12, 13, 14, 15, 16, 17, 18, 19, 20, 21, 22, 23, 24, 25, 26, 27, 28, 29, 30, 31, 32, 33, 34, 35, 36, 37, 38, 39, 40] rfl
      refine va_callv (va_runV (As := []) (rest := []) ⟨hx, hb, hml, hown, hts⟩ (c_takeArrivals l D cI cZ cJ lo H.size a (sg_wasteExpired (sg_up P2 0 0 ((P2 0 0) + 1))) q2 (sg_wasteExpired_W (hkP2.W hw))) (cwV 0 hts gX6_liveDays_X6_takeArrivals rfl rfl rfl (by decide +kernel) ⟨(Nat.le_of_ble_eq_true rfl), (Nat.le_of_ble_eq_true rfl)⟩) ⟨Pre.blind, va_recv hK hP (ci := 6) (q0 := 0) rfl rfl, Pre.mk hPc (hDc.weaken (fun _ _ _ h => hAlo _ h)) hC hS hAlo⟩ rfl rfl hl.1 rfl (lv_room (Nat.le_of_ble_eq_true rfl)) dX6_liveDays_22 ⟨(Nat.le_of_ble_eq_true rfl), (Nat.le_of_ble_eq_true rfl)⟩) hS (fun q _ h => hFc q h) hFc (fun u t H1 locs1 ht hvm e_3 hB hz1 hk1 hS1 => ?_)
      have hS := hS1
      obtain ⟨hP1, hD1⟩ := hB
      rw [ht] at hP1
      obtain ⟨hP, hD⟩ := va_join (wr := []) (w1 := (sg_St cI cZ a (sg_takeArrivals (sg_wasteExpired (sg_up P2 0 0 ((P2 0 0) + 1)))) q2)) hP hD [0, 1, 2, 3, 4, 5, 6, 7, 8, 9, 10, 11, 12, 13, 14, 15, 16, 17, 18, 19, 20, 21, 22, 23, 24, 25, 26, 27, 28, 29, 30, 31, 32, 33, 34, 35, 36, 37, 38, 39, 40] [] rfl rfl (by decide) (by decide) hk1 hFc hP1 hD1
      have e_3 : True := e_3
      clear hFc hPc hDc ht hvm hz1 hk1 hS1 hP1 hD1
      generalize H1 = H at hP hS ⊢
      replace hP : va_P D vwCl (sg_St cI cZ a (sg_takeArrivals (sg_wasteExpired (sg_up P2 0 0 ((P2 0 0) + 1)))) q2) H := hP
      replace hD : va_D A (sg_St cI cZ a (sg_takeArrivals (sg_wasteExpired (sg_up P2 0 0 ((P2 0 0) + 1)))) q2) := hD
      refine lv_aload_n hx hb dX6_liveDays_25 rfl (lv_at hl 1 rfl) ?_
      have hPc : va_P D vwCl (sg_St cI cZ a (sg_takeArrivals (sg_wasteExpired (sg_up P2 0 0 ((P2 0 0) + 1)))) q2) H := hP
      have hDc : va_D A (sg_St cI cZ a (sg_takeArrivals (sg_wasteExpired (sg_up P2 0 0 ((P2 0 0) + 1)))) q2) := hD
      have hFc := va_free (wc := (sg_St cI cZ a (sg_takeArrivals (sg_wasteExpired (sg_up P2 0 0 ((P2 0 0) + 1)))) q2)) hD hS hA [0, 1, 2, 3, 4, 5, 6, 7, 8, 9, 10, 11, 12, 13, 14, 15, 16, 17, 18, 19, 20, 21, 22, 23, 24, 25, 26, 27, 28, 29, 30, 31, 32, 33, 34, 35, 36, 37, 38, 39, 40] rfl
      refine va_callv (va_runV (As := []) (rest := []) ⟨hx, hb, hml, hown, hts⟩ (c_reserveForAll l D cI cZ cJ lo H.size a (sg_takeArrivals (sg_wasteExpired (sg_up P2 0 0 ((P2 0 0) + 1)))) q2 (sg_takeArrivals_W (sg_wasteExpired_W (hkP2.W hw)))) (cwV 0 hts gX6_liveDays_X6_reserveForAll rfl rfl rfl (by decide +kernel) ⟨(Nat.le_of_ble_eq_true rfl), (Nat.le_of_ble_eq_true rfl)⟩) ⟨Pre.blind, va_recv hK hP (ci := 6) (q0 := 0) rfl rfl, Pre.mk hPc (hDc.weaken (fun _ _ _ h => hAlo _ h)) hC hS hAlo⟩ rfl rfl hl.1 rfl (lv_room (Nat.le_of_ble_eq_true rfl)) dX6_liveDays_26 ⟨(Nat.le_of_ble_eq_true rfl), (Nat.le_of_ble_eq_true rfl)⟩) hS (fun q _ h => hFc q h) hFc (fun u t H1 locs1 ht hvm e_4 hB hz1 hk1 hS1 => ?_)
      have hS := hS1
      obtain ⟨q1_5, hP1, hD1⟩ := hB
      rw [ht] at hP1
      obtain ⟨hP, hD⟩ := va_join (wr := []) (w1 := (sg_St cI cZ a (sg_reserveForAll (sg_takeArrivals (sg_wasteExpired (sg_up P2 0 0 ((P2 0 0) + 1))))) q1_5)) hP hD [0, 1, 2, 3, 4, 5, 6, 7, 8, 9, 10, 11, 12, 13, 14, 15, 16, 17, 18, 19, 20, 21, 22, 23, 24, 25, 26, 27, 28, 29, 30, 31, 32, 33, 34, 35, 36, 37, 38, 39, 40] [] rfl rfl (by decide) (by decide) hk1 hFc hP1 hD1
      have e_4 : True := e_4
      clear hFc hPc hDc ht hvm hz1 hk1 hS1 hP1 hD1
      generalize H1 = H at hP hS ⊢
      replace hP : va_P D vwCl (sg_St cI cZ a (sg_reserveForAll (sg_takeArrivals (sg_wasteExpired (sg_up P2 0 0 ((P2 0 0) + 1))))) q1_5) H := hP
      replace hD : va_D A (sg_St cI cZ a (sg_reserveForAll (sg_takeArrivals (sg_wasteExpired (sg_up P2 0 0 ((P2 0 0) + 1))))) q1_5) := hD
      refine lv_aload_n hx hb dX6_liveDays_29 rfl (lv_at hl 1 rfl) ?_
      have hPc : va_P D vwCl (sg_St cI cZ a (sg_reserveForAll (sg_takeArrivals (sg_wasteExpired (sg_up P2 0 0 ((P2 0 0) + 1))))) q1_5) H := hP
      have hDc : va_D A (sg_St cI cZ a (sg_reserveForAll (sg_takeArrivals (sg_wasteExpired (sg_up P2 0 0 ((P2 0 0) + 1))))) q1_5) := hD
      have hFc := va_free (wc := (sg_St cI cZ a (sg_reserveForAll (sg_takeArrivals (sg_wasteExpired (sg_up P2 0 0 ((P2 0 0) + 1))))) q1_5)) hD hS hA [0, 1, 2, 3, 4, 5, 6, 7, 8, 9, 10, 11, 12, 13, 14, 15, 16, 17, 18, 19, 20, 21, 22, 23, 24, 25, 26, 27, 28, 29, 30, 31, 32, 33, 34, 35, 36, 37, 38, 39, 40] rfl
      refine va_callv (va_runV (As := []) (rest := []) ⟨hx, hb, hml, hown, hts⟩ (c_serveDueOrders l D cI cZ cJ lo H.size a (sg_reserveForAll (sg_takeArrivals (sg_wasteExpired (sg_up P2 0 0 ((P2 0 0) + 1))))) q1_5 (sg_reserveForAll_W (sg_takeArrivals_W (sg_wasteExpired_W (hkP2.W hw))))) (cwV 0 hts gX6_liveDays_X6_serveDueOrders rfl rfl rfl (by decide +kernel) ⟨(Nat.le_of_ble_eq_true rfl), (Nat.le_of_ble_eq_true rfl)⟩) ⟨Pre.blind, va_recv hK hP (ci := 6) (q0 := 0) rfl rfl, Pre.mk hPc (hDc.weaken (fun _ _ _ h => hAlo _ h)) hC hS hAlo⟩ rfl rfl hl.1 rfl (lv_room (Nat.le_of_ble_eq_true rfl)) dX6_liveDays_30 ⟨(Nat.le_of_ble_eq_true rfl), (Nat.le_of_ble_eq_true rfl)⟩) hS (fun q _ h => hFc q h) hFc (fun u t H1 locs1 ht hvm e_6 hB hz1 hk1 hS1 => ?_)
      have hS := hS1
      obtain ⟨hP1, hD1⟩ := hB
      rw [ht] at hP1
      obtain ⟨hP, hD⟩ := va_join (wr := []) (w1 := (sg_St cI cZ a (sg_serveDueOrders (sg_reserveForAll (sg_takeArrivals (sg_wasteExpired (sg_up P2 0 0 ((P2 0 0) + 1)))))) q1_5)) hP hD [0, 1, 2, 3, 4, 5, 6, 7, 8, 9, 10, 11, 12, 13, 14, 15, 16, 17, 18, 19, 20, 21, 22, 23, 24, 25, 26, 27, 28, 29, 30, 31, 32, 33, 34, 35, 36, 37, 38, 39, 40] [] rfl rfl (by decide) (by decide) hk1 hFc hP1 hD1
      have e_6 : True := e_6
      clear hFc hPc hDc ht hvm hz1 hk1 hS1 hP1 hD1
      generalize H1 = H at hP hS ⊢
      replace hP : va_P D vwCl (sg_St cI cZ a (sg_serveDueOrders (sg_reserveForAll (sg_takeArrivals (sg_wasteExpired (sg_up P2 0 0 ((P2 0 0) + 1)))))) q1_5) H := hP
      replace hD : va_D A (sg_St cI cZ a (sg_serveDueOrders (sg_reserveForAll (sg_takeArrivals (sg_wasteExpired (sg_up P2 0 0 ((P2 0 0) + 1)))))) q1_5) := hD
      refine lv_aload_n hx hb dX6_liveDays_33 rfl (lv_at hl 1 rfl) ?_
      have hPc : va_P D vwCl (sg_St cI cZ a (sg_serveDueOrders (sg_reserveForAll (sg_takeArrivals (sg_wasteExpired (sg_up P2 0 0 ((P2 0 0) + 1)))))) q1_5) H := hP
      have hDc : va_D A (sg_St cI cZ a (sg_serveDueOrders (sg_reserveForAll (sg_takeArrivals (sg_wasteExpired (sg_up P2 0 0 ((P2 0 0) + 1)))))) q1_5) := hD
      have hFc := va_free (wc := (sg_St cI cZ a (sg_serveDueOrders (sg_reserveForAll (sg_takeArrivals (sg_wasteExpired (sg_up P2 0 0 ((P2 0 0) + 1)))))) q1_5)) hD hS hA [0, 1, 2, 3, 4, 5, 6, 7, 8, 9, 10, 11, 12, 13, 14, 15, 16, 17, 18, 19, 20, 21, 22, 23, 24, 25, 26, 27, 28, 29, 30, 31, 32, 33, 34, 35, 36, 37, 38, 39, 40] rfl
      refine va_callv (va_runV (As := []) (rest := []) ⟨hx, hb, hml, hown, hts⟩ (c_reviewAll l D cI cZ cJ lo H.size a (sg_serveDueOrders (sg_reserveForAll (sg_takeArrivals (sg_wasteExpired (sg_up P2 0 0 ((P2 0 0) + 1)))))) q1_5 (sg_serveDueOrders_W (sg_reserveForAll_W (sg_takeArrivals_W (sg_wasteExpired_W (hkP2.W hw)))))) (cwV 0 hts gX6_liveDays_X6_reviewAll rfl rfl rfl (by decide +kernel) ⟨(Nat.le_of_ble_eq_true rfl), (Nat.le_of_ble_eq_true rfl)⟩) ⟨Pre.blind, va_recv hK hP (ci := 6) (q0 := 0) rfl rfl, Pre.mk hPc (hDc.weaken (fun _ _ _ h => hAlo _ h)) hC hS hAlo⟩ rfl rfl hl.1 rfl (lv_room (Nat.le_of_ble_eq_true rfl)) dX6_liveDays_34 ⟨(Nat.le_of_ble_eq_true rfl), (Nat.le_of_ble_eq_true rfl)⟩) hS (fun q _ h => hFc q h) hFc (fun u t H1 locs1 ht hvm e_7 hB hz1 hk1 hS1 => ?_)
      have hS := hS1
      obtain ⟨hP1, hD1⟩ := hB
      rw [ht] at hP1
      obtain ⟨hP, hD⟩ := va_join (wr := []) (w1 := (sg_St cI cZ a (sg_reviewAll (sg_serveDueOrders (sg_reserveForAll (sg_takeArrivals (sg_wasteExpired (sg_up P2 0 0 ((P2 0 0) + 1))))))) q1_5)) hP hD [0, 1, 2, 3, 4, 5, 6, 7, 8, 9, 10, 11, 12, 13, 14, 15, 16, 17, 18, 19, 20, 21, 22, 23, 24, 25, 26, 27, 28, 29, 30, 31, 32, 33, 34, 35, 36, 37, 38, 39, 40] [] rfl rfl (by decide) (by decide) hk1 hFc hP1 hD1
      have e_7 : True := e_7
      clear hFc hPc hDc ht hvm hz1 hk1 hS1 hP1 hD1
      generalize H1 = H at hP hS ⊢
      replace hP : va_P D vwCl (sg_St cI cZ a (sg_reviewAll (sg_serveDueOrders (sg_reserveForAll (sg_takeArrivals (sg_wasteExpired (sg_up P2 0 0 ((P2 0 0) + 1))))))) q1_5) H := hP
      replace hD : va_D A (sg_St cI cZ a (sg_reviewAll (sg_serveDueOrders (sg_reserveForAll (sg_takeArrivals (sg_wasteExpired (sg_up P2 0 0 ((P2 0 0) + 1))))))) q1_5) := hD
      refine lv_aload_n hx hb dX6_liveDays_37 rfl (lv_at hl 1 rfl) ?_
      have hPc : va_P D vwCl (sg_St cI cZ a (sg_reviewAll (sg_serveDueOrders (sg_reserveForAll (sg_takeArrivals (sg_wasteExpired (sg_up P2 0 0 ((P2 0 0) + 1))))))) q1_5) H := hP
      have hDc : va_D A (sg_St cI cZ a (sg_reviewAll (sg_serveDueOrders (sg_reserveForAll (sg_takeArrivals (sg_wasteExpired (sg_up P2 0 0 ((P2 0 0) + 1))))))) q1_5) := hD
      have hFc := va_free (wc := (sg_St cI cZ a (sg_reviewAll (sg_serveDueOrders (sg_reserveForAll (sg_takeArrivals (sg_wasteExpired (sg_up P2 0 0 ((P2 0 0) + 1))))))) q1_5)) hD hS hA [0, 1, 2, 3, 4, 5, 6, 7, 8, 9, 10, 11, 12, 13, 14, 15, 16, 17, 18, 19, 20, 21, 22, 23, 24, 25, 26, 27, 28, 29, 30, 31, 32, 33, 34, 35, 36, 37, 38, 39, 40] rfl
      refine va_callv (va_runV (As := []) (rest := []) ⟨hx, hb, hml, hown, hts⟩ (c_countHolding l D cI cZ cJ lo H.size a (sg_reviewAll (sg_serveDueOrders (sg_reserveForAll (sg_takeArrivals (sg_wasteExpired (sg_up P2 0 0 ((P2 0 0) + 1))))))) q1_5 (sg_reviewAll_W (sg_serveDueOrders_W (sg_reserveForAll_W (sg_takeArrivals_W (sg_wasteExpired_W (hkP2.W hw))))))) (cwV 0 hts gX6_liveDays_X6_countHolding rfl rfl rfl (by decide +kernel) ⟨(Nat.le_of_ble_eq_true rfl), (Nat.le_of_ble_eq_true rfl)⟩) ⟨Pre.blind, va_recv hK hP (ci := 6) (q0 := 0) rfl rfl, Pre.mk hPc (hDc.weaken (fun _ _ _ h => hAlo _ h)) hC hS hAlo⟩ rfl rfl hl.1 rfl (lv_room (Nat.le_of_ble_eq_true rfl)) dX6_liveDays_38 ⟨(Nat.le_of_ble_eq_true rfl), (Nat.le_of_ble_eq_true rfl)⟩) hS (fun q _ h => hFc q h) hFc (fun u t H1 locs1 ht hvm e_8 hB hz1 hk1 hS1 => ?_)
      have hS := hS1
      obtain ⟨hP1, hD1⟩ := hB
      rw [ht] at hP1
      obtain ⟨hP, hD⟩ := va_join (wr := []) (w1 := (sg_St cI cZ a (sg_countHolding (sg_reviewAll (sg_serveDueOrders (sg_reserveForAll (sg_takeArrivals (sg_wasteExpired (sg_up P2 0 0 ((P2 0 0) + 1)))))))) q1_5)) hP hD [0, 1, 2, 3, 4, 5, 6, 7, 8, 9, 10, 11, 12, 13, 14, 15, 16, 17, 18, 19, 20, 21, 22, 23, 24, 25, 26, 27, 28, 29, 30, 31, 32, 33, 34, 35, 36, 37, 38, 39, 40] [] rfl rfl (by decide) (by decide) hk1 hFc hP1 hD1
      have e_8 : True := e_8
      clear hFc hPc hDc ht hvm hz1 hk1 hS1 hP1 hD1
      generalize H1 = H at hP hS ⊢
      replace hP : va_P D vwCl (sg_St cI cZ a (sg_countHolding (sg_reviewAll (sg_serveDueOrders (sg_reserveForAll (sg_takeArrivals (sg_wasteExpired (sg_up P2 0 0 ((P2 0 0) + 1)))))))) q1_5) H := hP
      replace hD : va_D A (sg_St cI cZ a (sg_countHolding (sg_reviewAll (sg_serveDueOrders (sg_reserveForAll (sg_takeArrivals (sg_wasteExpired (sg_up P2 0 0 ((P2 0 0) + 1)))))))) q1_5) := hD
      refine lv_iinc (v := nI (j2 + 1)) (lv' := [(2, .int (nI (j2 + 1))), (0, .ref (a 0)), (1, .int (nI dn))]) hx hb dX6_liveDays_41 hl (k := 0) rfl (nI_1 j2) (by decide) rfl (fun ls hl => ?_)
      refine lv_goto (tgt := 2) hx hb dX6_liveDays_44 (by decide) ?_
      have hl8 := hl; have hS8 := hS; have hD8 := hD; have hP8 := hP
      subst hP2
      exact ih2 (j2 + 1) (sg_countHolding (sg_reviewAll (sg_serveDueOrders (sg_reserveForAll (sg_takeArrivals (sg_wasteExpired (sg_up (sg_liveDays_2 P dn j2) 0 0 (((sg_liveDays_2 P dn j2) 0 0) + 1)))))))) q1_5 _ _ _ rfl (by omega) (by omega) (lv_sub hl8 [0, 1, 2] rfl) hS8 hD8 hP8

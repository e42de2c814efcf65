/-- what stands behind the lots' part of a shipment -/
def sg_T4 (R : sg_Pic) (o : Nat) (v : Int32) : sg_Pic := sg_up (sg_up (sg_up R 57 o 1) 58 o (R 0 0)) 70 4 v
theorem sg_T4_V {k d : Nat} {P R : sg_Pic} {o : Nat} {v : Int32} (h : sg_V k d P) (ha : sg_LA P) (hd : d ≤ 1000) (ho : o < sg_cn P 4) (h0 : P 57 o = 0) (hr : sg_RI R) (hl : sg_LI R) (hs : sg_SI R) (haR : sg_LA R) (hm : sg_ML R = sg_ML P - (P 52 o).toInt * sg_pr P (P 50 o)) (hz : ∀ x, x < 200 → sg_h R o x = 0) (hf : ∀ r, r ≠ 42 → r ≠ 43 → r ≠ 53 → r ≠ 59 → R r = P r) (hv : v.toInt = (P 70 4).toInt + 2 * ((P 52 o).toInt * sg_pr P (P 50 o))) : sg_V k d (sg_T4 R o v) ∧ sg_LA (sg_T4 R o v) := by
  have h4 := h.W.n4
  have f0 := hf 0 (by decide) (by decide) (by decide) (by decide)
  have f11 := hf 11 (by decide) (by decide) (by decide) (by decide)
  have f50 := hf 50 (by decide) (by decide) (by decide) (by decide)
  have f52 := hf 52 (by decide) (by decide) (by decide) (by decide)
  have f57 := hf 57 (by decide) (by decide) (by decide) (by decide)
  have f58 := hf 58 (by decide) (by decide) (by decide) (by decide)
  have f70 := hf 70 (by decide) (by decide) (by decide) (by decide)
  have f65 := hf 65 (by decide) (by decide) (by decide) (by decide)
  have f60 := hf 60 (by decide) (by decide) (by decide) (by decide)
  have f61 := hf 61 (by decide) (by decide) (by decide) (by decide)
  have f62 := hf 62 (by decide) (by decide) (by decide) (by decide)
  have f64 := hf 64 (by decide) (by decide) (by decide) (by decide)
  have f30 := hf 30 (by decide) (by decide) (by decide) (by decide)
  have pe : ∀ x, sg_pr R x = sg_pr P x := sg_pr_ext (by rw [f0]) f11
  have hWR : sg_W R := by
    unfold sg_W
    rw [f0, f30]
    exact h.W
  have ce : ∀ k, sg_cn R k = sg_cn P k := fun k => by
    unfold sg_cn
    rw [f0]
  have eMT : sg_MT R = sg_MT P := sg_sum_congr 90 (fun t _ => by rw [f65, f62, f60, pe])
  have emv : sg_mv R = sg_mv P := sg_sum_congr 90 (fun t _ => by rw [f65])
  have eME : sg_ME R = sg_ME P := sg_sum_congr 60 (fun t _ => by rw [f57, f52, f50, pe])
  have eME2 : sg_ME (sg_up R 57 o 1) = sg_ME P + (P 52 o).toInt * sg_pr P (P 50 o) := by
    rw [sg_57_ME (by omega) (by rw [f57]; exact h0), eME, f52, f50, pe]
  refine ⟨⟨hWR, sg_57_RI hr hz, ⟨?_, hl, ?_, hs, ?_, ?_, ?_, ?_⟩, ?_, ?_⟩, haR⟩
  · have q := h.PI
    unfold sg_PI at q ⊢
    show (∀ i, i < 6 → (0 ≤ (R 11 i).toInt ∧ (R 11 i).toInt ≤ 20) ∧ (0 ≤ (R 12 i).toInt ∧ (R 12 i).toInt ≤ 20) ∧ (0 ≤ (R 10 i).toInt ∧ (R 10 i).toInt ≤ 99)) ∧ (∀ k, k < 30 → (0 ≤ (R 31 k).toInt ∧ (R 31 k).toInt ≤ (R 32 k).toInt) ∧ (0 ≤ (R 32 k).toInt ∧ (R 32 k).toInt ≤ 20) ∧ (0 ≤ (R 34 k).toInt ∧ (R 34 k).toInt ≤ 20)) ∧ (∀ k, k < 25 → 0 ≤ (R 21 k).toInt ∧ (R 21 k).toInt ≤ 9)
    rw [f11, hf 12 (by decide) (by decide) (by decide) (by decide), hf 10 (by decide) (by decide) (by decide) (by decide), hf 31 (by decide) (by decide) (by decide) (by decide), hf 32 (by decide) (by decide) (by decide) (by decide), hf 34 (by decide) (by decide) (by decide) (by decide), hf 21 (by decide) (by decide) (by decide) (by decide)]
    exact q
  · have q : sg_TI R := by
      have q := h.TI
      unfold sg_TI at q ⊢
      rw [ce, ce, ce, f60, f61, f62, f64, f65]
      exact q
    exact q
  · refine ⟨fun o1 ho1 => ?_, fun o1 c1 c2 => ?_⟩
    rotate_left
    · show upd (R 57) o 1 o1 = 0
      have c3 : sg_cn P 4 ≤ o1 := by
        rw [← ce 4]
        exact c1
      rw [pk_un (by omega), f57]
      exact h.OI.2 o1 c3 c2
    have ho2 : o1 < sg_cn P 4 := by
      rw [← ce 4]
      exact ho1
    show (upd (R 57) o 1 o1 = 0 ∨ upd (R 57) o 1 o1 = 1) ∧ (upd (R 57) o 1 o1 = 1 ↔ 0 ≤ (upd (R 58) o (R 0 0) o1).toInt)
    by_cases c : o1 = o
    · subst c
      rw [pk_us, pk_us, f0, show P 0 0 = nI d from h.DI, nI_toInt (by omega)]
      exact ⟨Or.inr rfl, ⟨fun _ => by omega, fun _ => rfl⟩⟩
    · rw [pk_un c, pk_un c, f57, f58]
      exact h.OI.1 o1 ho2
  · show (upd (R 70) 4 v 4).toInt = 2 * sg_ME (sg_up R 57 o 1)
    rw [pk_us, eME2, hv, h.MI.1]
    omega
  · show (upd (R 70) 4 v 3).toInt = sg_ML R + sg_MT R + sg_ME (sg_up R 57 o 1) + (upd (R 70) 4 v 1).toInt
    rw [pk_un (by decide), pk_un (by decide), eME2, hm, eMT, f70, h.MI.2.1]
    omega
  · show 0 ≤ (upd (R 70) 4 v 1).toInt
    rw [pk_un (by decide), f70]
    exact h.MI.2.2
  · have q := h.CI
    refine ⟨?_, ?_, ?_⟩
    · show (sg_cn R 3 : Int) + sg_mv R ≤ (k : Int) + (sg_cn R 5 : Int)
      rw [ce, ce, emv]
      exact q.1
    · show sg_cn R 4 ≤ k ∧ k ≤ 50
      rw [ce]
      exact q.2.1
    · show (upd (R 70) 4 v 3).toInt ≤ 26000 * ((k : Int) + (sg_cn R 5 : Int))
      rw [pk_un (by decide), f70, ce]
      exact q.2.2
  · show R 0 0 = nI d
    rw [f0]
    exact h.DI
theorem sg_shipOrder_V {k d : Nat} {P : sg_Pic} {o : Nat} (h : sg_V k d P) (ha : sg_LA P) (hd : d ≤ 1000) (ho : o < sg_cn P 4) (h0 : P 57 o = 0) (hm : sg_missing P o = 0) : sg_V k d (sg_shipOrder P o) ∧ sg_LA (sg_shipOrder P o) ∧ (sg_shipOrder P o 70 0 = P 70 0 ∧ sg_shipOrder P o 70 2 = P 70 2) := by
  have h4 := h.W.n4
  have h3 := h.W.n3
  have h5 := h.W.n5
  obtain ⟨i1, i2, i3, i4, i5, i6, i7, i8⟩ := sg_so2 h.W h.R h.LI h.SI ha (show o < 60 by omega) (sg_cn P 3) h3
  have f0 := i8 0 (by decide) (by decide) (by decide) (by decide)
  have f11 := i8 11 (by decide) (by decide) (by decide) (by decide)
  have f50 := i8 50 (by decide) (by decide) (by decide) (by decide)
  have f52 := i8 52 (by decide) (by decide) (by decide) (by decide)
  have f70 := i8 70 (by decide) (by decide) (by decide) (by decide)
  -- all that was held is what the order is for
  have e1 : (P 53 o).toInt = (P 52 o).toInt := by
    have q := sg_missing_v h.R (show o < 60 by omega)
    rw [hm, sg_z0] at q
    omega
  have e2 : sg_sum (fun x => sg_h P o x) (sg_cn P 3) = (P 52 o).toInt := by
    rw [← e1, h.R.2.1 o (by omega)]
    have t := sg_sum_tail (f := fun x => sg_h P o x) (n := sg_cn P 3) (200 - sg_cn P 3) (fun i c1 c2 => by
      by_cases e : sg_h P o i = 0
      · exact e
      · have q := (h.R.2.2.2.1 o i (by omega) (by omega) e).2.2.2.2
        omega)
    rw [show sg_cn P 3 + (200 - sg_cn P 3) = 200 by omega] at t
    exact t.symm
  rw [e2] at i5
  have hz : ∀ x, x < 200 → sg_h (sg_shipOrder_2 P o (sg_cn P 3)) o x = 0 := fun x hx => by
    by_cases c : x < sg_cn P 3
    · exact i6 x c
    · rw [i7 x (by omega) hx]
      by_cases e : sg_h P o x = 0
      · exact e
      · have q := (h.R.2.2.2.1 o x (by omega) hx e).2.2.2.2
        omega
  have hp := sg_pr_b h.W h.PI (P 50 o)
  have hu := (h.R.2.2.2.2.2 o (by omega))
  have hu0 := h.R.on (show o < 60 by omega)
  have b0 : 0 ≤ (P 52 o).toInt * sg_pr P (P 50 o) := Int.mul_nonneg (by omega) hp.1
  have b1 : (P 52 o).toInt * sg_pr P (P 50 o) ≤ 20 * 20 := Int.mul_le_mul hu.2 hp.2 hp.1 (by decide)
  have m2 := sg_ML_nn h.W h.PI h.R
  have m3 := sg_MT_nn h.W h.PI h.TI
  have m4 := h.MI.2.1
  have m5 := h.MI.2.2
  have m6 := sg_ME_nn h.W h.PI h.R
  have hc := h.CI
  have hk := hc.2.1.2
  have hA := hc.2.2
  have e3 : ((P 52 o) * 2).toInt = (P 52 o).toInt * 2 := sg_mul (by show -2147483648 ≤ (P 52 o).toInt * 2; omega) (by show (P 52 o).toInt * 2 ≤ _; omega)
  -- the text of the shipment
  unfold sg_shipOrder
  generalize sg_shipOrder_2 P o (sg_cn P 3) = R at i1 i2 i3 i4 i5 i6 i7 i8 f0 f11 f50 f52 f70 hz ⊢
  have ep : (sg_priceOf (sg_up (sg_up R 57 o 1) 58 o (R 0 0)) (R 50 o)).toInt = sg_pr P (P 50 o) := by
    have q : sg_pr R (R 50 o) = sg_pr P (R 50 o) := sg_pr_ext (by rw [f0]) f11 _
    rw [f50] at q
    rw [f50]
    exact q
  have ev : ((R 70 4) + (((R 52 o) * 2) * (sg_priceOf (sg_up (sg_up R 57 o 1) 58 o (R 0 0)) (R 50 o)))).toInt = (P 70 4).toInt + 2 * ((P 52 o).toInt * sg_pr P (P 50 o)) := by
    have e4 : (((R 52 o) * 2) * (sg_priceOf (sg_up (sg_up R 57 o 1) 58 o (R 0 0)) (R 50 o))).toInt = 2 * ((P 52 o).toInt * sg_pr P (P 50 o)) := by
      have e5 : (P 52 o).toInt * 2 * sg_pr P (P 50 o) = 2 * ((P 52 o).toInt * sg_pr P (P 50 o)) := by
        rw [Int.mul_comm (P 52 o).toInt 2, Int.mul_assoc]
      rw [f52, sg_mul (by rw [e3, ep, e5]; omega) (by rw [e3, ep, e5]; omega), e3, ep, e5]
    have eM := h.MI.1
    rw [f70, sg_add (by rw [e4]; omega) (by rw [e4]; omega), e4]
  generalize ((R 70 4) + (((R 52 o) * 2) * (sg_priceOf (sg_up (sg_up R 57 o 1) 58 o (R 0 0)) (R 50 o)))) = v at ev ⊢
  obtain ⟨g1, g2⟩ := sg_T4_V h ha hd ho h0 i1 i2 i3 i4 i5 hz i8 ev
  split
  · refine ⟨g1, g2, ?_, ?_⟩
    · show upd (R 70) 4 v 0 = P 70 0
      rw [pk_un (by decide), f70]
    · show upd (R 70) 4 v 2 = P 70 2
      rw [pk_un (by decide), f70]
  · refine ⟨g1, g2, ?_, ?_⟩
    · show upd (R 70) 4 v 0 = P 70 0
      rw [pk_un (by decide), f70]
    · show upd (R 70) 4 v 2 = P 70 2
      rw [pk_un (by decide), f70]
theorem sg_sd_V {k d : Nat} {P : sg_Pic} (h : sg_V k d P) (ha : sg_LA P) (hd : d ≤ 1000) (hA : 0 ≤ (P 70 2).toInt ∧ (P 70 2).toInt ≤ 2000000) : ∀ j, j ≤ sg_cn P 4 → sg_V k d (sg_serveDueOrders_2 P j) ∧ sg_LA (sg_serveDueOrders_2 P j) ∧ sg_serveDueOrders_2 P j 70 0 = P 70 0 ∧ (P 70 2).toInt ≤ (sg_serveDueOrders_2 P j 70 2).toInt ∧ (sg_serveDueOrders_2 P j 70 2).toInt ≤ (P 70 2).toInt + 20 * (j : Int)
  | 0, _ => ⟨h, ha, rfl, Int.le_refl _, by show (P 70 2).toInt ≤ _; omega⟩
  | j + 1, hj => by
    have h4 := h.W.n4
    obtain ⟨i1, i2, i3, i4, i5⟩ := sg_sd_V h ha hd hA j (by omega)
    have k0 : sg_K (sg_serveDueOrders_2 P j) P := sg_serveDueOrders_2_K _ _
    have e4 := k0.c 4
    rw [sg_serveDueOrders_2]
    generalize sg_serveDueOrders_2 P j = R at i1 i2 i3 i4 i5 e4 ⊢
    by_cases c1 : R 57 j = 0
    · rw [if_pos c1]
      by_cases c2 : R 0 0 < R 54 j
      · rw [if_pos c2]
        exact ⟨i1, i2, i3, i4, by omega⟩
      · rw [if_neg c2]
        by_cases c3 : sg_missing R j = 0
        · rw [if_pos c3]
          obtain ⟨g1, g2, g3⟩ := sg_shipOrder_V i1 i2 hd (by omega) c1 c3
          exact ⟨g1, g2, g3.1.trans i3, by rw [g3.2]; exact i4, by rw [g3.2]; omega⟩
        · rw [if_neg c3]
          have em := sg_missing_v i1.R (show j < 60 by omega)
          have b1 := i1.R.2.2.2.2.2 j (by omega)
          have b2 := i1.R.on (show j < 60 by omega)
          have e2 : ((R 70 2) + (sg_missing R j)).toInt = (R 70 2).toInt + (sg_missing R j).toInt := sg_add (by omega) (by omega)
          refine ⟨⟨i1.W, i1.R, ⟨i1.PI, i1.LI, i1.TI, i1.SI, i1.OI, ?_⟩, ?_, i1.DI⟩, i2, ?_, ?_, ?_⟩
          · exact i1.MI
          · exact i1.CI
          · show upd (R 70) 2 _ 0 = P 70 0
            rw [pk_un (by decide)]
            exact i3
          · show (P 70 2).toInt ≤ (upd (R 70) 2 _ 2).toInt
            rw [pk_us, e2]
            omega
          · show (upd (R 70) 2 _ 2).toInt ≤ _
            rw [pk_us, e2]
            omega
    · rw [if_neg c1]
      exact ⟨i1, i2, i3, i4, by omega⟩

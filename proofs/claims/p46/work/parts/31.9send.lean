/-! sending -/
def sg_T7 (P : sg_Pic) (x y z v x5 : Int32) : sg_Pic := sg_up (sg_up (sg_up (sg_up (sg_up (sg_up (sg_up P 60 (sg_cn P 5) x) 61 (sg_cn P 5) y) 62 (sg_cn P 5) z) 63 (sg_cn P 5) v) 64 (sg_cn P 5) x5) 65 (sg_cn P 5) 1) 0 5 ((P 0 5) + 1)
theorem sg_tadd_T7 {P : sg_Pic} {x y z v x5 : Int32} (c : sg_full P = 0) : sg_tadd P x y z v x5 = sg_T7 P x y z v x5 := by
  unfold sg_tadd
  rw [if_pos c]
  rfl
theorem sg_T7_c5 {P : sg_Pic} {x y z v x5 : Int32} (hw : sg_W P) (h : sg_cn P 5 < 90) : sg_cn (sg_T7 P x y z v x5) 5 = sg_cn P 5 + 1 := by
  show Int32.toNatClampNeg (upd (P 0) 5 ((P 0 5) + 1) 5) = _
  rw [pk_us, hw.e5, nI_1, nI_clamp (by omega)]
theorem sg_T7_MT {P : sg_Pic} {x y z v x5 : Int32} (h : sg_cn P 5 < 90) (ht : sg_TI P) : sg_MT (sg_T7 P x y z v x5) = sg_MT P + z.toInt * sg_pr P x := by
  have e65 : P 65 (sg_cn P 5) = 0 := ht.2 _ (Nat.le_refl _) h
  refine sg_sum_in (k := sg_cn P 5) ?_ (fun i hi => ?_) h
  · show (if upd (P 65) (sg_cn P 5) 1 (sg_cn P 5) = 1 then (upd (P 62) (sg_cn P 5) z (sg_cn P 5)).toInt else 0) * sg_pr P (upd (P 60) (sg_cn P 5) x (sg_cn P 5)) = (if P 65 (sg_cn P 5) = 1 then (P 62 (sg_cn P 5)).toInt else 0) * sg_pr P (P 60 (sg_cn P 5)) + _
    rw [pk_us, pk_us, pk_us, if_pos rfl, e65, if_neg (by decide), Int.zero_mul]
    omega
  · show (if upd (P 65) (sg_cn P 5) 1 i = 1 then (upd (P 62) (sg_cn P 5) z i).toInt else 0) * sg_pr P (upd (P 60) (sg_cn P 5) x i) = _
    rw [pk_un hi, pk_un hi, pk_un hi]
theorem sg_T7_mv {P : sg_Pic} {x y z v x5 : Int32} (h : sg_cn P 5 < 90) (ht : sg_TI P) : sg_mv (sg_T7 P x y z v x5) = sg_mv P + 1 := by
  have e65 : P 65 (sg_cn P 5) = 0 := ht.2 _ (Nat.le_refl _) h
  refine sg_sum_in (k := sg_cn P 5) ?_ (fun i hi => ?_) h
  · show (if upd (P 65) (sg_cn P 5) 1 (sg_cn P 5) = 1 then (1 : Int) else 0) = (if P 65 (sg_cn P 5) = 1 then (1 : Int) else 0) + 1
    rw [pk_us, if_pos rfl, e65, if_neg (by decide)]
    rfl
  · show (if upd (P 65) (sg_cn P 5) 1 i = 1 then (1 : Int) else 0) = _
    rw [pk_un hi]
theorem sg_T7_TI {P : sg_Pic} {z v x5 : Int32} {i s : Nat} (hw : sg_W P) (h : sg_cn P 5 < 90) (ht : sg_TI P) (hi : i < sg_cn P 1) (hs : s < sg_cn P 2) (hz : 0 ≤ z.toInt) (hz1 : z.toInt ≤ 1300) (h5 : x5.toInt ≤ 5000) : sg_TI (sg_T7 P (nI i) (nI s) z v x5) := by
  refine ⟨fun t c => ?_, fun t c1 c2 => ?_⟩
  · rw [sg_T7_c5 hw h] at c
    show (∃ i', i' < sg_cn P 1 ∧ upd (P 60) (sg_cn P 5) (nI i) t = nI i') ∧ (∃ s', s' < sg_cn P 2 ∧ upd (P 61) (sg_cn P 5) (nI s) t = nI s') ∧ (0 ≤ (upd (P 62) (sg_cn P 5) z t).toInt ∧ (upd (P 62) (sg_cn P 5) z t).toInt ≤ 1300 ∧ (upd (P 64) (sg_cn P 5) x5 t).toInt ≤ 5000)
    by_cases e : t = sg_cn P 5
    · rw [e, pk_us, pk_us, pk_us, pk_us]
      exact ⟨⟨i, hi, rfl⟩, ⟨s, hs, rfl⟩, hz, hz1, h5⟩
    · rw [pk_un e, pk_un e, pk_un e, pk_un e]
      exact ht.1 t (by omega)
  · rw [sg_T7_c5 hw h] at c1
    show upd (P 65) (sg_cn P 5) 1 t = 0
    rw [pk_un (by omega)]
    exact ht.2 t (by omega) c2
/-- one part goes: from a lot to a transport -/
theorem sg_sendstep {k d : Nat} {P : sg_Pic} {i s f : Nat} {w v : Int32} (h : sg_V k d P) (ha : sg_LA P) (hi : i < sg_cn P 1) (hs : s < sg_cn P 2) (hf : f < sg_cn P 3) (ef : P 40 f = nI i) (h5 : sg_cn P 5 < 90) (w0 : 0 ≤ w.toInt) (w1 : w.toInt ≤ (P 42 f).toInt - (P 43 f).toInt) : sg_V k d (sg_up (sg_T7 P (nI i) (nI s) w v (P 44 f)) 42 f ((P 42 f) - w)) ∧ sg_LA (sg_up (sg_T7 P (nI i) (nI s) w v (P 44 f)) 42 f ((P 42 f) - w)) := by
  have h3 := h.W.n3
  have a1 := h.R.ln (show f < 200 by omega)
  have a2 := h.R.2.2.2.2.1 f (by omega)
  have ev : ((P 42 f) - w).toInt = (P 42 f).toInt - w.toInt := sg_sub (by omega) (by omega)
  have l44 := (h.LI.1 f hf).2.2
  have hc := h.CI
  have hti : sg_TI (sg_T7 P (nI i) (nI s) w v (P 44 f)) := sg_T7_TI h.W h5 h.TI hi hs w0 (by omega) l44
  have hWT : sg_W (sg_T7 P (nI i) (nI s) w v (P 44 f)) := h.W.up5 h5
  refine ⟨⟨hWT, sg_u42_RI (P := sg_T7 P (nI i) (nI s) w v (P 44 f)) h.R (by omega) (by rw [ev]; show (P 43 f).toInt ≤ _; omega) (by rw [ev]; omega), ⟨h.PI, sg_u42_LI (P := sg_T7 P (nI i) (nI s) w v (P 44 f)) h.LI (fun q => ?_), hti, sg_u42_SI (P := sg_T7 P (nI i) (nI s) w v (P 44 f)) h.SI (by rw [ev]; show _ ≤ (P 42 f).toInt; omega), h.OI, ?_, ?_, ?_⟩, ?_, h.DI⟩, sg_u42_LA (P := sg_T7 P (nI i) (nI s) w v (P 44 f)) ha (by rw [ev]; show _ ≤ (P 42 f).toInt; omega)⟩
  · have q1 : sg_cn P 3 ≤ f := q
    omega
  · exact h.MI.1
  · show (P 70 3).toInt = sg_ML (sg_up (sg_T7 P (nI i) (nI s) w v (P 44 f)) 42 f ((P 42 f) - w)) + sg_MT (sg_T7 P (nI i) (nI s) w v (P 44 f)) + sg_ME P + (P 70 1).toInt
    rw [sg_u42_ML (by omega), sg_T7_MT h5 h.TI, ev]
    show (P 70 3).toInt = sg_ML P - ((P 42 f).toInt - ((P 42 f).toInt - w.toInt)) * sg_pr P (P 40 f) + (sg_MT P + w.toInt * sg_pr P (nI i)) + sg_ME P + (P 70 1).toInt
    rw [ef, show (P 42 f).toInt - ((P 42 f).toInt - w.toInt) = w.toInt by omega]
    have := h.MI.2.1
    omega
  · exact h.MI.2.2
  · refine ⟨?_, hc.2.1, ?_⟩
    · show (sg_cn P 3 : Int) + sg_mv (sg_T7 P (nI i) (nI s) w v (P 44 f)) ≤ (k : Int) + (sg_cn (sg_T7 P (nI i) (nI s) w v (P 44 f)) 5 : Int)
      rw [sg_T7_mv h5 h.TI, sg_T7_c5 h.W h5]
      have := hc.1
      omega
    · show (P 70 3).toInt ≤ 26000 * ((k : Int) + (sg_cn (sg_T7 P (nI i) (nI s) w v (P 44 f)) 5 : Int))
      rw [sg_T7_c5 h.W h5]
      have := hc.2.2
      omega
theorem sg_su_V {k d : Nat} {P : sg_Pic} {i s : Nat} {y v : Int32} : ∀ (n : Nat) (x : Int32) (R : sg_Pic), sg_V k d R → sg_LA R → i < sg_cn R 1 → s < sg_cn R 2 → 0 ≤ x.toInt → x.toInt ≤ v.toInt → sg_V k d (sg_sendUnits_33 P (nI i) y (nI s) v n x R).2 ∧ sg_LA (sg_sendUnits_33 P (nI i) y (nI s) v n x R).2 ∧ 0 ≤ (sg_sendUnits_33 P (nI i) y (nI s) v n x R).1.toInt ∧ (sg_sendUnits_33 P (nI i) y (nI s) v n x R).1.toInt ≤ v.toInt ∧ (sg_sendUnits_33 P (nI i) y (nI s) v n x R).2 70 = R 70
  | 0, x, R, h, ha, _, _, x0, x1 => by
    rw [sg_sendUnits_33]
    exact ⟨h, ha, x0, x1, rfl⟩
  | n + 1, x, R, h, ha, hi, hs, x0, x1 => by
    have h3 := h.W.n3
    rw [sg_sendUnits_33]
    by_cases c1 : v ≤ x
    · rw [if_pos c1]
      exact ⟨h, ha, x0, x1, rfl⟩
    · rw [if_neg c1]
      by_cases c2 : sg_full R = 0
      · rw [if_pos c2]
        have h5 := sg_full_lt h.W c2
        generalize (((P 0 0) + (sg_daysBetween P y (nI s))) + 1) = e
        generalize ((P 0 0) + (sg_daysBetween P y (nI s))) = g
        by_cases c3 : sg_firstFree R (nI i) y e = -1
        · rw [if_pos c3]
          exact ⟨h, ha, x0, x1, rfl⟩
        · rw [if_neg c3]
          obtain ⟨f1, f2, f3, f4, f5⟩ := sg_firstFree_S h3 c3
          generalize Int32.toNatClampNeg (sg_firstFree R (nI i) y e) = f at f1 f2 f3 f4 f5 ⊢
          have hv1 : ¬ v.toInt ≤ x.toInt := fun q => c1 (sg_le.mpr q)
          have hb := sg_hi v
          have e1 : (v - x).toInt = v.toInt - x.toInt := sg_sub (by omega) (by omega)
          have e2 := sg_freeOf_v h.R (show f < 200 by omega)
          have p1 : 0 < (sg_freeOf R f).toInt := by
            exact sg_pos f5
          have m := @sg_min_v (sg_freeOf R f) (v - x)
          generalize (if (sg_freeOf R f) < (v - x) then (sg_freeOf R f) else (v - x)) = w at m ⊢
          have w0 : 0 ≤ w.toInt := by
            rcases m.2.2 with q | q <;> rw [q] <;> omega
          have e3 : (x + w).toInt = x.toInt + w.toInt := sg_add (by omega) (by omega)
          have e4 : sg_tadd R (nI i) (nI s) w g (R 44 f) = sg_T7 R (nI i) (nI s) w g (R 44 f) := sg_tadd_T7 c2
          have st := sg_sendstep (v := g) h ha hi hs f1 f2 h5 w0 (by rw [← e2]; exact m.1)
          rw [e4]
          have ih := sg_su_V (P := P) (y := y) (v := v) n (x + w) (sg_up (sg_T7 R (nI i) (nI s) w g (R 44 f)) 42 f ((R 42 f) - w)) st.1 st.2 hi hs (by omega) (by omega)
          exact ⟨ih.1, ih.2.1, ih.2.2.1, ih.2.2.2.1, ih.2.2.2.2⟩
      · rw [if_neg c2]
        exact ⟨h, ha, x0, x1, rfl⟩
theorem sg_sendUnits_V {k d : Nat} {P : sg_Pic} {i s : Nat} {y v : Int32} (h : sg_V k d P) (ha : sg_LA P) (hi : i < sg_cn P 1) (hs : s < sg_cn P 2) (hv : 0 ≤ v.toInt) : sg_V k d (sg_sendUnits P (nI i) y (nI s) v) ∧ sg_LA (sg_sendUnits P (nI i) y (nI s) v) ∧ sg_sendUnits P (nI i) y (nI s) v 70 = P 70 ∧ 0 ≤ (sg_sendUnits_r P (nI i) y (nI s) v).toInt ∧ (sg_sendUnits_r P (nI i) y (nI s) v).toInt ≤ v.toInt := by
  unfold sg_sendUnits sg_sendUnits_r
  split
  · exact ⟨h, ha, rfl, by decide, by rw [sg_z0]; exact hv⟩
  · have g := sg_su_V (P := P) (y := y) (v := v) 90 0 P h ha hi hs (by decide) (by rw [sg_z0]; exact hv)
    exact ⟨g.1, g.2.1, g.2.2.2.2, g.2.2.1, g.2.2.2.1⟩
theorem sg_orderOutside_V {k d : Nat} {P : sg_Pic} {i s : Nat} {z v : Int32} (h : sg_V k d P) (ha : sg_LA P) (hd : d ≤ 1000) (hi : i < sg_cn P 1) (hs : s < sg_cn P 2) (hz : 0 ≤ z.toInt) (hz1 : z.toInt ≤ 1300) (hv : 0 ≤ v.toInt) (hv1 : v.toInt ≤ 20) : sg_V k d (sg_orderOutside P (nI i) (nI s) z v) ∧ sg_LA (sg_orderOutside P (nI i) (nI s) z v) ∧ (sg_orderOutside P (nI i) (nI s) z v 70 0 = P 70 0 ∧ sg_orderOutside P (nI i) (nI s) z v 70 2 = P 70 2) := by
  have h1 := h.W.n1
  unfold sg_orderOutside
  by_cases c1 : sg_full P = 0
  · rw [if_pos c1, if_neg (sg_hasI1 h.W hi), nI_clamp (by omega)]
    have h5 := sg_full_lt h.W c1
    rw [sg_tadd_T7 c1]
    have ed : P 0 0 = nI d := h.DI
    have ed1 : (P 0 0).toInt = d := by rw [ed, nI_toInt (by omega)]
    have pl := (h.PI.1 i (by omega)).2.2
    have e1 : ((P 0 0) + v).toInt = (d : Int) + v.toInt := by rw [sg_add (by rw [ed1]; omega) (by rw [ed1]; omega), ed1]
    have e2 : (((P 0 0) + v) + (P 10 i)).toInt = (d : Int) + v.toInt + (P 10 i).toInt := by rw [sg_add (by rw [e1]; omega) (by rw [e1]; omega), e1]
    generalize ((P 0 0) + v) = u at e1 e2 ⊢
    generalize (u + (P 10 i)) = w at e2 ⊢
    have hp := sg_pr_b h.W h.PI (nI i)
    have b0 : 0 ≤ z.toInt * sg_pr P (nI i) := Int.mul_nonneg hz hp.1
    have b1 : z.toInt * sg_pr P (nI i) ≤ 1300 * 20 := Int.mul_le_mul hz1 hp.2 hp.1 (by decide)
    have hc := h.CI
    have hk := hc.2.1.2
    have hA := hc.2.2
    have h5n := h.W.n5
    have m1 := h.MI.2.1
    have m2 := sg_ML_nn h.W h.PI h.R
    have m3 := sg_MT_nn h.W h.PI h.TI
    have m4 := sg_ME_nn h.W h.PI h.R
    have m5 := h.MI.2.2
    have e3 : (z * (sg_priceOf (sg_T7 P (nI i) (nI s) z u w) (nI i))).toInt = z.toInt * sg_pr P (nI i) := sg_mul (x := z) (y := sg_priceOf (sg_T7 P (nI i) (nI s) z u w) (nI i)) (by show -2147483648 ≤ z.toInt * sg_pr P (nI i); omega) (by show z.toInt * sg_pr P (nI i) ≤ _; omega)
    have e4 : ((P 70 3) + (z * (sg_priceOf (sg_T7 P (nI i) (nI s) z u w) (nI i)))).toInt = (P 70 3).toInt + z.toInt * sg_pr P (nI i) := by rw [sg_add (by rw [e3]; omega) (by rw [e3]; omega), e3]
    have e5 : (sg_T7 P (nI i) (nI s) z u w 70 3) = P 70 3 := rfl
    rw [e5]
    generalize ((P 70 3) + (z * (sg_priceOf (sg_T7 P (nI i) (nI s) z u w) (nI i)))) = a at e4 ⊢
    have hti : sg_TI (sg_T7 P (nI i) (nI s) z u w) := sg_T7_TI h.W h5 h.TI hi hs hz hz1 (by omega)
    have hWT : sg_W (sg_T7 P (nI i) (nI s) z u w) := h.W.up5 h5
    refine ⟨⟨hWT, h.R, ⟨h.PI, h.LI, hti, h.SI, h.OI, ?_, ?_, ?_⟩, ?_, h.DI⟩, ha, ?_, ?_⟩
    · show (upd (P 70) 3 a 4).toInt = 2 * sg_ME P
      rw [pk_un (by decide)]
      exact h.MI.1
    · show (upd (P 70) 3 a 3).toInt = sg_ML P + sg_MT (sg_T7 P (nI i) (nI s) z u w) + sg_ME P + (upd (P 70) 3 a 1).toInt
      rw [pk_us, pk_un (by decide), sg_T7_MT h5 h.TI, e4]
      omega
    · show 0 ≤ (upd (P 70) 3 a 1).toInt
      rw [pk_un (by decide)]
      exact m5
    · refine ⟨?_, hc.2.1, ?_⟩
      · show (sg_cn P 3 : Int) + sg_mv (sg_T7 P (nI i) (nI s) z u w) ≤ (k : Int) + (sg_cn (sg_T7 P (nI i) (nI s) z u w) 5 : Int)
        rw [sg_T7_mv h5 h.TI, sg_T7_c5 h.W h5]
        have := hc.1
        omega
      · show (upd (P 70) 3 a 3).toInt ≤ 26000 * ((k : Int) + (sg_cn (sg_T7 P (nI i) (nI s) z u w) 5 : Int))
        rw [pk_us, sg_T7_c5 h.W h5, e4]
        omega
    · show upd (P 70) 3 a 0 = P 70 0
      exact pk_un (by decide)
    · show upd (P 70) 3 a 2 = P 70 2
      exact pk_un (by decide)
  · rw [if_neg c1]
    exact ⟨h, ha, rfl, rfl⟩

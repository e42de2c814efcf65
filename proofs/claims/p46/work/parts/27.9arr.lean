/-! a day: what arrives -/
theorem sg_off_MT {P : sg_Pic} {t : Nat} (ht : t < 90) (h1 : P 65 t = 1) : sg_MT (sg_up P 65 t 0) = sg_MT P - (P 62 t).toInt * sg_pr P (P 60 t) := by
  have e : sg_MT (sg_up P 65 t 0) = sg_MT P + (-((P 62 t).toInt * sg_pr P (P 60 t))) := by
    refine sg_sum_in (k := t) ?_ (fun i hi => ?_) ht
    · show (if upd (P 65) t 0 t = 1 then (P 62 t).toInt else 0) * sg_pr P (P 60 t) = (if P 65 t = 1 then (P 62 t).toInt else 0) * sg_pr P (P 60 t) + _
      rw [pk_us, if_neg (by decide), if_pos h1, Int.zero_mul]
      omega
    · show (if upd (P 65) t 0 i = 1 then (P 62 i).toInt else 0) * sg_pr P (P 60 i) = _
      rw [pk_un hi]
  omega
theorem sg_off_mv {P : sg_Pic} {t : Nat} (ht : t < 90) (h1 : P 65 t = 1) : sg_mv (sg_up P 65 t 0) = sg_mv P - 1 := by
  have e : sg_mv (sg_up P 65 t 0) = sg_mv P + (-1) := by
    refine sg_sum_in (k := t) ?_ (fun i hi => ?_) ht
    · show (if upd (P 65) t 0 t = 1 then (1 : Int) else 0) = (if P 65 t = 1 then (1 : Int) else 0) + _
      rw [pk_us, if_neg (by decide), if_pos h1]
      rfl
    · show (if upd (P 65) t 0 i = 1 then (1 : Int) else 0) = _
      rw [pk_un hi]
  omega
theorem sg_off_TI {P : sg_Pic} {t : Nat} (h : sg_TI P) : sg_TI (sg_up P 65 t 0) := by
  refine ⟨h.1, fun t1 h1 h2 => ?_⟩
  show upd (P 65) t 0 t1 = 0
  by_cases c : t1 = t
  · subst c
    exact pk_us
  · rw [pk_un c]
    exact h.2 t1 h1 h2
/-- one that arrives is lost whole -/
theorem sg_tiA {k d : Nat} {P : sg_Pic} {t : Nat} {w : Int32} (h : sg_V k d P) (ht : t < sg_cn P 5) (h1 : P 65 t = 1) (hw0 : w.toInt = (P 62 t).toInt) : sg_V k d (sg_waste (sg_up P 65 t 0) (P 60 t) w) := by
  have h5 := h.W.n5
  have hp := sg_pr_b h.W h.PI (P 60 t)
  have ti := h.TI.1 t ht
  have m0 : 0 ≤ (P 62 t).toInt * sg_pr P (P 60 t) := Int.mul_nonneg ti.2.2.1 hp.1
  have m1 : (if P 65 t = 1 then (P 62 t).toInt else 0) * sg_pr P (P 60 t) ≤ sg_MT P := sg_sum_one (f := fun t => (if P 65 t = 1 then (P 62 t).toInt else 0) * sg_pr P (P 60 t)) 90 (fun i hi => by
    refine Int.mul_nonneg ?_ (sg_pr_b h.W h.PI _).1
    split
    · rename_i c
      rcases Nat.lt_or_ge i (sg_cn P 5) with q | q
      · exact (h.TI.1 i q).2.2.1
      · rw [h.TI.2 i q hi] at c
        exact absurd c (by decide)
    · exact Int.le_refl 0) t (by omega)
  rw [if_pos h1] at m1
  have m2 := sg_ML_nn h.W h.PI h.R
  have m3 := sg_ME_nn h.W h.PI h.R
  have m4 := h.MI.2.1
  have m5 := h.MI.2.2
  have m6 := sg_hi (P 70 3)
  have hc := h.CI
  have e1 : (sg_waste (sg_up P 65 t 0) (P 60 t) w 70 1).toInt = (P 70 1).toInt + w.toInt * sg_pr P (P 60 t) := sg_waste_v (P := sg_up P 65 t 0) (x := P 60 t) (v := w) (by show -2147483648 ≤ (P 70 1).toInt + w.toInt * sg_pr P (P 60 t); rw [hw0]; omega) (by show (P 70 1).toInt + w.toInt * sg_pr P (P 60 t) ≤ _; rw [hw0]; omega) (by show 0 ≤ w.toInt * sg_pr P (P 60 t); rw [hw0]; exact m0) (by show w.toInt * sg_pr P (P 60 t) ≤ _; rw [hw0]; omega)
  refine ⟨h.W, h.R, ⟨h.PI, h.LI, sg_off_TI h.TI, h.SI, h.OI, ?_, ?_, ?_⟩, ?_, h.DI⟩
  · show (sg_waste (sg_up P 65 t 0) (P 60 t) w 70 4).toInt = 2 * sg_ME P
    rw [sg_waste_o (by decide)]
    exact h.MI.1
  · show (sg_waste (sg_up P 65 t 0) (P 60 t) w 70 3).toInt = sg_ML P + sg_MT (sg_up P 65 t 0) + sg_ME P + (sg_waste (sg_up P 65 t 0) (P 60 t) w 70 1).toInt
    rw [sg_waste_o (by decide), e1, sg_off_MT (by omega) h1, hw0]
    show (P 70 3).toInt = _
    omega
  · show 0 ≤ (sg_waste (sg_up P 65 t 0) (P 60 t) w 70 1).toInt
    rw [e1, hw0]
    omega
  · refine ⟨?_, hc.2.1, ?_⟩
    · show (sg_cn P 3 : Int) + sg_mv (sg_up P 65 t 0) ≤ (k : Int) + (sg_cn P 5 : Int)
      rw [sg_off_mv (by omega) h1]
      have := hc.1
      omega
    · show (sg_waste (sg_up P 65 t 0) (P 60 t) w 70 3).toInt ≤ _
      rw [sg_waste_o (by decide)]
      exact hc.2.2
/-- one that arrives is taken in, and the rest is lost -/
theorem sg_tiB {k d : Nat} {P : sg_Pic} {t : Nat} {w z v : Int32} (h : sg_V k d P) (ht : t < sg_cn P 5) (h1 : P 65 t = 1) (h3 : sg_cn P 3 < 200) (hz0 : 0 ≤ z.toInt) (hz1 : z.toInt ≤ (P 62 t).toInt) (hw0 : w.toInt = (P 62 t).toInt - z.toInt) {s : Nat} (hs : s < sg_cn P 2) (es : P 61 t = nI s) (hr : sg_us P s + z.toInt ≤ (P 20 s).toInt) (hv : v.toInt ≤ 5000) : sg_V k d (sg_waste (sg_ladd (sg_up P 65 t 0) (P 60 t) (P 61 t) z v) (P 60 t) w) := by
  have h5 := h.W.n5
  have hp := sg_pr_b h.W h.PI (P 60 t)
  have ti := h.TI.1 t ht
  obtain ⟨i, hi, ei⟩ := ti.1
  have m0 : 0 ≤ w.toInt * sg_pr P (P 60 t) := Int.mul_nonneg (by omega) hp.1
  have mz : 0 ≤ z.toInt * sg_pr P (P 60 t) := Int.mul_nonneg hz0 hp.1
  have m1 : (if P 65 t = 1 then (P 62 t).toInt else 0) * sg_pr P (P 60 t) ≤ sg_MT P := sg_sum_one (f := fun t => (if P 65 t = 1 then (P 62 t).toInt else 0) * sg_pr P (P 60 t)) 90 (fun i hi => by
    refine Int.mul_nonneg ?_ (sg_pr_b h.W h.PI _).1
    split
    · rename_i c
      rcases Nat.lt_or_ge i (sg_cn P 5) with q | q
      · exact (h.TI.1 i q).2.2.1
      · rw [h.TI.2 i q hi] at c
        exact absurd c (by decide)
    · exact Int.le_refl 0) t (by omega)
  rw [if_pos h1] at m1
  have mw : w.toInt * sg_pr P (P 60 t) = (P 62 t).toInt * sg_pr P (P 60 t) - z.toInt * sg_pr P (P 60 t) := by rw [hw0, Int.sub_mul]
  have m2 := sg_ML_nn h.W h.PI h.R
  have m3 := sg_ME_nn h.W h.PI h.R
  have m4 := h.MI.2.1
  have m5 := h.MI.2.2
  have m6 := sg_hi (P 70 3)
  have hc := h.CI
  have hW1 : sg_W (sg_up P 65 t 0) := h.W
  have h31 : sg_cn (sg_up P 65 t 0) 3 < 200 := h3
  rw [sg_ladd_L5 hW1 h31]
  have e1 : (sg_waste (sg_L5 (sg_up P 65 t 0) (P 60 t) (P 61 t) z v) (P 60 t) w 70 1).toInt = (P 70 1).toInt + w.toInt * sg_pr P (P 60 t) := sg_waste_v (P := sg_L5 (sg_up P 65 t 0) (P 60 t) (P 61 t) z v) (x := P 60 t) (v := w) (by show -2147483648 ≤ (P 70 1).toInt + w.toInt * sg_pr P (P 60 t); omega) (by show (P 70 1).toInt + w.toInt * sg_pr P (P 60 t) ≤ _; omega) m0 (by show w.toInt * sg_pr P (P 60 t) ≤ _; omega)
  have eML : sg_ML (sg_L5 (sg_up P 65 t 0) (P 60 t) (P 61 t) z v) = sg_ML P + z.toInt * sg_pr P (P 60 t) := sg_L5_ML (P := sg_up P 65 t 0) h31 h.LI
  refine ⟨sg_L5_W hW1 h31, sg_L5_RI (v := v) hW1 h31 h.R hz0 (by omega), ⟨h.PI, ?_, ?_, ?_, ?_, ?_, ?_, ?_⟩, ?_, ?_⟩
  · show sg_LI (sg_L5 (sg_up P 65 t 0) (P 60 t) (P 61 t) z v)
    rw [ei, es]
    exact sg_L5_LI hW1 h31 h.LI hi hs hv
  · have q := sg_off_TI (t := t) h.TI
    exact q
  · show sg_SI (sg_L5 (sg_up P 65 t 0) (P 60 t) (P 61 t) z v)
    rw [es]
    exact sg_L5_SI hW1 h31 h.LI h.SI hs hr
  · exact h.OI
  · show (sg_waste (sg_L5 (sg_up P 65 t 0) (P 60 t) (P 61 t) z v) (P 60 t) w 70 4).toInt = 2 * sg_ME P
    rw [sg_waste_o (by decide)]
    exact h.MI.1
  · show (sg_waste (sg_L5 (sg_up P 65 t 0) (P 60 t) (P 61 t) z v) (P 60 t) w 70 3).toInt = sg_ML (sg_L5 (sg_up P 65 t 0) (P 60 t) (P 61 t) z v) + sg_MT (sg_up P 65 t 0) + sg_ME P + (sg_waste (sg_L5 (sg_up P 65 t 0) (P 60 t) (P 61 t) z v) (P 60 t) w 70 1).toInt
    rw [sg_waste_o (by decide), e1, eML, sg_off_MT (by omega) h1]
    show (P 70 3).toInt = _
    omega
  · show 0 ≤ (sg_waste (sg_L5 (sg_up P 65 t 0) (P 60 t) (P 61 t) z v) (P 60 t) w 70 1).toInt
    rw [e1]
    omega
  · refine ⟨?_, hc.2.1, ?_⟩
    · show (sg_cn (sg_L5 (sg_up P 65 t 0) (P 60 t) (P 61 t) z v) 3 : Int) + sg_mv (sg_up P 65 t 0) ≤ (k : Int) + (sg_cn P 5 : Int)
      rw [sg_off_mv (by omega) h1, sg_L5_c3 hW1 h31]
      have e : sg_cn (sg_up P 65 t 0) 3 = sg_cn P 3 := rfl
      have := hc.1
      rw [e]
      omega
    · show (sg_waste (sg_L5 (sg_up P 65 t 0) (P 60 t) (P 61 t) z v) (P 60 t) w 70 3).toInt ≤ 26000 * ((k : Int) + (sg_cn P 5 : Int))
      rw [sg_waste_o (by decide)]
      exact hc.2.2
  · exact h.DI

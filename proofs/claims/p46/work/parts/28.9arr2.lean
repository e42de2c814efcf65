theorem sg_ladd_f {P : sg_Pic} {x y z v : Int32} (r : Nat) (h0 : r ≠ 0) (h1 : r ≠ 40) (h2 : r ≠ 41) (h3 : r ≠ 42) (h4 : r ≠ 43) (h5 : r ≠ 44) : sg_ladd P x y z v r = P r := by
  unfold sg_ladd
  split
  · rw [sg_up_n h0, sg_up_n h5, sg_up_n h4, sg_up_n h3, sg_up_n h2, sg_up_n h1]
  · rfl
theorem sg_takeIn_V {k d : Nat} {P : sg_Pic} {t : Nat} (h : sg_V k d P) (ha : sg_LA P) (ht : t < sg_cn P 5) (h1 : P 65 t = 1) : sg_V k d (sg_takeIn P t) ∧ sg_LA (sg_takeIn P t) ∧ (sg_takeIn P t 70 0 = P 70 0 ∧ sg_takeIn P t 70 2 = P 70 2) := by
  have ti := h.TI.1 t ht
  obtain ⟨s, hs, es⟩ := ti.2.1
  unfold sg_takeIn
  by_cases c1 : P 64 t < P 0 0
  · rw [if_pos c1]
    have ew : (P 62 t - 0).toInt = (P 62 t).toInt := by rw [sg_sub (by rw [sg_z0]; omega) (by rw [sg_z0]; omega), sg_z0]; omega
    refine ⟨sg_tiA h ht h1 ew, ha, ?_, ?_⟩
    · rw [sg_waste_o (by decide)]
      rfl
    · rw [sg_waste_o (by decide)]
      rfl
  · rw [if_neg c1]
    by_cases c2 : P 0 3 < 200
    · rw [if_pos c2]
      have h3 : sg_cn P 3 < 200 := sg_ltl (M := 200) h.W.e3 (Nat.lt_of_le_of_lt h.W.n3 (by decide)) (by decide) c2
      have er : (sg_roomAt (sg_up P 65 t 0) (P 61 t)).toInt = (P 20 s).toInt - sg_us P s := by
        rw [es]
        exact sg_roomAt_v (P := sg_up P 65 t 0) h.W h.R h.LI h.SI hs
      have hsi := h.SI s hs
      have m := @sg_min_v (sg_roomAt (sg_up P 65 t 0) (P 61 t)) (P 62 t)
      generalize (if (sg_roomAt (sg_up P 65 t 0) (P 61 t)) < (P 62 t) then (sg_roomAt (sg_up P 65 t 0) (P 61 t)) else (P 62 t)) = z at m ⊢
      have p0 : 0 ≤ z.toInt := by
        rcases m.2.2 with q | q
        · rw [q, er]
          omega
        · rw [q]
          omega
      by_cases c3 : z ≤ 0
      · rw [if_pos c3]
        have z0 : z.toInt = 0 := by
          have := sg_le.mp c3
          rw [sg_z0] at this
          omega
        have ew : (P 62 t - z).toInt = (P 62 t).toInt := by rw [sg_sub (by omega) (by omega)]; omega
        refine ⟨sg_tiA h ht h1 ew, ha, ?_, ?_⟩
        · rw [sg_waste_o (by decide)]
          rfl
        · rw [sg_waste_o (by decide)]
          rfl
      · rw [if_neg c3]
        have e62 : sg_ladd (sg_up P 65 t 0) (P 60 t) (P 61 t) z (P 64 t) 62 = P 62 := sg_ladd_f 62 (by decide) (by decide) (by decide) (by decide) (by decide) (by decide)
        have e70 : sg_ladd (sg_up P 65 t 0) (P 60 t) (P 61 t) z (P 64 t) 70 = P 70 := sg_ladd_f 70 (by decide) (by decide) (by decide) (by decide) (by decide) (by decide)
        rw [e62]
        have ew : (P 62 t - z).toInt = (P 62 t).toInt - z.toInt := sg_sub (by omega) (by omega)
        refine ⟨sg_tiB h ht h1 h3 p0 m.2.1 ew hs es (by have := m.1; rw [er] at this; omega) ti.2.2.2.2, ?_, ?_, ?_⟩
        · have e := sg_ladd_L5 (P := sg_up P 65 t 0) (x := P 60 t) (y := P 61 t) (z := z) (v := P 64 t) h.W h3
          rw [e]
          have q := sg_L5_LA (P := sg_up P 65 t 0) (x := P 60 t) (y := P 61 t) (z := z) (v := P 64 t) ha c1
          exact q
        · rw [sg_waste_o (by decide), e70]
        · rw [sg_waste_o (by decide), e70]
    · rw [if_neg c2]
      have ew : (P 62 t - 0).toInt = (P 62 t).toInt := by rw [sg_sub (by rw [sg_z0]; omega) (by rw [sg_z0]; omega), sg_z0]; omega
      refine ⟨sg_tiA h ht h1 ew, ha, ?_, ?_⟩
      · rw [sg_waste_o (by decide)]
        rfl
      · rw [sg_waste_o (by decide)]
        rfl
theorem sg_ta_V {k d : Nat} {P : sg_Pic} (h : sg_V k d P) (ha : sg_LA P) : ∀ j, j ≤ sg_cn P 5 → sg_V k d (sg_takeArrivals_2 P j) ∧ sg_LA (sg_takeArrivals_2 P j) ∧ (sg_takeArrivals_2 P j 70 0 = P 70 0 ∧ sg_takeArrivals_2 P j 70 2 = P 70 2)
  | 0, _ => ⟨h, ha, rfl, rfl⟩
  | j + 1, hj => by
    obtain ⟨i1, i2, i3⟩ := sg_ta_V h ha j (by omega)
    have k0 : sg_K3 (sg_takeArrivals_2 P j) P := sg_takeArrivals_2_K _ _
    have e5 : sg_cn (sg_takeArrivals_2 P j) 5 = sg_cn P 5 := by
      unfold sg_cn
      rw [k0.e 5 (by decide)]
    rw [sg_takeArrivals_2]
    generalize sg_takeArrivals_2 P j = R at i1 i2 i3 e5 ⊢
    by_cases c1 : R 65 j = 1
    · rw [if_pos c1]
      by_cases c2 : R 63 j = R 0 0
      · rw [if_pos c2]
        obtain ⟨g1, g2, g3⟩ := sg_takeIn_V (t := j) i1 i2 (by omega) c1
        exact ⟨g1, g2, g3.1.trans i3.1, g3.2.trans i3.2⟩
      · rw [if_neg c2]
        exact ⟨i1, i2, i3⟩
    · rw [if_neg c1]
      exact ⟨i1, i2, i3⟩
theorem sg_takeArrivals_V {k d : Nat} {P : sg_Pic} (h : sg_V k d P) (ha : sg_LA P) : sg_V k d (sg_takeArrivals P) ∧ sg_LA (sg_takeArrivals P) ∧ (sg_takeArrivals P 70 0 = P 70 0 ∧ sg_takeArrivals P 70 2 = P 70 2) := sg_ta_V h ha _ (Nat.le_refl _)
theorem sg_reserveForAll_V {k d : Nat} {P : sg_Pic} (h : sg_V k d P) (ha : sg_LA P) : sg_V k d (sg_reserveForAll P) ∧ sg_LA (sg_reserveForAll P) ∧ (sg_reserveForAll P 70 0 = P 70 0 ∧ sg_reserveForAll P 70 2 = P 70 2) := by
  obtain ⟨g1, g2⟩ := sg_reserveForAll_RI h.R h.W
  have e := g2 70 (by decide) (by decide) (by decide)
  exact ⟨h.put3 g1 g2, ha.put3 g2, by rw [e], by rw [e]⟩

/-! a day: what is past its last day -/
theorem sg_we43 {P : sg_Pic} {j2 : Nat} {P2 : sg_Pic} (h : sg_RI P2) (hx : j2 < 200) : ∀ j, j ≤ 60 → sg_RI (sg_wasteExpired_43 P j2 P2 j) ∧ (∀ o, o < j → sg_h (sg_wasteExpired_43 P j2 P2 j) o j2 = 0) ∧ (∀ r, r ≠ 43 → r ≠ 53 → r ≠ 59 → sg_wasteExpired_43 P j2 P2 j r = P2 r)
  | 0, _ => ⟨h, fun _ hx => absurd hx (Nat.not_lt_zero _), fun _ _ _ _ => rfl⟩
  | j + 1, hj => by
    obtain ⟨r1, r2, r3⟩ := sg_we43 (P := P) h hx j (by omega)
    have b := sg_back_RI r1 (show j < 60 by omega) hx
    rw [sg_wasteExpired_43]
    refine ⟨b.1, fun o ho => ?_, fun r c1 c2 c3 => (sg_hold_f r c1 c2 c3).trans (r3 r c1 c2 c3)⟩
    by_cases c : o = j
    · subst c
      exact b.2
    · rw [sg_hold_hn hx hx (fun q => c q.1)]
      exact r2 o (by omega)
theorem sg_we_step {k d : Nat} {P : sg_Pic} {j2 : Nat} {P2 : sg_Pic} (h : sg_V k d P2) (hx : j2 < 200) {n : Nat} (hn : n = sg_cn P2 4) : sg_V k d (sg_wasteExpired_43 P j2 P2 n) ∧ (sg_wasteExpired_43 P j2 P2 n 43 j2).toInt = 0 := by
  have h4 := h.W.n4
  obtain ⟨r1, r2, r3⟩ := sg_we43 (P := P) h.R hx n (by omega)
  have k0 : sg_K (sg_wasteExpired_43 P j2 P2 n) P2 := sg_wasteExpired_43_K _ _ _ _
  refine ⟨h.put3 r1 r3, ?_⟩
  rw [r1.2.2.1 j2 hx]
  refine sg_sum_zero 60 (fun o ho => ?_)
  by_cases c : o < n
  · exact r2 o c
  · by_cases e : sg_h (sg_wasteExpired_43 P j2 P2 n) o j2 = 0
    · exact e
    · have q := (r1.2.2.2.1 o j2 ho hx e).2.2.2.1
      rw [k0.c 4] at q
      omega
theorem sg_we_V {k d : Nat} {P : sg_Pic} (h : sg_V k d P) : ∀ j, j ≤ sg_cn P 3 → sg_V k d (sg_wasteExpired_2 P j) ∧ (∀ x, x < j → 0 < (sg_wasteExpired_2 P j 42 x).toInt → ¬ (sg_wasteExpired_2 P j 44 x < sg_wasteExpired_2 P j 0 0)) ∧ (sg_wasteExpired_2 P j 70 0 = P 70 0 ∧ sg_wasteExpired_2 P j 70 2 = P 70 2)
  | 0, _ => ⟨h, fun _ hx => absurd hx (Nat.not_lt_zero _), rfl, rfl⟩
  | j + 1, hj => by
    have h3 := h.W.n3
    obtain ⟨i1, i2, i3⟩ := sg_we_V h j (by omega)
    have k0 : sg_K (sg_wasteExpired_2 P j) P := sg_wasteExpired_2_K _ _
    rw [sg_wasteExpired_2]
    generalize sg_wasteExpired_2 P j = R at i1 i2 i3 k0 ⊢
    by_cases c1 : R 0 0 ≤ R 44 j
    · rw [if_pos c1]
      refine ⟨i1, fun x hx hp => ?_, i3⟩
      by_cases c : x = j
      · subst c
        exact Int32.not_lt.mpr c1
      · exact i2 x (by omega) hp
    · rw [if_neg c1]
      by_cases c2 : R 42 j ≤ 0
      · rw [if_pos c2]
        refine ⟨i1, fun x hx hp => ?_, i3⟩
        by_cases c : x = j
        · subst c
          have := sg_le.mp c2
          rw [sg_z0] at this
          omega
        · exact i2 x (by omega) hp
      · rw [if_neg c2]
        have s := sg_we_step (P := P) (j2 := j) i1 (show j < 200 by omega) (n := sg_cn P 4) (k0.c 4).symm
        have f := (sg_we43 (P := P) (j2 := j) i1.R (show j < 200 by omega) (sg_cn P 4) h.W.n4).2.2
        generalize sg_wasteExpired_43 P j R (sg_cn P 4) = T at s f ⊢
        have g := sg_lose_V s.1 (show j < 200 by omega) s.2
        refine ⟨g, fun x hx hp => ?_, ?_⟩
        · have hp1 : 0 < (upd (T 42) j 0 x).toInt := hp
          show ¬ (T 44 x < T 0 0)
          by_cases c : x = j
          · subst c
            rw [pk_us] at hp1
            exact absurd hp1 (by decide)
          · rw [pk_un c, f 42 (by decide) (by decide) (by decide)] at hp1
            rw [f 44 (by decide) (by decide) (by decide), f 0 (by decide) (by decide) (by decide)]
            exact i2 x (by omega) hp1
        · constructor
          · show sg_waste T (T 40 j) (T 42 j) 70 0 = P 70 0
            rw [sg_waste_o (by decide), f 70 (by decide) (by decide) (by decide)]
            exact i3.1
          · show sg_waste T (T 40 j) (T 42 j) 70 2 = P 70 2
            rw [sg_waste_o (by decide), f 70 (by decide) (by decide) (by decide)]
            exact i3.2
theorem sg_wasteExpired_V {k d : Nat} {P : sg_Pic} (h : sg_V k d P) : sg_V k d (sg_wasteExpired P) ∧ sg_LA (sg_wasteExpired P) ∧ (sg_wasteExpired P 70 0 = P 70 0 ∧ sg_wasteExpired P 70 2 = P 70 2) := by
  obtain ⟨i1, i2, i3⟩ := sg_we_V h _ (Nat.le_refl _)
  refine ⟨i1, fun x hx hp => ?_, i3⟩
  by_cases c : x < sg_cn P 3
  · exact i2 x c hp
  · have k0 : sg_K (sg_wasteExpired P) P := sg_wasteExpired_K _
    have e := i1.LI.2 x (by rw [show sg_cn (sg_wasteExpired_2 P (sg_cn P 3)) 3 = sg_cn P 3 from k0.c 3]; omega) hx
    have hp1 : 0 < (sg_wasteExpired_2 P (sg_cn P 3) 42 x).toInt := hp
    rw [e] at hp1
    exact absurd hp1 (by decide)

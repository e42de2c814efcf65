/-! a day, days -/
theorem sg_ch_V {k d : Nat} {P : sg_Pic} (h : sg_V k d P) (ha : sg_LA P) (hA : 0 ≤ (P 70 0).toInt ∧ (P 70 0).toInt ≤ 2000000000 - 5200000) : ∀ j, j ≤ sg_cn P 3 → sg_V k d (sg_countHolding_2 P j) ∧ sg_LA (sg_countHolding_2 P j) ∧ sg_countHolding_2 P j 70 2 = P 70 2 ∧ (P 70 0).toInt ≤ (sg_countHolding_2 P j 70 0).toInt ∧ (sg_countHolding_2 P j 70 0).toInt ≤ (P 70 0).toInt + 26000 * (j : Int)
  | 0, _ => ⟨h, ha, rfl, Int.le_refl _, by show (P 70 0).toInt ≤ _; omega⟩
  | j + 1, hj => by
    have h3 := h.W.n3
    obtain ⟨i1, i2, i3, i4, i5⟩ := sg_ch_V h ha hA j (by omega)
    rw [sg_countHolding_2]
    generalize sg_countHolding_2 P j = R at i1 i2 i3 i4 i5 ⊢
    have hp := sg_pr_b i1.W i1.PI (R 40 j)
    have u0 := i1.R.un (show j < 200 by omega)
    have u1 := (i1.R.2.2.2.2.1 j (by omega)).2
    have b0 : 0 ≤ (R 42 j).toInt * sg_pr R (R 40 j) := Int.mul_nonneg u0 hp.1
    have b1 : (R 42 j).toInt * sg_pr R (R 40 j) ≤ 1300 * 20 := Int.mul_le_mul u1 hp.2 hp.1 (by decide)
    have e1 : ((R 42 j) * (sg_priceOf R (R 40 j))).toInt = (R 42 j).toInt * sg_pr R (R 40 j) := sg_mul (by show -2147483648 ≤ (R 42 j).toInt * sg_pr R (R 40 j); omega) (by show (R 42 j).toInt * sg_pr R (R 40 j) ≤ _; omega)
    have e2 : ((R 70 0) + ((R 42 j) * (sg_priceOf R (R 40 j)))).toInt = (R 70 0).toInt + (R 42 j).toInt * sg_pr R (R 40 j) := by rw [sg_add (by rw [e1]; omega) (by rw [e1]; omega), e1]
    generalize ((R 70 0) + ((R 42 j) * (sg_priceOf R (R 40 j)))) = v at e2 ⊢
    refine ⟨⟨i1.W, i1.R, ⟨i1.PI, i1.LI, i1.TI, i1.SI, i1.OI, i1.MI⟩, i1.CI, i1.DI⟩, i2, ?_, ?_, ?_⟩
    · show upd (R 70) 0 v 2 = P 70 2
      rw [pk_un (by decide)]
      exact i3
    · show (P 70 0).toInt ≤ (upd (R 70) 0 v 0).toInt
      rw [pk_us, e2]
      omega
    · show (upd (R 70) 0 v 0).toInt ≤ _
      rw [pk_us, e2]
      omega
/-- one day -/
def sg_day1 (P : sg_Pic) : sg_Pic := sg_countHolding (sg_reviewAll (sg_serveDueOrders (sg_reserveForAll (sg_takeArrivals (sg_wasteExpired (sg_up P 0 0 ((P 0 0) + 1)))))))
theorem sg_live_z (P : sg_Pic) (dn : Nat) : sg_liveDays_2 P dn 0 = P := rfl
theorem sg_live_s (P : sg_Pic) (dn j : Nat) : sg_liveDays_2 P dn (j + 1) = sg_day1 (sg_liveDays_2 P dn j) := rfl
theorem sg_day1_V {k d : Nat} {P : sg_Pic} (h : sg_V k d P) (hA : sg_AI d P) (hd : d + 1 ≤ 300) : sg_V k (d + 1) (sg_day1 P) ∧ sg_LA (sg_day1 P) ∧ sg_AI (d + 1) (sg_day1 P) ∧ (P 70 0).toInt ≤ (sg_day1 P 70 0).toInt ∧ (P 70 2).toInt ≤ (sg_day1 P 70 2).toInt := by
  have e0 : (P 0 0) + 1 = nI (d + 1) := by
    rw [show P 0 0 = nI d from h.DI]
    exact nI_1 d
  have v0 : sg_V k (d + 1) (sg_up P 0 0 ((P 0 0) + 1)) := ⟨h.W, h.R, ⟨h.PI, h.LI, h.TI, h.SI, h.OI, h.MI⟩, h.CI, e0⟩
  have r0 : (sg_up P 0 0 ((P 0 0) + 1)) 70 0 = P 70 0 := rfl
  have r2 : (sg_up P 0 0 ((P 0 0) + 1)) 70 2 = P 70 2 := rfl
  have hA1 := hA.1
  have hA2 := hA.2
  unfold sg_day1
  generalize (sg_up P 0 0 ((P 0 0) + 1)) = A at v0 r0 r2 ⊢
  obtain ⟨a1, a2, a3⟩ := sg_wasteExpired_V v0
  generalize sg_wasteExpired A = B at a1 a2 a3 ⊢
  obtain ⟨b1, b2, b3⟩ := sg_takeArrivals_V a1 a2
  generalize sg_takeArrivals B = C at b1 b2 b3 ⊢
  obtain ⟨c1, c2, c3⟩ := sg_reserveForAll_V b1 b2
  generalize sg_reserveForAll C = E at c1 c2 c3 ⊢
  have x0 : E 70 0 = P 70 0 := c3.1.trans (b3.1.trans (a3.1.trans r0))
  have x2 : E 70 2 = P 70 2 := c3.2.trans (b3.2.trans (a3.2.trans r2))
  obtain ⟨d1, d2, d3, d4, d5⟩ := sg_sd_V c1 c2 (show d + 1 ≤ 1000 by omega) (by rw [x2]; omega) _ (Nat.le_refl _)
  have n4 := c1.W.n4
  rw [← show sg_serveDueOrders E = sg_serveDueOrders_2 E (sg_cn E 4) from rfl] at d1 d2 d3 d4 d5
  generalize sg_serveDueOrders E = F at d1 d2 d3 d4 d5 ⊢
  obtain ⟨f1, f2, f3⟩ := sg_reviewAll_V d1 d2 (show d + 1 ≤ 1000 by omega)
  generalize sg_reviewAll F = G at f1 f2 f3 ⊢
  obtain ⟨g1, g2, g3, g4, g5⟩ := sg_ch_V f1 f2 (by rw [f3.1, d3, x0]; omega) _ (Nat.le_refl _)
  have n3 := f1.W.n3
  rw [← show sg_countHolding G = sg_countHolding_2 G (sg_cn G 3) from rfl] at g1 g2 g3 g4 g5
  generalize sg_countHolding G = Z at g1 g2 g3 g4 g5 ⊢
  rw [x2] at d4 d5
  rw [f3.1, d3, x0] at g4 g5
  rw [f3.2] at g3
  refine ⟨g1, g2, ⟨⟨by omega, by omega⟩, ?_, ?_⟩, g4, ?_⟩
  · rw [g3]
    omega
  · rw [g3]
    omega
  · rw [g3]
    exact d4
theorem sg_live_n (P : sg_Pic) (a b : Nat) : ∀ j, sg_liveDays_2 P a j = sg_liveDays_2 P b j
  | 0 => rfl
  | j + 1 => by rw [sg_live_s, sg_live_s, sg_live_n P a b j]
theorem sg_live_1 (P : sg_Pic) : sg_liveDays P 1 = sg_day1 P := rfl
theorem sg_live_f (P : sg_Pic) (a : Nat) : ∀ j, sg_liveDays_2 P a (j + 1) = sg_liveDays_2 (sg_day1 P) a j
  | 0 => by rw [sg_live_s, sg_live_z, sg_live_z]
  | j + 1 => by rw [sg_live_s, sg_live_f P a j, ← sg_live_s]
theorem sg_live_o (P : sg_Pic) (n : Nat) : sg_liveDays (sg_day1 P) n = sg_day1 (sg_liveDays P n) := by
  have e : sg_liveDays_2 P n (n + 1) = sg_day1 (sg_liveDays_2 P n n) := sg_live_s P n n
  rw [sg_live_f] at e
  exact e
